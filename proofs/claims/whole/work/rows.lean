section
-- ===== PART A: goes FIRST, ahead of the names: the tables' words, and 'selects' of the private methods out of them =====
/-- a private method of a class that the tables say can be made, by its rows of tables_1 -/
def lw_okq (q : MethodName × Nat) : Prop := (q.1.cls ≠ "java/lang/invoke/MethodHandle" ∧ q.1.cls ≠ "java/lang/invoke/VarHandle") ∧ Cond.instantiable q.1.cls q.2 ∈ tables_1 ∧ Cond.privateMethod q.1 ∈ tables_1 ∧ Cond.instanceMethod q.1 ∈ tables_1
theorem lw_p0 : lw_okq (⟨"VersionedRows$Expression", "isBool", "()Z"⟩, 5) := ⟨⟨by decide +kernel, by decide +kernel⟩, List.mem_of_getElem? (i := 141) (by decide +kernel), List.mem_of_getElem? (i := 139) (by decide +kernel), List.mem_of_getElem? (i := 140) (by decide +kernel)⟩
theorem lw_p1 : lw_okq (⟨"VersionedRows", "topOfPile", "()LVersionedRows$Expression;"⟩, 13) := ⟨⟨by decide +kernel, by decide +kernel⟩, List.mem_of_getElem? (i := 21) (by decide +kernel), List.mem_of_getElem? (i := 182) (by decide +kernel), List.mem_of_getElem? (i := 183) (by decide +kernel)⟩
theorem lw_p2 : lw_okq (⟨"VersionedRows", "countOpen", "()I"⟩, 13) := ⟨⟨by decide +kernel, by decide +kernel⟩, List.mem_of_getElem? (i := 21) (by decide +kernel), List.mem_of_getElem? (i := 190) (by decide +kernel), List.mem_of_getElem? (i := 191) (by decide +kernel)⟩
theorem lw_p3 : lw_okq (⟨"VersionedRows$Transaction", "isOpen", "()Z"⟩, 5) := ⟨⟨by decide +kernel, by decide +kernel⟩, List.mem_of_getElem? (i := 196) (by decide +kernel), List.mem_of_getElem? (i := 194) (by decide +kernel), List.mem_of_getElem? (i := 195) (by decide +kernel)⟩
theorem lw_p4 : lw_okq (⟨"VersionedRows", "openOne", "(I)LVersionedRows$Transaction;"⟩, 13) := ⟨⟨by decide +kernel, by decide +kernel⟩, List.mem_of_getElem? (i := 21) (by decide +kernel), List.mem_of_getElem? (i := 231) (by decide +kernel), List.mem_of_getElem? (i := 232) (by decide +kernel)⟩
theorem lw_p5 : lw_okq (⟨"VersionedRows", "transactionOf", "(I)LVersionedRows$Transaction;"⟩, 13) := ⟨⟨by decide +kernel, by decide +kernel⟩, List.mem_of_getElem? (i := 21) (by decide +kernel), List.mem_of_getElem? (i := 235) (by decide +kernel), List.mem_of_getElem? (i := 236) (by decide +kernel)⟩
theorem lw_p6 : lw_okq (⟨"VersionedRows", "rowFor", "(LVersionedRows$Transaction;I)LVersionedRows$Row;"⟩, 13) := ⟨⟨by decide +kernel, by decide +kernel⟩, List.mem_of_getElem? (i := 21) (by decide +kernel), List.mem_of_getElem? (i := 242) (by decide +kernel), List.mem_of_getElem? (i := 243) (by decide +kernel)⟩
theorem lw_p7 : lw_okq (⟨"VersionedRows$Store", "rowAt", "(II)LVersionedRows$Row;"⟩, 5) := ⟨⟨by decide +kernel, by decide +kernel⟩, List.mem_of_getElem? (i := 33) (by decide +kernel), List.mem_of_getElem? (i := 246) (by decide +kernel), List.mem_of_getElem? (i := 247) (by decide +kernel)⟩
theorem lw_p8 : lw_okq (⟨"VersionedRows$Store", "seenRow", "(II)LVersionedRows$Entry;"⟩, 5) := ⟨⟨by decide +kernel, by decide +kernel⟩, List.mem_of_getElem? (i := 33) (by decide +kernel), List.mem_of_getElem? (i := 250) (by decide +kernel), List.mem_of_getElem? (i := 251) (by decide +kernel)⟩
theorem lw_p9 : lw_okq (⟨"VersionedRows$Store", "countBefore", "(JI)I"⟩, 5) := ⟨⟨by decide +kernel, by decide +kernel⟩, List.mem_of_getElem? (i := 33) (by decide +kernel), List.mem_of_getElem? (i := 258) (by decide +kernel), List.mem_of_getElem? (i := 259) (by decide +kernel)⟩
theorem lw_p10 : lw_okq (⟨"VersionedRows$Entry", "isBefore", "(JI)Z"⟩, 7) := ⟨⟨by decide +kernel, by decide +kernel⟩, List.mem_of_getElem? (i := 264) (by decide +kernel), List.mem_of_getElem? (i := 262) (by decide +kernel), List.mem_of_getElem? (i := 263) (by decide +kernel)⟩
theorem lw_p11 : lw_okq (⟨"VersionedRows$Transaction", "put", "(ILVersionedRows$Row;)V"⟩, 5) := ⟨⟨by decide +kernel, by decide +kernel⟩, List.mem_of_getElem? (i := 196) (by decide +kernel), List.mem_of_getElem? (i := 293) (by decide +kernel), List.mem_of_getElem? (i := 294) (by decide +kernel)⟩
theorem lw_p12 : lw_okq (⟨"VersionedRows", "choosePlan", "(LVersionedRows$Expression;)V"⟩, 13) := ⟨⟨by decide +kernel, by decide +kernel⟩, List.mem_of_getElem? (i := 21) (by decide +kernel), List.mem_of_getElem? (i := 305) (by decide +kernel), List.mem_of_getElem? (i := 306) (by decide +kernel)⟩
theorem lw_p13 : lw_okq (⟨"VersionedRows$Range", "hear", "(LVersionedRows$Expression;)V"⟩, 4) := ⟨⟨by decide +kernel, by decide +kernel⟩, List.mem_of_getElem? (i := 309) (by decide +kernel), List.mem_of_getElem? (i := 333) (by decide +kernel), List.mem_of_getElem? (i := 334) (by decide +kernel)⟩
theorem lw_p14 : lw_okq (⟨"VersionedRows$Range", "hearComparison", "(ZLVersionedRows$Expression;LVersionedRows$Expression;)V"⟩, 4) := ⟨⟨by decide +kernel, by decide +kernel⟩, List.mem_of_getElem? (i := 309) (by decide +kernel), List.mem_of_getElem? (i := 338) (by decide +kernel), List.mem_of_getElem? (i := 339) (by decide +kernel)⟩
theorem lw_p15 : lw_okq (⟨"VersionedRows$Expression", "isConst", "()Z"⟩, 5) := ⟨⟨by decide +kernel, by decide +kernel⟩, List.mem_of_getElem? (i := 141) (by decide +kernel), List.mem_of_getElem? (i := 342) (by decide +kernel), List.mem_of_getElem? (i := 343) (by decide +kernel)⟩
def lw_privs_1 : List (MethodName × Nat) := [(⟨"VersionedRows$Expression", "isBool", "()Z"⟩, 5), (⟨"VersionedRows", "topOfPile", "()LVersionedRows$Expression;"⟩, 13), (⟨"VersionedRows", "countOpen", "()I"⟩, 13), (⟨"VersionedRows$Transaction", "isOpen", "()Z"⟩, 5), (⟨"VersionedRows", "openOne", "(I)LVersionedRows$Transaction;"⟩, 13), (⟨"VersionedRows", "transactionOf", "(I)LVersionedRows$Transaction;"⟩, 13), (⟨"VersionedRows", "rowFor", "(LVersionedRows$Transaction;I)LVersionedRows$Row;"⟩, 13), (⟨"VersionedRows$Store", "rowAt", "(II)LVersionedRows$Row;"⟩, 5), (⟨"VersionedRows$Store", "seenRow", "(II)LVersionedRows$Entry;"⟩, 5), (⟨"VersionedRows$Store", "countBefore", "(JI)I"⟩, 5), (⟨"VersionedRows$Entry", "isBefore", "(JI)Z"⟩, 7), (⟨"VersionedRows$Transaction", "put", "(ILVersionedRows$Row;)V"⟩, 5), (⟨"VersionedRows", "choosePlan", "(LVersionedRows$Expression;)V"⟩, 13), (⟨"VersionedRows$Range", "hear", "(LVersionedRows$Expression;)V"⟩, 4), (⟨"VersionedRows$Range", "hearComparison", "(ZLVersionedRows$Expression;LVersionedRows$Expression;)V"⟩, 4), (⟨"VersionedRows$Expression", "isConst", "()Z"⟩, 5)]
theorem lw_r1 : ∀ q ∈ lw_privs_1, lw_okq q := List.forall_mem_cons.mpr ⟨lw_p0, List.forall_mem_cons.mpr ⟨lw_p1, List.forall_mem_cons.mpr ⟨lw_p2, List.forall_mem_cons.mpr ⟨lw_p3, List.forall_mem_cons.mpr ⟨lw_p4, List.forall_mem_cons.mpr ⟨lw_p5, List.forall_mem_cons.mpr ⟨lw_p6, List.forall_mem_cons.mpr ⟨lw_p7, List.forall_mem_cons.mpr ⟨lw_p8, List.forall_mem_cons.mpr ⟨lw_p9, List.forall_mem_cons.mpr ⟨lw_p10, List.forall_mem_cons.mpr ⟨lw_p11, List.forall_mem_cons.mpr ⟨lw_p12, List.forall_mem_cons.mpr ⟨lw_p13, List.forall_mem_cons.mpr ⟨lw_p14, List.forall_mem_cons.mpr ⟨lw_p15, fun _ h => absurd h List.not_mem_nil⟩⟩⟩⟩⟩⟩⟩⟩⟩⟩⟩⟩⟩⟩⟩⟩
theorem lw_p16 : lw_okq (⟨"VersionedRows$Range", "narrow", "(JJ)V"⟩, 4) := ⟨⟨by decide +kernel, by decide +kernel⟩, List.mem_of_getElem? (i := 309) (by decide +kernel), List.mem_of_getElem? (i := 350) (by decide +kernel), List.mem_of_getElem? (i := 351) (by decide +kernel)⟩
theorem lw_p17 : lw_okq (⟨"VersionedRows$Range", "width", "()J"⟩, 4) := ⟨⟨by decide +kernel, by decide +kernel⟩, List.mem_of_getElem? (i := 309) (by decide +kernel), List.mem_of_getElem? (i := 360) (by decide +kernel), List.mem_of_getElem? (i := 361) (by decide +kernel)⟩
theorem lw_p18 : lw_okq (⟨"VersionedRows", "countCandidates", "(I)V"⟩, 13) := ⟨⟨by decide +kernel, by decide +kernel⟩, List.mem_of_getElem? (i := 21) (by decide +kernel), List.mem_of_getElem? (i := 364) (by decide +kernel), List.mem_of_getElem? (i := 365) (by decide +kernel)⟩
theorem lw_p19 : lw_okq (⟨"VersionedRows$Store", "countThere", "(IJJI)I"⟩, 5) := ⟨⟨by decide +kernel, by decide +kernel⟩, List.mem_of_getElem? (i := 33) (by decide +kernel), List.mem_of_getElem? (i := 368) (by decide +kernel), List.mem_of_getElem? (i := 369) (by decide +kernel)⟩
theorem lw_p20 : lw_okq (⟨"VersionedRows$Entry", "isWithin", "(IJJ)Z"⟩, 7) := ⟨⟨by decide +kernel, by decide +kernel⟩, List.mem_of_getElem? (i := 264) (by decide +kernel), List.mem_of_getElem? (i := 372) (by decide +kernel), List.mem_of_getElem? (i := 373) (by decide +kernel)⟩
theorem lw_p21 : lw_okq (⟨"VersionedRows", "fillResult", "(LVersionedRows$Expression;LVersionedRows$Transaction;)V"⟩, 13) := ⟨⟨by decide +kernel, by decide +kernel⟩, List.mem_of_getElem? (i := 21) (by decide +kernel), List.mem_of_getElem? (i := 376) (by decide +kernel), List.mem_of_getElem? (i := 377) (by decide +kernel)⟩
theorem lw_p22 : lw_okq (⟨"VersionedRows$Row", "startsWith", "(I)Z"⟩, 3) := ⟨⟨by decide +kernel, by decide +kernel⟩, List.mem_of_getElem? (i := 271) (by decide +kernel), List.mem_of_getElem? (i := 387) (by decide +kernel), List.mem_of_getElem? (i := 388) (by decide +kernel)⟩
theorem lw_p23 : lw_okq (⟨"VersionedRows", "isTooLate", "(LVersionedRows$Transaction;)Z"⟩, 13) := ⟨⟨by decide +kernel, by decide +kernel⟩, List.mem_of_getElem? (i := 21) (by decide +kernel), List.mem_of_getElem? (i := 395) (by decide +kernel), List.mem_of_getElem? (i := 396) (by decide +kernel)⟩
theorem lw_p24 : lw_okq (⟨"VersionedRows$Store", "lastStampOf", "(I)I"⟩, 5) := ⟨⟨by decide +kernel, by decide +kernel⟩, List.mem_of_getElem? (i := 33) (by decide +kernel), List.mem_of_getElem? (i := 399) (by decide +kernel), List.mem_of_getElem? (i := 400) (by decide +kernel)⟩
theorem lw_p25 : lw_okq (⟨"VersionedRows", "batchSize", "(LVersionedRows$Transaction;)I"⟩, 13) := ⟨⟨by decide +kernel, by decide +kernel⟩, List.mem_of_getElem? (i := 21) (by decide +kernel), List.mem_of_getElem? (i := 404) (by decide +kernel), List.mem_of_getElem? (i := 405) (by decide +kernel)⟩
theorem lw_p26 : lw_okq (⟨"VersionedRows", "countIndexEntries", "(LVersionedRows$Row;LVersionedRows$Row;)I"⟩, 13) := ⟨⟨by decide +kernel, by decide +kernel⟩, List.mem_of_getElem? (i := 21) (by decide +kernel), List.mem_of_getElem? (i := 408) (by decide +kernel), List.mem_of_getElem? (i := 409) (by decide +kernel)⟩
theorem lw_p27 : lw_okq (⟨"VersionedRows", "hasOwnValue", "(ILVersionedRows$Row;LVersionedRows$Row;)Z"⟩, 13) := ⟨⟨by decide +kernel, by decide +kernel⟩, List.mem_of_getElem? (i := 21) (by decide +kernel), List.mem_of_getElem? (i := 412) (by decide +kernel), List.mem_of_getElem? (i := 413) (by decide +kernel)⟩
theorem lw_p28 : lw_okq (⟨"VersionedRows", "valueIn", "(ILVersionedRows$Row;)I"⟩, 13) := ⟨⟨by decide +kernel, by decide +kernel⟩, List.mem_of_getElem? (i := 21) (by decide +kernel), List.mem_of_getElem? (i := 416) (by decide +kernel), List.mem_of_getElem? (i := 417) (by decide +kernel)⟩
theorem lw_p29 : lw_okq (⟨"VersionedRows$Store", "hasRoomFor", "(I)Z"⟩, 5) := ⟨⟨by decide +kernel, by decide +kernel⟩, List.mem_of_getElem? (i := 33) (by decide +kernel), List.mem_of_getElem? (i := 421) (by decide +kernel), List.mem_of_getElem? (i := 422) (by decide +kernel)⟩
theorem lw_p30 : lw_okq (⟨"VersionedRows", "takeBatch", "(LVersionedRows$Transaction;)V"⟩, 13) := ⟨⟨by decide +kernel, by decide +kernel⟩, List.mem_of_getElem? (i := 21) (by decide +kernel), List.mem_of_getElem? (i := 425) (by decide +kernel), List.mem_of_getElem? (i := 426) (by decide +kernel)⟩
theorem lw_p31 : lw_okq (⟨"VersionedRows$Store", "add", "(LVersionedRows$Entry;)V"⟩, 5) := ⟨⟨by decide +kernel, by decide +kernel⟩, List.mem_of_getElem? (i := 33) (by decide +kernel), List.mem_of_getElem? (i := 469) (by decide +kernel), List.mem_of_getElem? (i := 470) (by decide +kernel)⟩
def lw_privs_2 : List (MethodName × Nat) := [(⟨"VersionedRows$Range", "narrow", "(JJ)V"⟩, 4), (⟨"VersionedRows$Range", "width", "()J"⟩, 4), (⟨"VersionedRows", "countCandidates", "(I)V"⟩, 13), (⟨"VersionedRows$Store", "countThere", "(IJJI)I"⟩, 5), (⟨"VersionedRows$Entry", "isWithin", "(IJJ)Z"⟩, 7), (⟨"VersionedRows", "fillResult", "(LVersionedRows$Expression;LVersionedRows$Transaction;)V"⟩, 13), (⟨"VersionedRows$Row", "startsWith", "(I)Z"⟩, 3), (⟨"VersionedRows", "isTooLate", "(LVersionedRows$Transaction;)Z"⟩, 13), (⟨"VersionedRows$Store", "lastStampOf", "(I)I"⟩, 5), (⟨"VersionedRows", "batchSize", "(LVersionedRows$Transaction;)I"⟩, 13), (⟨"VersionedRows", "countIndexEntries", "(LVersionedRows$Row;LVersionedRows$Row;)I"⟩, 13), (⟨"VersionedRows", "hasOwnValue", "(ILVersionedRows$Row;LVersionedRows$Row;)Z"⟩, 13), (⟨"VersionedRows", "valueIn", "(ILVersionedRows$Row;)I"⟩, 13), (⟨"VersionedRows$Store", "hasRoomFor", "(I)Z"⟩, 5), (⟨"VersionedRows", "takeBatch", "(LVersionedRows$Transaction;)V"⟩, 13), (⟨"VersionedRows$Store", "add", "(LVersionedRows$Entry;)V"⟩, 5)]
theorem lw_r2 : ∀ q ∈ lw_privs_2, lw_okq q := List.forall_mem_cons.mpr ⟨lw_p16, List.forall_mem_cons.mpr ⟨lw_p17, List.forall_mem_cons.mpr ⟨lw_p18, List.forall_mem_cons.mpr ⟨lw_p19, List.forall_mem_cons.mpr ⟨lw_p20, List.forall_mem_cons.mpr ⟨lw_p21, List.forall_mem_cons.mpr ⟨lw_p22, List.forall_mem_cons.mpr ⟨lw_p23, List.forall_mem_cons.mpr ⟨lw_p24, List.forall_mem_cons.mpr ⟨lw_p25, List.forall_mem_cons.mpr ⟨lw_p26, List.forall_mem_cons.mpr ⟨lw_p27, List.forall_mem_cons.mpr ⟨lw_p28, List.forall_mem_cons.mpr ⟨lw_p29, List.forall_mem_cons.mpr ⟨lw_p30, List.forall_mem_cons.mpr ⟨lw_p31, fun _ h => absurd h List.not_mem_nil⟩⟩⟩⟩⟩⟩⟩⟩⟩⟩⟩⟩⟩⟩⟩⟩
theorem lw_p32 : lw_okq (⟨"VersionedRows", "addIndexEntries", "(IILVersionedRows$Row;LVersionedRows$Row;)V"⟩, 13) := ⟨⟨by decide +kernel, by decide +kernel⟩, List.mem_of_getElem? (i := 21) (by decide +kernel), List.mem_of_getElem? (i := 474) (by decide +kernel), List.mem_of_getElem? (i := 475) (by decide +kernel)⟩
theorem lw_p33 : lw_okq (⟨"VersionedRows", "flushAndMerge", "()V"⟩, 13) := ⟨⟨by decide +kernel, by decide +kernel⟩, List.mem_of_getElem? (i := 21) (by decide +kernel), List.mem_of_getElem? (i := 478) (by decide +kernel), List.mem_of_getElem? (i := 479) (by decide +kernel)⟩
theorem lw_p34 : lw_okq (⟨"VersionedRows$Store", "writeMemoryOut", "()I"⟩, 5) := ⟨⟨by decide +kernel, by decide +kernel⟩, List.mem_of_getElem? (i := 33) (by decide +kernel), List.mem_of_getElem? (i := 482) (by decide +kernel), List.mem_of_getElem? (i := 483) (by decide +kernel)⟩
theorem lw_p35 : lw_okq (⟨"VersionedRows$Store", "newFile", "(ILVersionedRows$Entry;)LVersionedRows$SortedFile;"⟩, 5) := ⟨⟨by decide +kernel, by decide +kernel⟩, List.mem_of_getElem? (i := 33) (by decide +kernel), List.mem_of_getElem? (i := 486) (by decide +kernel), List.mem_of_getElem? (i := 487) (by decide +kernel)⟩
theorem lw_p36 : lw_okq (⟨"java/util/ArrayList", "add", "(Ljava/lang/Object;[Ljava/lang/Object;I)V"⟩, 3) := ⟨⟨by decide +kernel, by decide +kernel⟩, List.mem_of_getElem? (i := 41) (by decide +kernel), List.mem_of_getElem? (i := 521) (by decide +kernel), List.mem_of_getElem? (i := 522) (by decide +kernel)⟩
theorem lw_p37 : lw_okq (⟨"java/util/ArrayList", "grow", "()[Ljava/lang/Object;"⟩, 3) := ⟨⟨by decide +kernel, by decide +kernel⟩, List.mem_of_getElem? (i := 41) (by decide +kernel), List.mem_of_getElem? (i := 525) (by decide +kernel), List.mem_of_getElem? (i := 526) (by decide +kernel)⟩
theorem lw_p38 : lw_okq (⟨"java/util/ArrayList", "grow", "(I)[Ljava/lang/Object;"⟩, 3) := ⟨⟨by decide +kernel, by decide +kernel⟩, List.mem_of_getElem? (i := 41) (by decide +kernel), List.mem_of_getElem? (i := 529) (by decide +kernel), List.mem_of_getElem? (i := 530) (by decide +kernel)⟩
theorem lw_p39 : lw_okq (⟨"VersionedRows$SortedFile", "append", "(LVersionedRows$Entry;)V"⟩, 6) := ⟨⟨by decide +kernel, by decide +kernel⟩, List.mem_of_getElem? (i := 490) (by decide +kernel), List.mem_of_getElem? (i := 575) (by decide +kernel), List.mem_of_getElem? (i := 576) (by decide +kernel)⟩
theorem lw_p40 : lw_okq (⟨"VersionedRows", "horizon", "()I"⟩, 13) := ⟨⟨by decide +kernel, by decide +kernel⟩, List.mem_of_getElem? (i := 21) (by decide +kernel), List.mem_of_getElem? (i := 579) (by decide +kernel), List.mem_of_getElem? (i := 580) (by decide +kernel)⟩
theorem lw_p41 : lw_okq (⟨"VersionedRows$Store", "overfullLevel", "()I"⟩, 5) := ⟨⟨by decide +kernel, by decide +kernel⟩, List.mem_of_getElem? (i := 33) (by decide +kernel), List.mem_of_getElem? (i := 585) (by decide +kernel), List.mem_of_getElem? (i := 586) (by decide +kernel)⟩
theorem lw_p42 : lw_okq (⟨"VersionedRows$Store", "countFiles", "(I)I"⟩, 5) := ⟨⟨by decide +kernel, by decide +kernel⟩, List.mem_of_getElem? (i := 33) (by decide +kernel), List.mem_of_getElem? (i := 589) (by decide +kernel), List.mem_of_getElem? (i := 590) (by decide +kernel)⟩
theorem lw_p43 : lw_okq (⟨"VersionedRows$Store", "mergeDown", "(II)I"⟩, 5) := ⟨⟨by decide +kernel, by decide +kernel⟩, List.mem_of_getElem? (i := 33) (by decide +kernel), List.mem_of_getElem? (i := 611) (by decide +kernel), List.mem_of_getElem? (i := 612) (by decide +kernel)⟩
theorem lw_p44 : lw_okq (⟨"VersionedRows$Store", "fileOn", "(II)LVersionedRows$SortedFile;"⟩, 5) := ⟨⟨by decide +kernel, by decide +kernel⟩, List.mem_of_getElem? (i := 33) (by decide +kernel), List.mem_of_getElem? (i := 615) (by decide +kernel), List.mem_of_getElem? (i := 616) (by decide +kernel)⟩
theorem lw_p45 : lw_okq (⟨"VersionedRows$Store", "retire", "(LVersionedRows$SortedFile;)V"⟩, 5) := ⟨⟨by decide +kernel, by decide +kernel⟩, List.mem_of_getElem? (i := 33) (by decide +kernel), List.mem_of_getElem? (i := 619) (by decide +kernel), List.mem_of_getElem? (i := 620) (by decide +kernel)⟩
theorem lw_p46 : lw_okq (⟨"VersionedRows$SortedFile", "meets", "(LVersionedRows$SortedFile;)Z"⟩, 6) := ⟨⟨by decide +kernel, by decide +kernel⟩, List.mem_of_getElem? (i := 490) (by decide +kernel), List.mem_of_getElem? (i := 623) (by decide +kernel), List.mem_of_getElem? (i := 624) (by decide +kernel)⟩
theorem lw_p47 : lw_okq (⟨"java/util/ArrayList", "fastRemove", "([Ljava/lang/Object;I)V"⟩, 3) := ⟨⟨by decide +kernel, by decide +kernel⟩, List.mem_of_getElem? (i := 41) (by decide +kernel), List.mem_of_getElem? (i := 631) (by decide +kernel), List.mem_of_getElem? (i := 632) (by decide +kernel)⟩
def lw_privs_3 : List (MethodName × Nat) := [(⟨"VersionedRows", "addIndexEntries", "(IILVersionedRows$Row;LVersionedRows$Row;)V"⟩, 13), (⟨"VersionedRows", "flushAndMerge", "()V"⟩, 13), (⟨"VersionedRows$Store", "writeMemoryOut", "()I"⟩, 5), (⟨"VersionedRows$Store", "newFile", "(ILVersionedRows$Entry;)LVersionedRows$SortedFile;"⟩, 5), (⟨"java/util/ArrayList", "add", "(Ljava/lang/Object;[Ljava/lang/Object;I)V"⟩, 3), (⟨"java/util/ArrayList", "grow", "()[Ljava/lang/Object;"⟩, 3), (⟨"java/util/ArrayList", "grow", "(I)[Ljava/lang/Object;"⟩, 3), (⟨"VersionedRows$SortedFile", "append", "(LVersionedRows$Entry;)V"⟩, 6), (⟨"VersionedRows", "horizon", "()I"⟩, 13), (⟨"VersionedRows$Store", "overfullLevel", "()I"⟩, 5), (⟨"VersionedRows$Store", "countFiles", "(I)I"⟩, 5), (⟨"VersionedRows$Store", "mergeDown", "(II)I"⟩, 5), (⟨"VersionedRows$Store", "fileOn", "(II)LVersionedRows$SortedFile;"⟩, 5), (⟨"VersionedRows$Store", "retire", "(LVersionedRows$SortedFile;)V"⟩, 5), (⟨"VersionedRows$SortedFile", "meets", "(LVersionedRows$SortedFile;)Z"⟩, 6), (⟨"java/util/ArrayList", "fastRemove", "([Ljava/lang/Object;I)V"⟩, 3)]
theorem lw_r3 : ∀ q ∈ lw_privs_3, lw_okq q := List.forall_mem_cons.mpr ⟨lw_p32, List.forall_mem_cons.mpr ⟨lw_p33, List.forall_mem_cons.mpr ⟨lw_p34, List.forall_mem_cons.mpr ⟨lw_p35, List.forall_mem_cons.mpr ⟨lw_p36, List.forall_mem_cons.mpr ⟨lw_p37, List.forall_mem_cons.mpr ⟨lw_p38, List.forall_mem_cons.mpr ⟨lw_p39, List.forall_mem_cons.mpr ⟨lw_p40, List.forall_mem_cons.mpr ⟨lw_p41, List.forall_mem_cons.mpr ⟨lw_p42, List.forall_mem_cons.mpr ⟨lw_p43, List.forall_mem_cons.mpr ⟨lw_p44, List.forall_mem_cons.mpr ⟨lw_p45, List.forall_mem_cons.mpr ⟨lw_p46, List.forall_mem_cons.mpr ⟨lw_p47, fun _ h => absurd h List.not_mem_nil⟩⟩⟩⟩⟩⟩⟩⟩⟩⟩⟩⟩⟩⟩⟩⟩
theorem lw_p48 : lw_okq (⟨"VersionedRows$Store", "moveRetired", "(II)I"⟩, 5) := ⟨⟨by decide +kernel, by decide +kernel⟩, List.mem_of_getElem? (i := 33) (by decide +kernel), List.mem_of_getElem? (i := 636) (by decide +kernel), List.mem_of_getElem? (i := 637) (by decide +kernel)⟩
theorem lw_p49 : lw_okq (⟨"VersionedRows$Entry", "isInRetiredFile", "()Z"⟩, 7) := ⟨⟨by decide +kernel, by decide +kernel⟩, List.mem_of_getElem? (i := 264) (by decide +kernel), List.mem_of_getElem? (i := 659) (by decide +kernel), List.mem_of_getElem? (i := 660) (by decide +kernel)⟩
theorem lw_p50 : lw_okq (⟨"VersionedRows$Sieve", "keeps", "(LVersionedRows$Entry;)Z"⟩, 4) := ⟨⟨by decide +kernel, by decide +kernel⟩, List.mem_of_getElem? (i := 640) (by decide +kernel), List.mem_of_getElem? (i := 663) (by decide +kernel), List.mem_of_getElem? (i := 664) (by decide +kernel)⟩
theorem lw_p51 : lw_okq (⟨"VersionedRows$SortedFile", "isFullBefore", "(LVersionedRows$Entry;)Z"⟩, 6) := ⟨⟨by decide +kernel, by decide +kernel⟩, List.mem_of_getElem? (i := 490) (by decide +kernel), List.mem_of_getElem? (i := 667) (by decide +kernel), List.mem_of_getElem? (i := 668) (by decide +kernel)⟩
theorem lw_p52 : lw_okq (⟨"VersionedRows", "loseOpenOnes", "()I"⟩, 13) := ⟨⟨by decide +kernel, by decide +kernel⟩, List.mem_of_getElem? (i := 21) (by decide +kernel), List.mem_of_getElem? (i := 675) (by decide +kernel), List.mem_of_getElem? (i := 676) (by decide +kernel)⟩
theorem lw_p53 : lw_okq (⟨"VersionedRows", "typeOfTop", "()I"⟩, 13) := ⟨⟨by decide +kernel, by decide +kernel⟩, List.mem_of_getElem? (i := 21) (by decide +kernel), List.mem_of_getElem? (i := 713) (by decide +kernel), List.mem_of_getElem? (i := 714) (by decide +kernel)⟩
theorem lw_p54 : lw_okq (⟨"VersionedRows$SortedFile", "tell", "(I)I"⟩, 6) := ⟨⟨by decide +kernel, by decide +kernel⟩, List.mem_of_getElem? (i := 490) (by decide +kernel), List.mem_of_getElem? (i := 726) (by decide +kernel), List.mem_of_getElem? (i := 727) (by decide +kernel)⟩
theorem lw_p55 : lw_okq (⟨"VersionedRowsModel", "opens", "()I"⟩, 38) := ⟨⟨by decide +kernel, by decide +kernel⟩, List.mem_of_getElem? (i := 730) (by decide +kernel), List.mem_of_getElem? (i := 869) (by decide +kernel), List.mem_of_getElem? (i := 870) (by decide +kernel)⟩
theorem lw_p56 : lw_okq (⟨"VersionedRowsModel", "open", "(I)Z"⟩, 38) := ⟨⟨by decide +kernel, by decide +kernel⟩, List.mem_of_getElem? (i := 730) (by decide +kernel), List.mem_of_getElem? (i := 877) (by decide +kernel), List.mem_of_getElem? (i := 878) (by decide +kernel)⟩
theorem lw_p57 : lw_okq (⟨"VersionedRowsModel", "rowFor", "(II)Z"⟩, 38) := ⟨⟨by decide +kernel, by decide +kernel⟩, List.mem_of_getElem? (i := 730) (by decide +kernel), List.mem_of_getElem? (i := 884) (by decide +kernel), List.mem_of_getElem? (i := 885) (by decide +kernel)⟩
theorem lw_p58 : lw_okq (⟨"VersionedRowsModel", "rowAt", "(II)Z"⟩, 38) := ⟨⟨by decide +kernel, by decide +kernel⟩, List.mem_of_getElem? (i := 730) (by decide +kernel), List.mem_of_getElem? (i := 888) (by decide +kernel), List.mem_of_getElem? (i := 889) (by decide +kernel)⟩
theorem lw_p59 : lw_okq (⟨"VersionedRowsModel", "seen", "(IIII)I"⟩, 38) := ⟨⟨by decide +kernel, by decide +kernel⟩, List.mem_of_getElem? (i := 730) (by decide +kernel), List.mem_of_getElem? (i := 892) (by decide +kernel), List.mem_of_getElem? (i := 893) (by decide +kernel)⟩
theorem lw_p60 : lw_okq (⟨"VersionedRowsModel", "beaten", "(I)Z"⟩, 38) := ⟨⟨by decide +kernel, by decide +kernel⟩, List.mem_of_getElem? (i := 730) (by decide +kernel), List.mem_of_getElem? (i := 908) (by decide +kernel), List.mem_of_getElem? (i := 909) (by decide +kernel)⟩
theorem lw_p61 : lw_okq (⟨"VersionedRowsModel", "reads", "(I)Z"⟩, 38) := ⟨⟨by decide +kernel, by decide +kernel⟩, List.mem_of_getElem? (i := 730) (by decide +kernel), List.mem_of_getElem? (i := 912) (by decide +kernel), List.mem_of_getElem? (i := 913) (by decide +kernel)⟩
theorem lw_p62 : lw_okq (⟨"VersionedRowsModel", "batch", "(IZ)I"⟩, 38) := ⟨⟨by decide +kernel, by decide +kernel⟩, List.mem_of_getElem? (i := 730) (by decide +kernel), List.mem_of_getElem? (i := 916) (by decide +kernel), List.mem_of_getElem? (i := 917) (by decide +kernel)⟩
theorem lw_p63 : lw_okq (⟨"VersionedRowsModel", "value", "(I)I"⟩, 38) := ⟨⟨by decide +kernel, by decide +kernel⟩, List.mem_of_getElem? (i := 730) (by decide +kernel), List.mem_of_getElem? (i := 920) (by decide +kernel), List.mem_of_getElem? (i := 921) (by decide +kernel)⟩
def lw_privs_4 : List (MethodName × Nat) := [(⟨"VersionedRows$Store", "moveRetired", "(II)I"⟩, 5), (⟨"VersionedRows$Entry", "isInRetiredFile", "()Z"⟩, 7), (⟨"VersionedRows$Sieve", "keeps", "(LVersionedRows$Entry;)Z"⟩, 4), (⟨"VersionedRows$SortedFile", "isFullBefore", "(LVersionedRows$Entry;)Z"⟩, 6), (⟨"VersionedRows", "loseOpenOnes", "()I"⟩, 13), (⟨"VersionedRows", "typeOfTop", "()I"⟩, 13), (⟨"VersionedRows$SortedFile", "tell", "(I)I"⟩, 6), (⟨"VersionedRowsModel", "opens", "()I"⟩, 38), (⟨"VersionedRowsModel", "open", "(I)Z"⟩, 38), (⟨"VersionedRowsModel", "rowFor", "(II)Z"⟩, 38), (⟨"VersionedRowsModel", "rowAt", "(II)Z"⟩, 38), (⟨"VersionedRowsModel", "seen", "(IIII)I"⟩, 38), (⟨"VersionedRowsModel", "beaten", "(I)Z"⟩, 38), (⟨"VersionedRowsModel", "reads", "(I)Z"⟩, 38), (⟨"VersionedRowsModel", "batch", "(IZ)I"⟩, 38), (⟨"VersionedRowsModel", "value", "(I)I"⟩, 38)]
theorem lw_r4 : ∀ q ∈ lw_privs_4, lw_okq q := List.forall_mem_cons.mpr ⟨lw_p48, List.forall_mem_cons.mpr ⟨lw_p49, List.forall_mem_cons.mpr ⟨lw_p50, List.forall_mem_cons.mpr ⟨lw_p51, List.forall_mem_cons.mpr ⟨lw_p52, List.forall_mem_cons.mpr ⟨lw_p53, List.forall_mem_cons.mpr ⟨lw_p54, List.forall_mem_cons.mpr ⟨lw_p55, List.forall_mem_cons.mpr ⟨lw_p56, List.forall_mem_cons.mpr ⟨lw_p57, List.forall_mem_cons.mpr ⟨lw_p58, List.forall_mem_cons.mpr ⟨lw_p59, List.forall_mem_cons.mpr ⟨lw_p60, List.forall_mem_cons.mpr ⟨lw_p61, List.forall_mem_cons.mpr ⟨lw_p62, List.forall_mem_cons.mpr ⟨lw_p63, fun _ h => absurd h List.not_mem_nil⟩⟩⟩⟩⟩⟩⟩⟩⟩⟩⟩⟩⟩⟩⟩⟩
theorem lw_p64 : lw_okq (⟨"VersionedRowsModel", "entry", "(IIIZ)V"⟩, 38) := ⟨⟨by decide +kernel, by decide +kernel⟩, List.mem_of_getElem? (i := 730) (by decide +kernel), List.mem_of_getElem? (i := 930) (by decide +kernel), List.mem_of_getElem? (i := 931) (by decide +kernel)⟩
theorem lw_p65 : lw_okq (⟨"VersionedRowsModel", "comes", "(I)V"⟩, 38) := ⟨⟨by decide +kernel, by decide +kernel⟩, List.mem_of_getElem? (i := 730) (by decide +kernel), List.mem_of_getElem? (i := 934) (by decide +kernel), List.mem_of_getElem? (i := 935) (by decide +kernel)⟩
theorem lw_p66 : lw_okq (⟨"VersionedRowsModel", "inFile", "(I)I"⟩, 38) := ⟨⟨by decide +kernel, by decide +kernel⟩, List.mem_of_getElem? (i := 730) (by decide +kernel), List.mem_of_getElem? (i := 938) (by decide +kernel), List.mem_of_getElem? (i := 939) (by decide +kernel)⟩
theorem lw_p67 : lw_okq (⟨"VersionedRowsModel", "addFile", "(I)V"⟩, 38) := ⟨⟨by decide +kernel, by decide +kernel⟩, List.mem_of_getElem? (i := 730) (by decide +kernel), List.mem_of_getElem? (i := 946) (by decide +kernel), List.mem_of_getElem? (i := 947) (by decide +kernel)⟩
theorem lw_p68 : lw_okq (⟨"VersionedRowsModel", "settle", "()V"⟩, 38) := ⟨⟨by decide +kernel, by decide +kernel⟩, List.mem_of_getElem? (i := 730) (by decide +kernel), List.mem_of_getElem? (i := 950) (by decide +kernel), List.mem_of_getElem? (i := 951) (by decide +kernel)⟩
theorem lw_p69 : lw_okq (⟨"VersionedRowsModel", "compacts", "(I)I"⟩, 38) := ⟨⟨by decide +kernel, by decide +kernel⟩, List.mem_of_getElem? (i := 730) (by decide +kernel), List.mem_of_getElem? (i := 958) (by decide +kernel), List.mem_of_getElem? (i := 959) (by decide +kernel)⟩
theorem lw_p70 : lw_okq (⟨"VersionedRowsModel", "meet", "(II)Z"⟩, 38) := ⟨⟨by decide +kernel, by decide +kernel⟩, List.mem_of_getElem? (i := 730) (by decide +kernel), List.mem_of_getElem? (i := 962) (by decide +kernel), List.mem_of_getElem? (i := 963) (by decide +kernel)⟩
theorem lw_p71 : lw_okq (⟨"VersionedRowsModel", "end", "(IZ)I"⟩, 38) := ⟨⟨by decide +kernel, by decide +kernel⟩, List.mem_of_getElem? (i := 730) (by decide +kernel), List.mem_of_getElem? (i := 966) (by decide +kernel), List.mem_of_getElem? (i := 967) (by decide +kernel)⟩
theorem lw_p72 : lw_okq (⟨"VersionedRowsModel", "before", "(II)Z"⟩, 38) := ⟨⟨by decide +kernel, by decide +kernel⟩, List.mem_of_getElem? (i := 730) (by decide +kernel), List.mem_of_getElem? (i := 970) (by decide +kernel), List.mem_of_getElem? (i := 971) (by decide +kernel)⟩
theorem lw_p73 : lw_okq (⟨"VersionedRowsModel", "places", "(II)I"⟩, 38) := ⟨⟨by decide +kernel, by decide +kernel⟩, List.mem_of_getElem? (i := 730) (by decide +kernel), List.mem_of_getElem? (i := 974) (by decide +kernel), List.mem_of_getElem? (i := 975) (by decide +kernel)⟩
theorem lw_p74 : lw_okq (⟨"VersionedRowsModel", "dropFile", "(I)V"⟩, 38) := ⟨⟨by decide +kernel, by decide +kernel⟩, List.mem_of_getElem? (i := 730) (by decide +kernel), List.mem_of_getElem? (i := 978) (by decide +kernel), List.mem_of_getElem? (i := 979) (by decide +kernel)⟩
theorem lw_p75 : lw_okq (⟨"VersionedRowsModel", "sort", "()V"⟩, 38) := ⟨⟨by decide +kernel, by decide +kernel⟩, List.mem_of_getElem? (i := 730) (by decide +kernel), List.mem_of_getElem? (i := 982) (by decide +kernel), List.mem_of_getElem? (i := 983) (by decide +kernel)⟩
theorem lw_p76 : lw_okq (⟨"VersionedRowsModel", "merge", "(I)I"⟩, 38) := ⟨⟨by decide +kernel, by decide +kernel⟩, List.mem_of_getElem? (i := 730) (by decide +kernel), List.mem_of_getElem? (i := 986) (by decide +kernel), List.mem_of_getElem? (i := 987) (by decide +kernel)⟩
theorem lw_p77 : lw_okq (⟨"VersionedRowsModel", "horizon", "()I"⟩, 38) := ⟨⟨by decide +kernel, by decide +kernel⟩, List.mem_of_getElem? (i := 730) (by decide +kernel), List.mem_of_getElem? (i := 990) (by decide +kernel), List.mem_of_getElem? (i := 991) (by decide +kernel)⟩
theorem lw_p78 : lw_okq (⟨"VersionedRowsModel", "clean", "()V"⟩, 38) := ⟨⟨by decide +kernel, by decide +kernel⟩, List.mem_of_getElem? (i := 730) (by decide +kernel), List.mem_of_getElem? (i := 994) (by decide +kernel), List.mem_of_getElem? (i := 995) (by decide +kernel)⟩
theorem lw_p79 : lw_okq (⟨"VersionedRowsModel", "conjuncts", "(II)V"⟩, 38) := ⟨⟨by decide +kernel, by decide +kernel⟩, List.mem_of_getElem? (i := 730) (by decide +kernel), List.mem_of_getElem? (i := 1021) (by decide +kernel), List.mem_of_getElem? (i := 1022) (by decide +kernel)⟩
def lw_privs_5 : List (MethodName × Nat) := [(⟨"VersionedRowsModel", "entry", "(IIIZ)V"⟩, 38), (⟨"VersionedRowsModel", "comes", "(I)V"⟩, 38), (⟨"VersionedRowsModel", "inFile", "(I)I"⟩, 38), (⟨"VersionedRowsModel", "addFile", "(I)V"⟩, 38), (⟨"VersionedRowsModel", "settle", "()V"⟩, 38), (⟨"VersionedRowsModel", "compacts", "(I)I"⟩, 38), (⟨"VersionedRowsModel", "meet", "(II)Z"⟩, 38), (⟨"VersionedRowsModel", "end", "(IZ)I"⟩, 38), (⟨"VersionedRowsModel", "before", "(II)Z"⟩, 38), (⟨"VersionedRowsModel", "places", "(II)I"⟩, 38), (⟨"VersionedRowsModel", "dropFile", "(I)V"⟩, 38), (⟨"VersionedRowsModel", "sort", "()V"⟩, 38), (⟨"VersionedRowsModel", "merge", "(I)I"⟩, 38), (⟨"VersionedRowsModel", "horizon", "()I"⟩, 38), (⟨"VersionedRowsModel", "clean", "()V"⟩, 38), (⟨"VersionedRowsModel", "conjuncts", "(II)V"⟩, 38)]
theorem lw_r5 : ∀ q ∈ lw_privs_5, lw_okq q := List.forall_mem_cons.mpr ⟨lw_p64, List.forall_mem_cons.mpr ⟨lw_p65, List.forall_mem_cons.mpr ⟨lw_p66, List.forall_mem_cons.mpr ⟨lw_p67, List.forall_mem_cons.mpr ⟨lw_p68, List.forall_mem_cons.mpr ⟨lw_p69, List.forall_mem_cons.mpr ⟨lw_p70, List.forall_mem_cons.mpr ⟨lw_p71, List.forall_mem_cons.mpr ⟨lw_p72, List.forall_mem_cons.mpr ⟨lw_p73, List.forall_mem_cons.mpr ⟨lw_p74, List.forall_mem_cons.mpr ⟨lw_p75, List.forall_mem_cons.mpr ⟨lw_p76, List.forall_mem_cons.mpr ⟨lw_p77, List.forall_mem_cons.mpr ⟨lw_p78, List.forall_mem_cons.mpr ⟨lw_p79, fun _ h => absurd h List.not_mem_nil⟩⟩⟩⟩⟩⟩⟩⟩⟩⟩⟩⟩⟩⟩⟩⟩
theorem lw_p80 : lw_okq (⟨"VersionedRowsModel", "from", "(II)I"⟩, 38) := ⟨⟨by decide +kernel, by decide +kernel⟩, List.mem_of_getElem? (i := 730) (by decide +kernel), List.mem_of_getElem? (i := 1027) (by decide +kernel), List.mem_of_getElem? (i := 1028) (by decide +kernel)⟩
theorem lw_p81 : lw_okq (⟨"VersionedRowsModel", "conjunct", "(III)V"⟩, 38) := ⟨⟨by decide +kernel, by decide +kernel⟩, List.mem_of_getElem? (i := 730) (by decide +kernel), List.mem_of_getElem? (i := 1031) (by decide +kernel), List.mem_of_getElem? (i := 1032) (by decide +kernel)⟩
theorem lw_p82 : lw_okq (⟨"VersionedRowsModel", "same", "(IIII)Z"⟩, 38) := ⟨⟨by decide +kernel, by decide +kernel⟩, List.mem_of_getElem? (i := 730) (by decide +kernel), List.mem_of_getElem? (i := 1035) (by decide +kernel), List.mem_of_getElem? (i := 1036) (by decide +kernel)⟩
theorem lw_p83 : lw_okq (⟨"VersionedRowsModel", "bound", "(JJ)V"⟩, 38) := ⟨⟨by decide +kernel, by decide +kernel⟩, List.mem_of_getElem? (i := 730) (by decide +kernel), List.mem_of_getElem? (i := 1039) (by decide +kernel), List.mem_of_getElem? (i := 1040) (by decide +kernel)⟩
theorem lw_p84 : lw_okq (⟨"VersionedRowsModel", "aboutFile", "(II)I"⟩, 38) := ⟨⟨by decide +kernel, by decide +kernel⟩, List.mem_of_getElem? (i := 730) (by decide +kernel), List.mem_of_getElem? (i := 1064) (by decide +kernel), List.mem_of_getElem? (i := 1065) (by decide +kernel)⟩
def lw_privs_6 : List (MethodName × Nat) := [(⟨"VersionedRowsModel", "from", "(II)I"⟩, 38), (⟨"VersionedRowsModel", "conjunct", "(III)V"⟩, 38), (⟨"VersionedRowsModel", "same", "(IIII)Z"⟩, 38), (⟨"VersionedRowsModel", "bound", "(JJ)V"⟩, 38), (⟨"VersionedRowsModel", "aboutFile", "(II)I"⟩, 38)]
theorem lw_r6 : ∀ q ∈ lw_privs_6, lw_okq q := List.forall_mem_cons.mpr ⟨lw_p80, List.forall_mem_cons.mpr ⟨lw_p81, List.forall_mem_cons.mpr ⟨lw_p82, List.forall_mem_cons.mpr ⟨lw_p83, List.forall_mem_cons.mpr ⟨lw_p84, fun _ h => absurd h List.not_mem_nil⟩⟩⟩⟩⟩
def lw_privs : List (MethodName × Nat) := lw_privs_1 ++ (lw_privs_2 ++ (lw_privs_3 ++ (lw_privs_4 ++ (lw_privs_5 ++ (lw_privs_6)))))
def lw_tbl : List Cond := k2_sels lw_privs ++ tables_1
theorem lw_privs_ok : ∀ q ∈ lw_privs, lw_okq q := by
  show ∀ q ∈ lw_privs_1 ++ (lw_privs_2 ++ (lw_privs_3 ++ (lw_privs_4 ++ (lw_privs_5 ++ (lw_privs_6))))), lw_okq q
  exact List.forall_mem_append.mpr ⟨lw_r1, List.forall_mem_append.mpr ⟨lw_r2, List.forall_mem_append.mpr ⟨lw_r3, List.forall_mem_append.mpr ⟨lw_r4, List.forall_mem_append.mpr ⟨lw_r5, lw_r6⟩⟩⟩⟩⟩
end
section
theorem goodIn_r {big : List Cond} (ws : List Cond) (ps : List Nat) (hp : ws = ps.filterMap (fun i => big[i]?)) (h : ws.all goodWord = true) : GoodIn big ws := by
  intro w hw
  have h1 := List.all_eq_true.mp h w hw
  rw [hp] at hw
  obtain ⟨i, -, hi⟩ := List.mem_filterMap.mp hw
  have hm : w ∈ big := by first | exact List.mem_of_getElem? hi | exact List.getElem?_mem hi
  exact ⟨hm, good_of_word h1⟩
def RX0 : String := "VersionedRows$Entry"
def TX0 : u_T := fun k => match k with
  | 0 => ("VersionedRows$Entry", "space", "I", true)
  | 1 => ("VersionedRows$Entry", "value", "I", true)
  | 2 => ("VersionedRows$Entry", "key", "I", true)
  | 3 => ("VersionedRows$Entry", "place", "J", true)
  | 4 => ("VersionedRows$Entry", "stamp", "I", true)
  | 5 => ("VersionedRows$Entry", "row", "LVersionedRows$Row;", true)
  | _ => ("VersionedRows$Entry", "home", "LVersionedRows$SortedFile;", false)
def tyX0 : Nat → FieldType := fun k => match k with
  | 0 => .int
  | 1 => .int
  | 2 => .int
  | 3 => .long
  | 4 => .int
  | 5 => .object "VersionedRows$Row"
  | _ => .object "VersionedRows$SortedFile"
abbrev wsX00 : List Cond := u_ws RX0 TX0 7
theorem nmX0 : ∀ a, a < 7 → ∀ b, b < 7 → a ≠ b → (TX0 a).2.1 ≠ (TX0 b).2.1 := by decide +kernel
theorem tyX0_ok : ∀ k, k < 7 → parseFieldDescriptor (TX0 k).2.2.1 = some (tyX0 k) := by decide +kernel
abbrev cX0_init : ByteArray := prog_2_method_1_code
def yX0_init : MethodName := ⟨RX0, "<init>", "(IIIILVersionedRows$Row;)V"⟩
abbrev cX0_placeOf : ByteArray := prog_2_method_2_code
def yX0_placeOf : MethodName := ⟨RX0, "placeOf", "(III)J"⟩
abbrev cX0_isBefore : ByteArray := prog_2_method_3_code
def yX0_isBefore : MethodName := ⟨RX0, "isBefore", "(JI)Z"⟩
abbrev cX0_isWithin : ByteArray := prog_2_method_4_code
def yX0_isWithin : MethodName := ⟨RX0, "isWithin", "(IJJ)Z"⟩
abbrev cX0_isInRetiredFile : ByteArray := prog_2_method_5_code
def yX0_isInRetiredFile : MethodName := ⟨RX0, "isInRetiredFile", "()Z"⟩
def RX1 : String := "VersionedRows$Expression"
def TX1 : u_T := fun k => match k with
  | 0 => ("VersionedRows$Expression", "op", "I", true)
  | 1 => ("VersionedRows$Expression", "n", "I", true)
  | 2 => ("VersionedRows$Expression", "first", "LVersionedRows$Expression;", true)
  | 3 => ("VersionedRows$Expression", "second", "LVersionedRows$Expression;", true)
  | _ => ("VersionedRows$Expression", "nodes", "I", true)
def tyX1 : Nat → FieldType := fun k => match k with
  | 0 => .int
  | 1 => .int
  | 2 => .object "VersionedRows$Expression"
  | 3 => .object "VersionedRows$Expression"
  | _ => .int
abbrev wsX10 : List Cond := u_ws RX1 TX1 5
theorem nmX1 : ∀ a, a < 5 → ∀ b, b < 5 → a ≠ b → (TX1 a).2.1 ≠ (TX1 b).2.1 := by decide +kernel
theorem tyX1_ok : ∀ k, k < 5 → parseFieldDescriptor (TX1 k).2.2.1 = some (tyX1 k) := by decide +kernel
abbrev cX1_init : ByteArray := prog_3_method_1_code
def yX1_init : MethodName := ⟨RX1, "<init>", "(IILVersionedRows$Expression;LVersionedRows$Expression;)V"⟩
abbrev cX1_nodesOf : ByteArray := prog_3_method_2_code
def yX1_nodesOf : MethodName := ⟨RX1, "nodesOf", "(LVersionedRows$Expression;)I"⟩
abbrev cX1_isBool : ByteArray := prog_3_method_3_code
def yX1_isBool : MethodName := ⟨RX1, "isBool", "()Z"⟩
abbrev cX1_isConst : ByteArray := prog_3_method_4_code
def yX1_isConst : MethodName := ⟨RX1, "isConst", "()Z"⟩
abbrev cX1_areSame : ByteArray := prog_3_method_5_code
def yX1_areSame : MethodName := ⟨RX1, "areSame", "(LVersionedRows$Expression;LVersionedRows$Expression;)Z"⟩
abbrev cX1_numberOf : ByteArray := prog_3_method_6_code
def yX1_numberOf : MethodName := ⟨RX1, "numberOf", "(LVersionedRows$Expression;LVersionedRows$Row;)I"⟩
abbrev cX1_isTrueOf : ByteArray := prog_3_method_7_code
def yX1_isTrueOf : MethodName := ⟨RX1, "isTrueOf", "(LVersionedRows$Expression;LVersionedRows$Row;)Z"⟩
def RX2 : String := "VersionedRows$Range"
def TX2 : u_T := fun k => match k with
  | 0 => ("VersionedRows$Range", "subject", "LVersionedRows$Expression;", true)
  | 1 => ("VersionedRows$Range", "low", "J", false)
  | 2 => ("VersionedRows$Range", "high", "J", false)
  | _ => ("VersionedRows$Range", "isSaid", "Z", false)
def tyX2 : Nat → FieldType := fun k => match k with
  | 0 => .object "VersionedRows$Expression"
  | 1 => .long
  | 2 => .long
  | _ => .boolean
abbrev wsX20 : List Cond := u_ws RX2 TX2 4
theorem nmX2 : ∀ a, a < 4 → ∀ b, b < 4 → a ≠ b → (TX2 a).2.1 ≠ (TX2 b).2.1 := by decide +kernel
theorem tyX2_ok : ∀ k, k < 4 → parseFieldDescriptor (TX2 k).2.2.1 = some (tyX2 k) := by decide +kernel
abbrev cX2_init : ByteArray := prog_4_method_1_code
def yX2_init : MethodName := ⟨RX2, "<init>", "(LVersionedRows$Expression;)V"⟩
abbrev cX2_width : ByteArray := prog_4_method_2_code
def yX2_width : MethodName := ⟨RX2, "width", "()J"⟩
abbrev cX2_hear : ByteArray := prog_4_method_3_code
def yX2_hear : MethodName := ⟨RX2, "hear", "(LVersionedRows$Expression;)V"⟩
abbrev cX2_hearComparison : ByteArray := prog_4_method_4_code
def yX2_hearComparison : MethodName := ⟨RX2, "hearComparison", "(ZLVersionedRows$Expression;LVersionedRows$Expression;)V"⟩
abbrev cX2_narrow : ByteArray := prog_4_method_5_code
def yX2_narrow : MethodName := ⟨RX2, "narrow", "(JJ)V"⟩
def RX3 : String := "VersionedRows$Row"
def TX3 : u_T := fun k => match k with
  | 0 => ("VersionedRows$Row", "number", "I", true)
  | 1 => ("VersionedRows$Row", "flag", "I", true)
  | _ => ("VersionedRows$Row", "name", "I", true)
def tyX3 : Nat → FieldType := fun k => match k with
  | 0 => .int
  | 1 => .int
  | _ => .int
abbrev wsX30 : List Cond := u_ws RX3 TX3 3
theorem nmX3 : ∀ a, a < 3 → ∀ b, b < 3 → a ≠ b → (TX3 a).2.1 ≠ (TX3 b).2.1 := by decide +kernel
theorem tyX3_ok : ∀ k, k < 3 → parseFieldDescriptor (TX3 k).2.2.1 = some (tyX3 k) := by decide +kernel
abbrev cX3_init : ByteArray := prog_5_method_1_code
def yX3_init : MethodName := ⟨RX3, "<init>", "(III)V"⟩
abbrev cX3_startsWith : ByteArray := prog_5_method_2_code
def yX3_startsWith : MethodName := ⟨RX3, "startsWith", "(I)Z"⟩
def RX4 : String := "VersionedRows$Sieve"
def TX4 : u_T := fun k => match k with
  | 0 => ("VersionedRows$Sieve", "horizon", "I", true)
  | 1 => ("VersionedRows$Sieve", "dropsDead", "Z", true)
  | 2 => ("VersionedRows$Sieve", "before", "LVersionedRows$Entry;", false)
  | _ => ("VersionedRows$Sieve", "isCovered", "Z", false)
def tyX4 : Nat → FieldType := fun k => match k with
  | 0 => .int
  | 1 => .boolean
  | 2 => .object "VersionedRows$Entry"
  | _ => .boolean
abbrev wsX40 : List Cond := u_ws RX4 TX4 4
theorem nmX4 : ∀ a, a < 4 → ∀ b, b < 4 → a ≠ b → (TX4 a).2.1 ≠ (TX4 b).2.1 := by decide +kernel
theorem tyX4_ok : ∀ k, k < 4 → parseFieldDescriptor (TX4 k).2.2.1 = some (tyX4 k) := by decide +kernel
abbrev cX4_init : ByteArray := prog_6_method_1_code
def yX4_init : MethodName := ⟨RX4, "<init>", "(IZ)V"⟩
abbrev cX4_keeps : ByteArray := prog_6_method_2_code
def yX4_keeps : MethodName := ⟨RX4, "keeps", "(LVersionedRows$Entry;)Z"⟩
def RX5 : String := "VersionedRows$SortedFile"
def TX5 : u_T := fun k => match k with
  | 0 => ("VersionedRows$SortedFile", "number", "I", true)
  | 1 => ("VersionedRows$SortedFile", "level", "I", true)
  | 2 => ("VersionedRows$SortedFile", "first", "LVersionedRows$Entry;", true)
  | 3 => ("VersionedRows$SortedFile", "last", "LVersionedRows$Entry;", false)
  | 4 => ("VersionedRows$SortedFile", "size", "I", false)
  | _ => ("VersionedRows$SortedFile", "isRetired", "Z", false)
def tyX5 : Nat → FieldType := fun k => match k with
  | 0 => .int
  | 1 => .int
  | 2 => .object "VersionedRows$Entry"
  | 3 => .object "VersionedRows$Entry"
  | 4 => .int
  | _ => .boolean
abbrev wsX50 : List Cond := u_ws RX5 TX5 6
theorem nmX5 : ∀ a, a < 6 → ∀ b, b < 6 → a ≠ b → (TX5 a).2.1 ≠ (TX5 b).2.1 := by decide +kernel
theorem tyX5_ok : ∀ k, k < 6 → parseFieldDescriptor (TX5 k).2.2.1 = some (tyX5 k) := by decide +kernel
abbrev cX5_init : ByteArray := prog_7_method_1_code
def yX5_init : MethodName := ⟨RX5, "<init>", "(IILVersionedRows$Entry;)V"⟩
abbrev cX5_append : ByteArray := prog_7_method_2_code
def yX5_append : MethodName := ⟨RX5, "append", "(LVersionedRows$Entry;)V"⟩
abbrev cX5_isFullBefore : ByteArray := prog_7_method_3_code
def yX5_isFullBefore : MethodName := ⟨RX5, "isFullBefore", "(LVersionedRows$Entry;)Z"⟩
abbrev cX5_meets : ByteArray := prog_7_method_4_code
def yX5_meets : MethodName := ⟨RX5, "meets", "(LVersionedRows$SortedFile;)Z"⟩
abbrev cX5_tell : ByteArray := prog_7_method_5_code
def yX5_tell : MethodName := ⟨RX5, "tell", "(I)I"⟩
def RX6 : String := "VersionedRows$Store"
def TX6 : u_T := fun k => match k with
  | 0 => ("VersionedRows$Store", "entries", "[LVersionedRows$Entry;", true)
  | 1 => ("VersionedRows$Store", "count", "I", false)
  | 2 => ("VersionedRows$Store", "inMemory", "I", false)
  | 3 => ("VersionedRows$Store", "sortedFiles", "Ljava/util/ArrayList;", true)
  | _ => ("VersionedRows$Store", "filesMade", "I", false)
def tyX6 : Nat → FieldType := fun k => match k with
  | 0 => .array (.object "VersionedRows$Entry")
  | 1 => .int
  | 2 => .int
  | 3 => .object "java/util/ArrayList"
  | _ => .int
abbrev wsX60 : List Cond := u_ws RX6 TX6 5
theorem nmX6 : ∀ a, a < 5 → ∀ b, b < 5 → a ≠ b → (TX6 a).2.1 ≠ (TX6 b).2.1 := by decide +kernel
theorem tyX6_ok : ∀ k, k < 5 → parseFieldDescriptor (TX6 k).2.2.1 = some (tyX6 k) := by decide +kernel
abbrev cX6_init : ByteArray := prog_8_method_1_code
def yX6_init : MethodName := ⟨RX6, "<init>", "()V"⟩
abbrev cX6_hasRoomFor : ByteArray := prog_8_method_2_code
def yX6_hasRoomFor : MethodName := ⟨RX6, "hasRoomFor", "(I)Z"⟩
abbrev cX6_add : ByteArray := prog_8_method_3_code
def yX6_add : MethodName := ⟨RX6, "add", "(LVersionedRows$Entry;)V"⟩
abbrev cX6_countBefore : ByteArray := prog_8_method_4_code
def yX6_countBefore : MethodName := ⟨RX6, "countBefore", "(JI)I"⟩
abbrev cX6_seenRow : ByteArray := prog_8_method_5_code
def yX6_seenRow : MethodName := ⟨RX6, "seenRow", "(II)LVersionedRows$Entry;"⟩
abbrev cX6_rowAt : ByteArray := prog_8_method_6_code
def yX6_rowAt : MethodName := ⟨RX6, "rowAt", "(II)LVersionedRows$Row;"⟩
abbrev cX6_lastStampOf : ByteArray := prog_8_method_7_code
def yX6_lastStampOf : MethodName := ⟨RX6, "lastStampOf", "(I)I"⟩
abbrev cX6_countThere : ByteArray := prog_8_method_8_code
def yX6_countThere : MethodName := ⟨RX6, "countThere", "(IJJI)I"⟩
abbrev cX6_writeMemoryOut : ByteArray := prog_8_method_9_code
def yX6_writeMemoryOut : MethodName := ⟨RX6, "writeMemoryOut", "()I"⟩
abbrev cX6_newFile : ByteArray := prog_8_method_10_code
def yX6_newFile : MethodName := ⟨RX6, "newFile", "(ILVersionedRows$Entry;)LVersionedRows$SortedFile;"⟩
abbrev cX6_countFiles : ByteArray := prog_8_method_11_code
def yX6_countFiles : MethodName := ⟨RX6, "countFiles", "(I)I"⟩
abbrev cX6_fileOn : ByteArray := prog_8_method_12_code
def yX6_fileOn : MethodName := ⟨RX6, "fileOn", "(II)LVersionedRows$SortedFile;"⟩
abbrev cX6_overfullLevel : ByteArray := prog_8_method_13_code
def yX6_overfullLevel : MethodName := ⟨RX6, "overfullLevel", "()I"⟩
abbrev cX6_mergeDown : ByteArray := prog_8_method_14_code
def yX6_mergeDown : MethodName := ⟨RX6, "mergeDown", "(II)I"⟩
abbrev cX6_retire : ByteArray := prog_8_method_15_code
def yX6_retire : MethodName := ⟨RX6, "retire", "(LVersionedRows$SortedFile;)V"⟩
abbrev cX6_moveRetired : ByteArray := prog_8_method_16_code
def yX6_moveRetired : MethodName := ⟨RX6, "moveRetired", "(II)I"⟩
def RX7 : String := "VersionedRows$Transaction"
def TX7 : u_T := fun k => match k with
  | 0 => ("VersionedRows$Transaction", "begin", "I", true)
  | 1 => ("VersionedRows$Transaction", "state", "I", false)
  | 2 => ("VersionedRows$Transaction", "hasWrites", "Z", false)
  | 3 => ("VersionedRows$Transaction", "written", "[Z", true)
  | _ => ("VersionedRows$Transaction", "rows", "[LVersionedRows$Row;", true)
def tyX7 : Nat → FieldType := fun k => match k with
  | 0 => .int
  | 1 => .int
  | 2 => .boolean
  | 3 => .array .boolean
  | _ => .array (.object "VersionedRows$Row")
abbrev wsX70 : List Cond := u_ws RX7 TX7 5
theorem nmX7 : ∀ a, a < 5 → ∀ b, b < 5 → a ≠ b → (TX7 a).2.1 ≠ (TX7 b).2.1 := by decide +kernel
theorem tyX7_ok : ∀ k, k < 5 → parseFieldDescriptor (TX7 k).2.2.1 = some (tyX7 k) := by decide +kernel
abbrev cX7_init : ByteArray := prog_9_method_1_code
def yX7_init : MethodName := ⟨RX7, "<init>", "(I)V"⟩
abbrev cX7_isOpen : ByteArray := prog_9_method_2_code
def yX7_isOpen : MethodName := ⟨RX7, "isOpen", "()Z"⟩
abbrev cX7_put : ByteArray := prog_9_method_3_code
def yX7_put : MethodName := ⟨RX7, "put", "(ILVersionedRows$Row;)V"⟩
def RX8 : String := "VersionedRows"
def TX8 : u_T := fun k => match k with
  | 0 => ("VersionedRows", "pile", "[LVersionedRows$Expression;", true)
  | 1 => ("VersionedRows", "pileSize", "I", false)
  | 2 => ("VersionedRows", "indexes", "[LVersionedRows$Expression;", true)
  | 3 => ("VersionedRows", "indexCount", "I", false)
  | 4 => ("VersionedRows", "transactions", "[LVersionedRows$Transaction;", true)
  | 5 => ("VersionedRows", "transactionCount", "I", false)
  | 6 => ("VersionedRows", "store", "LVersionedRows$Store;", true)
  | 7 => ("VersionedRows", "lastStamp", "I", false)
  | 8 => ("VersionedRows", "resultKeys", "[I", true)
  | 9 => ("VersionedRows", "resultSize", "I", false)
  | 10 => ("VersionedRows", "planIndex", "I", false)
  | 11 => ("VersionedRows", "planRange", "LVersionedRows$Range;", false)
  | _ => ("VersionedRows", "planCandidates", "I", false)
def tyX8 : Nat → FieldType := fun k => match k with
  | 0 => .array (.object "VersionedRows$Expression")
  | 1 => .int
  | 2 => .array (.object "VersionedRows$Expression")
  | 3 => .int
  | 4 => .array (.object "VersionedRows$Transaction")
  | 5 => .int
  | 6 => .object "VersionedRows$Store"
  | 7 => .int
  | 8 => .array .int
  | 9 => .int
  | 10 => .int
  | 11 => .object "VersionedRows$Range"
  | _ => .int
abbrev wsX80 : List Cond := u_ws RX8 TX8 13
theorem nmX8 : ∀ a, a < 13 → ∀ b, b < 13 → a ≠ b → (TX8 a).2.1 ≠ (TX8 b).2.1 := by decide +kernel
theorem tyX8_ok : ∀ k, k < 13 → parseFieldDescriptor (TX8 k).2.2.1 = some (tyX8 k) := by decide +kernel
abbrev cX8_init : ByteArray := prog_1_method_1_code
def yX8_init : MethodName := ⟨RX8, "<init>", "()V"⟩
abbrev cX8_say : ByteArray := prog_1_method_2_code
def yX8_say : MethodName := ⟨RX8, "say", "(II)Z"⟩
abbrev cX8_index : ByteArray := prog_1_method_3_code
def yX8_index : MethodName := ⟨RX8, "index", "()I"⟩
abbrev cX8_begin : ByteArray := prog_1_method_4_code
def yX8_begin : MethodName := ⟨RX8, "begin", "()I"⟩
abbrev cX8_read : ByteArray := prog_1_method_5_code
def yX8_read : MethodName := ⟨RX8, "read", "(III)I"⟩
abbrev cX8_write : ByteArray := prog_1_method_6_code
def yX8_write : MethodName := ⟨RX8, "write", "(IIIII)Z"⟩
abbrev cX8_remove : ByteArray := prog_1_method_7_code
def yX8_remove : MethodName := ⟨RX8, "remove", "(II)Z"⟩
abbrev cX8_query : ByteArray := prog_1_method_8_code
def yX8_query : MethodName := ⟨RX8, "query", "(I)I"⟩
abbrev cX8_commit : ByteArray := prog_1_method_9_code
def yX8_commit : MethodName := ⟨RX8, "commit", "(I)I"⟩
abbrev cX8_tear : ByteArray := prog_1_method_10_code
def yX8_tear : MethodName := ⟨RX8, "tear", "(II)I"⟩
abbrev cX8_abort : ByteArray := prog_1_method_11_code
def yX8_abort : MethodName := ⟨RX8, "abort", "(I)Z"⟩
abbrev cX8_flush : ByteArray := prog_1_method_12_code
def yX8_flush : MethodName := ⟨RX8, "flush", "()I"⟩
abbrev cX8_compact : ByteArray := prog_1_method_13_code
def yX8_compact : MethodName := ⟨RX8, "compact", "()I"⟩
abbrev cX8_crash : ByteArray := prog_1_method_14_code
def yX8_crash : MethodName := ⟨RX8, "crash", "()I"⟩
abbrev cX8_result : ByteArray := prog_1_method_15_code
def yX8_result : MethodName := ⟨RX8, "result", "(I)I"⟩
abbrev cX8_plan : ByteArray := prog_1_method_16_code
def yX8_plan : MethodName := ⟨RX8, "plan", "(I)J"⟩
abbrev cX8_state : ByteArray := prog_1_method_17_code
def yX8_state : MethodName := ⟨RX8, "state", "(I)I"⟩
abbrev cX8_about : ByteArray := prog_1_method_18_code
def yX8_about : MethodName := ⟨RX8, "about", "(I)I"⟩
abbrev cX8_files : ByteArray := prog_1_method_19_code
def yX8_files : MethodName := ⟨RX8, "files", "(I)I"⟩
abbrev cX8_file : ByteArray := prog_1_method_20_code
def yX8_file : MethodName := ⟨RX8, "file", "(III)I"⟩
abbrev cX8_isKey : ByteArray := prog_1_method_21_code
def yX8_isKey : MethodName := ⟨RX8, "isKey", "(I)Z"⟩
abbrev cX8_isName : ByteArray := prog_1_method_22_code
def yX8_isName : MethodName := ⟨RX8, "isName", "(I)Z"⟩
abbrev cX8_partsOf : ByteArray := prog_1_method_23_code
def yX8_partsOf : MethodName := ⟨RX8, "partsOf", "(I)I"⟩
abbrev cX8_countsN : ByteArray := prog_1_method_24_code
def yX8_countsN : MethodName := ⟨RX8, "countsN", "(I)Z"⟩
abbrev cX8_takesBools : ByteArray := prog_1_method_25_code
def yX8_takesBools : MethodName := ⟨RX8, "takesBools", "(I)Z"⟩
abbrev cX8_fits : ByteArray := prog_1_method_26_code
def yX8_fits : MethodName := ⟨RX8, "fits", "(ILVersionedRows$Expression;)Z"⟩
abbrev cX8_topOfPile : ByteArray := prog_1_method_27_code
def yX8_topOfPile : MethodName := ⟨RX8, "topOfPile", "()LVersionedRows$Expression;"⟩
abbrev cX8_typeOfTop : ByteArray := prog_1_method_28_code
def yX8_typeOfTop : MethodName := ⟨RX8, "typeOfTop", "()I"⟩
abbrev cX8_transactionOf : ByteArray := prog_1_method_29_code
def yX8_transactionOf : MethodName := ⟨RX8, "transactionOf", "(I)LVersionedRows$Transaction;"⟩
abbrev cX8_openOne : ByteArray := prog_1_method_30_code
def yX8_openOne : MethodName := ⟨RX8, "openOne", "(I)LVersionedRows$Transaction;"⟩
abbrev cX8_countOpen : ByteArray := prog_1_method_31_code
def yX8_countOpen : MethodName := ⟨RX8, "countOpen", "()I"⟩
abbrev cX8_loseOpenOnes : ByteArray := prog_1_method_32_code
def yX8_loseOpenOnes : MethodName := ⟨RX8, "loseOpenOnes", "()I"⟩
abbrev cX8_horizon : ByteArray := prog_1_method_33_code
def yX8_horizon : MethodName := ⟨RX8, "horizon", "()I"⟩
abbrev cX8_rowFor : ByteArray := prog_1_method_34_code
def yX8_rowFor : MethodName := ⟨RX8, "rowFor", "(LVersionedRows$Transaction;I)LVersionedRows$Row;"⟩
abbrev cX8_isTooLate : ByteArray := prog_1_method_35_code
def yX8_isTooLate : MethodName := ⟨RX8, "isTooLate", "(LVersionedRows$Transaction;)Z"⟩
abbrev cX8_batchSize : ByteArray := prog_1_method_36_code
def yX8_batchSize : MethodName := ⟨RX8, "batchSize", "(LVersionedRows$Transaction;)I"⟩
abbrev cX8_countIndexEntries : ByteArray := prog_1_method_37_code
def yX8_countIndexEntries : MethodName := ⟨RX8, "countIndexEntries", "(LVersionedRows$Row;LVersionedRows$Row;)I"⟩
abbrev cX8_hasOwnValue : ByteArray := prog_1_method_38_code
def yX8_hasOwnValue : MethodName := ⟨RX8, "hasOwnValue", "(ILVersionedRows$Row;LVersionedRows$Row;)Z"⟩
abbrev cX8_valueIn : ByteArray := prog_1_method_39_code
def yX8_valueIn : MethodName := ⟨RX8, "valueIn", "(ILVersionedRows$Row;)I"⟩
abbrev cX8_takeBatch : ByteArray := prog_1_method_40_code
def yX8_takeBatch : MethodName := ⟨RX8, "takeBatch", "(LVersionedRows$Transaction;)V"⟩
abbrev cX8_addIndexEntries : ByteArray := prog_1_method_41_code
def yX8_addIndexEntries : MethodName := ⟨RX8, "addIndexEntries", "(IILVersionedRows$Row;LVersionedRows$Row;)V"⟩
abbrev cX8_flushAndMerge : ByteArray := prog_1_method_42_code
def yX8_flushAndMerge : MethodName := ⟨RX8, "flushAndMerge", "()V"⟩
abbrev cX8_choosePlan : ByteArray := prog_1_method_43_code
def yX8_choosePlan : MethodName := ⟨RX8, "choosePlan", "(LVersionedRows$Expression;)V"⟩
abbrev cX8_countCandidates : ByteArray := prog_1_method_44_code
def yX8_countCandidates : MethodName := ⟨RX8, "countCandidates", "(I)V"⟩
abbrev cX8_fillResult : ByteArray := prog_1_method_45_code
def yX8_fillResult : MethodName := ⟨RX8, "fillResult", "(LVersionedRows$Expression;LVersionedRows$Transaction;)V"⟩
def RX9 : String := "VersionedRowsModel"
def TX9 : u_T := fun k => match k with
  | 0 => ("VersionedRowsModel", "pile", "I", false)
  | 1 => ("VersionedRowsModel", "indexes", "I", false)
  | 2 => ("VersionedRowsModel", "nodes", "[I", true)
  | 3 => ("VersionedRowsModel", "op", "[I", true)
  | 4 => ("VersionedRowsModel", "with", "[I", true)
  | 5 => ("VersionedRowsModel", "bool", "[Z", true)
  | 6 => ("VersionedRowsModel", "many", "I", false)
  | 7 => ("VersionedRowsModel", "space", "[I", true)
  | 8 => ("VersionedRowsModel", "value", "[I", true)
  | 9 => ("VersionedRowsModel", "key", "[I", true)
  | 10 => ("VersionedRowsModel", "stamp", "[I", true)
  | 11 => ("VersionedRowsModel", "live", "[Z", true)
  | 12 => ("VersionedRowsModel", "fields", "[I", true)
  | 13 => ("VersionedRowsModel", "file", "[I", true)
  | 14 => ("VersionedRowsModel", "files", "I", false)
  | 15 => ("VersionedRowsModel", "number", "[I", true)
  | 16 => ("VersionedRowsModel", "level", "[I", true)
  | 17 => ("VersionedRowsModel", "made", "I", false)
  | 18 => ("VersionedRowsModel", "last", "I", false)
  | 19 => ("VersionedRowsModel", "transactions", "I", false)
  | 20 => ("VersionedRowsModel", "state", "[I", true)
  | 21 => ("VersionedRowsModel", "began", "[I", true)
  | 22 => ("VersionedRowsModel", "writes", "[I", true)
  | 23 => ("VersionedRowsModel", "rows", "[I", true)
  | 24 => ("VersionedRowsModel", "row", "[I", true)
  | 25 => ("VersionedRowsModel", "numbers", "[I", true)
  | 26 => ("VersionedRowsModel", "results", "[I", true)
  | 27 => ("VersionedRowsModel", "found", "I", false)
  | 28 => ("VersionedRowsModel", "used", "I", false)
  | 29 => ("VersionedRowsModel", "candidates", "I", false)
  | 30 => ("VersionedRowsModel", "low", "J", false)
  | 31 => ("VersionedRowsModel", "high", "J", false)
  | 32 => ("VersionedRowsModel", "says", "Z", false)
  | 33 => ("VersionedRowsModel", "least", "J", false)
  | 34 => ("VersionedRowsModel", "greatest", "J", false)
  | 35 => ("VersionedRowsModel", "order", "[I", true)
  | 36 => ("VersionedRowsModel", "sorted", "I", false)
  | _ => ("VersionedRowsModel", "taken", "[Z", true)
def tyX9 : Nat → FieldType := fun k => match k with
  | 0 => .int
  | 1 => .int
  | 2 => .array .int
  | 3 => .array .int
  | 4 => .array .int
  | 5 => .array .boolean
  | 6 => .int
  | 7 => .array .int
  | 8 => .array .int
  | 9 => .array .int
  | 10 => .array .int
  | 11 => .array .boolean
  | 12 => .array .int
  | 13 => .array .int
  | 14 => .int
  | 15 => .array .int
  | 16 => .array .int
  | 17 => .int
  | 18 => .int
  | 19 => .int
  | 20 => .array .int
  | 21 => .array .int
  | 22 => .array .int
  | 23 => .array .int
  | 24 => .array .int
  | 25 => .array .int
  | 26 => .array .int
  | 27 => .int
  | 28 => .int
  | 29 => .int
  | 30 => .long
  | 31 => .long
  | 32 => .boolean
  | 33 => .long
  | 34 => .long
  | 35 => .array .int
  | 36 => .int
  | _ => .array .boolean
abbrev wsX90 : List Cond := u_ws RX9 TX9 38
theorem nmX9 : ∀ a, a < 38 → ∀ b, b < 38 → a ≠ b → (TX9 a).2.1 ≠ (TX9 b).2.1 := by decide +kernel
theorem tyX9_ok : ∀ k, k < 38 → parseFieldDescriptor (TX9 k).2.2.1 = some (tyX9 k) := by decide +kernel
abbrev cX9_init : ByteArray := prog_11_method_1_code
def yX9_init : MethodName := ⟨RX9, "<init>", "()V"⟩
abbrev cX9_isKey : ByteArray := prog_11_method_2_code
def yX9_isKey : MethodName := ⟨RX9, "isKey", "(I)Z"⟩
abbrev cX9_isName : ByteArray := prog_11_method_3_code
def yX9_isName : MethodName := ⟨RX9, "isName", "(I)Z"⟩
abbrev cX9_needs : ByteArray := prog_11_method_4_code
def yX9_needs : MethodName := ⟨RX9, "needs", "(I)I"⟩
abbrev cX9_say : ByteArray := prog_11_method_5_code
def yX9_say : MethodName := ⟨RX9, "say", "(II)Z"⟩
abbrev cX9_starts : ByteArray := prog_11_method_6_code
def yX9_starts : MethodName := ⟨RX9, "starts", "(II)Z"⟩
abbrev cX9_two : ByteArray := prog_11_method_7_code
def yX9_two : MethodName := ⟨RX9, "two", "(III)I"⟩
abbrev cX9_value : ByteArray := prog_11_method_8_code
def yX9_value : MethodName := ⟨RX9, "value", "(I)I"⟩
abbrev cX9_index : ByteArray := prog_11_method_9_code
def yX9_index : MethodName := ⟨RX9, "index", "()I"⟩
abbrev cX9_seen : ByteArray := prog_11_method_10_code
def yX9_seen : MethodName := ⟨RX9, "seen", "(IIII)I"⟩
abbrev cX9_rowAt : ByteArray := prog_11_method_11_code
def yX9_rowAt : MethodName := ⟨RX9, "rowAt", "(II)Z"⟩
abbrev cX9_rowFor : ByteArray := prog_11_method_12_code
def yX9_rowFor : MethodName := ⟨RX9, "rowFor", "(II)Z"⟩
abbrev cX9_open : ByteArray := prog_11_method_13_code
def yX9_open : MethodName := ⟨RX9, "open", "(I)Z"⟩
abbrev cX9_opens : ByteArray := prog_11_method_14_code
def yX9_opens : MethodName := ⟨RX9, "opens", "()I"⟩
abbrev cX9_horizon : ByteArray := prog_11_method_15_code
def yX9_horizon : MethodName := ⟨RX9, "horizon", "()I"⟩
abbrev cX9_inFile : ByteArray := prog_11_method_16_code
def yX9_inFile : MethodName := ⟨RX9, "inFile", "(I)I"⟩
abbrev cX9_begin : ByteArray := prog_11_method_17_code
def yX9_begin : MethodName := ⟨RX9, "begin", "()I"⟩
abbrev cX9_read : ByteArray := prog_11_method_18_code
def yX9_read : MethodName := ⟨RX9, "read", "(III)I"⟩
abbrev cX9_write : ByteArray := prog_11_method_19_code
def yX9_write : MethodName := ⟨RX9, "write", "(IIIII)Z"⟩
abbrev cX9_remove : ByteArray := prog_11_method_20_code
def yX9_remove : MethodName := ⟨RX9, "remove", "(II)Z"⟩
abbrev cX9_beaten : ByteArray := prog_11_method_21_code
def yX9_beaten : MethodName := ⟨RX9, "beaten", "(I)Z"⟩
abbrev cX9_reads : ByteArray := prog_11_method_22_code
def yX9_reads : MethodName := ⟨RX9, "reads", "(I)Z"⟩
abbrev cX9_entry : ByteArray := prog_11_method_23_code
def yX9_entry : MethodName := ⟨RX9, "entry", "(IIIZ)V"⟩
abbrev cX9_batch : ByteArray := prog_11_method_24_code
def yX9_batch : MethodName := ⟨RX9, "batch", "(IZ)I"⟩
abbrev cX9_comes : ByteArray := prog_11_method_25_code
def yX9_comes : MethodName := ⟨RX9, "comes", "(I)V"⟩
abbrev cX9_commit : ByteArray := prog_11_method_26_code
def yX9_commit : MethodName := ⟨RX9, "commit", "(I)I"⟩
abbrev cX9_tear : ByteArray := prog_11_method_27_code
def yX9_tear : MethodName := ⟨RX9, "tear", "(II)I"⟩
abbrev cX9_abort : ByteArray := prog_11_method_28_code
def yX9_abort : MethodName := ⟨RX9, "abort", "(I)Z"⟩
abbrev cX9_crash : ByteArray := prog_11_method_29_code
def yX9_crash : MethodName := ⟨RX9, "crash", "()I"⟩
abbrev cX9_addFile : ByteArray := prog_11_method_30_code
def yX9_addFile : MethodName := ⟨RX9, "addFile", "(I)V"⟩
abbrev cX9_dropFile : ByteArray := prog_11_method_31_code
def yX9_dropFile : MethodName := ⟨RX9, "dropFile", "(I)V"⟩
abbrev cX9_flush : ByteArray := prog_11_method_32_code
def yX9_flush : MethodName := ⟨RX9, "flush", "()I"⟩
abbrev cX9_files : ByteArray := prog_11_method_33_code
def yX9_files : MethodName := ⟨RX9, "files", "(I)I"⟩
abbrev cX9_settle : ByteArray := prog_11_method_34_code
def yX9_settle : MethodName := ⟨RX9, "settle", "()V"⟩
abbrev cX9_compact : ByteArray := prog_11_method_35_code
def yX9_compact : MethodName := ⟨RX9, "compact", "()I"⟩
abbrev cX9_places : ByteArray := prog_11_method_36_code
def yX9_places : MethodName := ⟨RX9, "places", "(II)I"⟩
abbrev cX9_before : ByteArray := prog_11_method_37_code
def yX9_before : MethodName := ⟨RX9, "before", "(II)Z"⟩
abbrev cX9_end : ByteArray := prog_11_method_38_code
def yX9_end : MethodName := ⟨RX9, "end", "(IZ)I"⟩
abbrev cX9_meet : ByteArray := prog_11_method_39_code
def yX9_meet : MethodName := ⟨RX9, "meet", "(II)Z"⟩
abbrev cX9_sort : ByteArray := prog_11_method_40_code
def yX9_sort : MethodName := ⟨RX9, "sort", "()V"⟩
abbrev cX9_compacts : ByteArray := prog_11_method_41_code
def yX9_compacts : MethodName := ⟨RX9, "compacts", "(I)I"⟩
abbrev cX9_merge : ByteArray := prog_11_method_42_code
def yX9_merge : MethodName := ⟨RX9, "merge", "(I)I"⟩
abbrev cX9_clean : ByteArray := prog_11_method_43_code
def yX9_clean : MethodName := ⟨RX9, "clean", "()V"⟩
abbrev cX9_from : ByteArray := prog_11_method_44_code
def yX9_from : MethodName := ⟨RX9, "from", "(II)I"⟩
abbrev cX9_same : ByteArray := prog_11_method_45_code
def yX9_same : MethodName := ⟨RX9, "same", "(IIII)Z"⟩
abbrev cX9_bound : ByteArray := prog_11_method_46_code
def yX9_bound : MethodName := ⟨RX9, "bound", "(JJ)V"⟩
abbrev cX9_conjunct : ByteArray := prog_11_method_47_code
def yX9_conjunct : MethodName := ⟨RX9, "conjunct", "(III)V"⟩
abbrev cX9_conjuncts : ByteArray := prog_11_method_48_code
def yX9_conjuncts : MethodName := ⟨RX9, "conjuncts", "(II)V"⟩
abbrev cX9_query : ByteArray := prog_11_method_49_code
def yX9_query : MethodName := ⟨RX9, "query", "(I)I"⟩
abbrev cX9_result : ByteArray := prog_11_method_50_code
def yX9_result : MethodName := ⟨RX9, "result", "(I)I"⟩
abbrev cX9_plan : ByteArray := prog_11_method_51_code
def yX9_plan : MethodName := ⟨RX9, "plan", "(I)J"⟩
abbrev cX9_state : ByteArray := prog_11_method_52_code
def yX9_state : MethodName := ⟨RX9, "state", "(I)I"⟩
abbrev cX9_about : ByteArray := prog_11_method_53_code
def yX9_about : MethodName := ⟨RX9, "about", "(I)I"⟩
abbrev cX9_file : ByteArray := prog_11_method_54_code
def yX9_file : MethodName := ⟨RX9, "file", "(III)I"⟩
abbrev cX9_aboutFile : ByteArray := prog_11_method_55_code
def yX9_aboutFile : MethodName := ⟨RX9, "aboutFile", "(II)I"⟩
def RJx145de : String := "java/io/Serializable"
def TJx145de : u_T := fun k => match k with
  | _ => ("", "", "", false)
def tyJx145de : Nat → FieldType := fun k => match k with
  | _ => .int
abbrev wsJx145de0 : List Cond := u_ws RJx145de TJx145de 0
theorem nmJx145de : ∀ a, a < 0 → ∀ b, b < 0 → a ≠ b → (TJx145de a).2.1 ≠ (TJx145de b).2.1 := by decide +kernel
theorem tyJx145de_ok : ∀ k, k < 0 → parseFieldDescriptor (TJx145de k).2.2.1 = some (tyJx145de k) := by decide +kernel
def RJx8e188 : String := "java/lang/Cloneable"
def TJx8e188 : u_T := fun k => match k with
  | _ => ("", "", "", false)
def tyJx8e188 : Nat → FieldType := fun k => match k with
  | _ => .int
abbrev wsJx8e1880 : List Cond := u_ws RJx8e188 TJx8e188 0
theorem nmJx8e188 : ∀ a, a < 0 → ∀ b, b < 0 → a ≠ b → (TJx8e188 a).2.1 ≠ (TJx8e188 b).2.1 := by decide +kernel
theorem tyJx8e188_ok : ∀ k, k < 0 → parseFieldDescriptor (TJx8e188 k).2.2.1 = some (tyJx8e188 k) := by decide +kernel
def RJxab1ab : String := "java/lang/Iterable"
def TJxab1ab : u_T := fun k => match k with
  | _ => ("", "", "", false)
def tyJxab1ab : Nat → FieldType := fun k => match k with
  | _ => .int
abbrev wsJxab1ab0 : List Cond := u_ws RJxab1ab TJxab1ab 0
theorem nmJxab1ab : ∀ a, a < 0 → ∀ b, b < 0 → a ≠ b → (TJxab1ab a).2.1 ≠ (TJxab1ab b).2.1 := by decide +kernel
theorem tyJxab1ab_ok : ∀ k, k < 0 → parseFieldDescriptor (TJxab1ab k).2.2.1 = some (tyJxab1ab k) := by decide +kernel
def RJ9 : String := "java/lang/Math"
def TJ9 : u_T := fun k => match k with
  | _ => ("", "", "", false)
def tyJ9 : Nat → FieldType := fun k => match k with
  | _ => .int
abbrev wsJ90 : List Cond := u_ws RJ9 TJ9 0
theorem nmJ9 : ∀ a, a < 0 → ∀ b, b < 0 → a ≠ b → (TJ9 a).2.1 ≠ (TJ9 b).2.1 := by decide +kernel
theorem tyJ9_ok : ∀ k, k < 0 → parseFieldDescriptor (TJ9 k).2.2.1 = some (tyJ9 k) := by decide +kernel
abbrev cJ9_max_7cf53 : ByteArray := prog_15_method_65_code
def yJ9_max_7cf53 : MethodName := ⟨RJ9, "max", "(II)I"⟩
abbrev cJ9_max_f86c9 : ByteArray := prog_15_method_66_code
def yJ9_max_f86c9 : MethodName := ⟨RJ9, "max", "(JJ)J"⟩
abbrev cJ9_min_7cf53 : ByteArray := prog_15_method_69_code
def yJ9_min_7cf53 : MethodName := ⟨RJ9, "min", "(II)I"⟩
abbrev cJ9_min_f86c9 : ByteArray := prog_15_method_70_code
def yJ9_min_f86c9 : MethodName := ⟨RJ9, "min", "(JJ)J"⟩
def RJ10 : String := "java/lang/System"
def TJ10 : u_T := fun k => match k with
  | _ => ("", "", "", false)
def tyJ10 : Nat → FieldType := fun k => match k with
  | _ => .int
abbrev wsJ100 : List Cond := u_ws RJ10 TJ10 0
theorem nmJ10 : ∀ a, a < 0 → ∀ b, b < 0 → a ≠ b → (TJ10 a).2.1 ≠ (TJ10 b).2.1 := by decide +kernel
theorem tyJ10_ok : ∀ k, k < 0 → parseFieldDescriptor (TJ10 k).2.2.1 = some (tyJ10 k) := by decide +kernel
def RJxa1e45 : String := "java/util/AbstractCollection"
def TJxa1e45 : u_T := fun k => match k with
  | _ => ("", "", "", false)
def tyJxa1e45 : Nat → FieldType := fun k => match k with
  | _ => .int
abbrev wsJxa1e450 : List Cond := u_ws RJxa1e45 TJxa1e45 0
theorem nmJxa1e45 : ∀ a, a < 0 → ∀ b, b < 0 → a ≠ b → (TJxa1e45 a).2.1 ≠ (TJxa1e45 b).2.1 := by decide +kernel
theorem tyJxa1e45_ok : ∀ k, k < 0 → parseFieldDescriptor (TJxa1e45 k).2.2.1 = some (tyJxa1e45 k) := by decide +kernel
abbrev cJxa1e45_init_da8c8 : ByteArray := prog_17_method_1_code
def yJxa1e45_init_da8c8 : MethodName := ⟨RJxa1e45, "<init>", "()V"⟩
def RJxc12de : String := "java/util/AbstractList"
def TJxc12de : u_T := fun k => match k with
  | _ => ("", "", "", false)
def tyJxc12de : Nat → FieldType := fun k => match k with
  | _ => .int
abbrev wsJxc12de0 : List Cond := u_ws RJxc12de TJxc12de 0
theorem nmJxc12de : ∀ a, a < 0 → ∀ b, b < 0 → a ≠ b → (TJxc12de a).2.1 ≠ (TJxc12de b).2.1 := by decide +kernel
theorem tyJxc12de_ok : ∀ k, k < 0 → parseFieldDescriptor (TJxc12de k).2.2.1 = some (tyJxc12de k) := by decide +kernel
abbrev cJxc12de_init_da8c8 : ByteArray := prog_18_method_1_code
def yJxc12de_init_da8c8 : MethodName := ⟨RJxc12de, "<init>", "()V"⟩
def RJx4a65c : String := "java/util/ArrayList"
def TJx4a65c : u_T := fun k => match k with
  | 0 => ("java/util/AbstractList", "modCount", "I", false)
  | 1 => ("java/util/ArrayList", "elementData", "[Ljava/lang/Object;", false)
  | _ => ("java/util/ArrayList", "size", "I", false)
def tyJx4a65c : Nat → FieldType := fun k => match k with
  | 0 => .int
  | 1 => .array (.object "java/lang/Object")
  | _ => .int
abbrev wsJx4a65c0 : List Cond := u_ws RJx4a65c TJx4a65c 3
theorem nmJx4a65c : ∀ a, a < 3 → ∀ b, b < 3 → a ≠ b → (TJx4a65c a).2.1 ≠ (TJx4a65c b).2.1 := by decide +kernel
theorem tyJx4a65c_ok : ∀ k, k < 3 → parseFieldDescriptor (TJx4a65c k).2.2.1 = some (tyJx4a65c k) := by decide +kernel
abbrev cJx4a65c_init_da8c8 : ByteArray := prog_19_method_2_code
def yJx4a65c_init_da8c8 : MethodName := ⟨RJx4a65c, "<init>", "()V"⟩
abbrev cJx4a65c_grow_92f84 : ByteArray := prog_19_method_6_code
def yJx4a65c_grow_92f84 : MethodName := ⟨RJx4a65c, "grow", "(I)[Ljava/lang/Object;"⟩
abbrev cJx4a65c_grow_d5877 : ByteArray := prog_19_method_7_code
def yJx4a65c_grow_d5877 : MethodName := ⟨RJx4a65c, "grow", "()[Ljava/lang/Object;"⟩
abbrev cJx4a65c_size_8abf5 : ByteArray := prog_19_method_8_code
def yJx4a65c_size_8abf5 : MethodName := ⟨RJx4a65c, "size", "()I"⟩
abbrev cJx4a65c_elementData_915e3 : ByteArray := prog_19_method_18_code
def yJx4a65c_elementData_915e3 : MethodName := ⟨RJx4a65c, "elementData", "(I)Ljava/lang/Object;"⟩
abbrev cJx4a65c_get_915e3 : ByteArray := prog_19_method_20_code
def yJx4a65c_get_915e3 : MethodName := ⟨RJx4a65c, "get", "(I)Ljava/lang/Object;"⟩
abbrev cJx4a65c_add_72be8 : ByteArray := prog_19_method_24_code
def yJx4a65c_add_72be8 : MethodName := ⟨RJx4a65c, "add", "(Ljava/lang/Object;[Ljava/lang/Object;I)V"⟩
abbrev cJx4a65c_add_9ea2d : ByteArray := prog_19_method_25_code
def yJx4a65c_add_9ea2d : MethodName := ⟨RJx4a65c, "add", "(Ljava/lang/Object;)Z"⟩
abbrev cJx4a65c_remove_915e3 : ByteArray := prog_19_method_29_code
def yJx4a65c_remove_915e3 : MethodName := ⟨RJx4a65c, "remove", "(I)Ljava/lang/Object;"⟩
abbrev cJx4a65c_fastRemove_b59b0 : ByteArray := prog_19_method_39_code
def yJx4a65c_fastRemove_b59b0 : MethodName := ⟨RJx4a65c, "fastRemove", "([Ljava/lang/Object;I)V"⟩
def RJ7 : String := "java/util/Arrays"
def TJ7 : u_T := fun k => match k with
  | _ => ("", "", "", false)
def tyJ7 : Nat → FieldType := fun k => match k with
  | _ => .int
abbrev wsJ70 : List Cond := u_ws RJ7 TJ7 0
theorem nmJ7 : ∀ a, a < 0 → ∀ b, b < 0 → a ≠ b → (TJ7 a).2.1 ≠ (TJ7 b).2.1 := by decide +kernel
theorem tyJ7_ok : ∀ k, k < 0 → parseFieldDescriptor (TJ7 k).2.2.1 = some (tyJ7 k) := by decide +kernel
abbrev cJ7_copyOf_1904c : ByteArray := prog_20_method_119_code
def yJ7_copyOf_1904c : MethodName := ⟨RJ7, "copyOf", "([Ljava/lang/Object;I)[Ljava/lang/Object;"⟩
abbrev cJ7_copyOf_6403c : ByteArray := prog_20_method_120_code
def yJ7_copyOf_6403c : MethodName := ⟨RJ7, "copyOf", "([Ljava/lang/Object;ILjava/lang/Class;)[Ljava/lang/Object;"⟩
def RJx5ef63 : String := "java/util/Collection"
def TJx5ef63 : u_T := fun k => match k with
  | _ => ("", "", "", false)
def tyJx5ef63 : Nat → FieldType := fun k => match k with
  | _ => .int
abbrev wsJx5ef630 : List Cond := u_ws RJx5ef63 TJx5ef63 0
theorem nmJx5ef63 : ∀ a, a < 0 → ∀ b, b < 0 → a ≠ b → (TJx5ef63 a).2.1 ≠ (TJx5ef63 b).2.1 := by decide +kernel
theorem tyJx5ef63_ok : ∀ k, k < 0 → parseFieldDescriptor (TJx5ef63 k).2.2.1 = some (tyJx5ef63 k) := by decide +kernel
def RJxbd725 : String := "java/util/List"
def TJxbd725 : u_T := fun k => match k with
  | _ => ("", "", "", false)
def tyJxbd725 : Nat → FieldType := fun k => match k with
  | _ => .int
abbrev wsJxbd7250 : List Cond := u_ws RJxbd725 TJxbd725 0
theorem nmJxbd725 : ∀ a, a < 0 → ∀ b, b < 0 → a ≠ b → (TJxbd725 a).2.1 ≠ (TJxbd725 b).2.1 := by decide +kernel
theorem tyJxbd725_ok : ∀ k, k < 0 → parseFieldDescriptor (TJxbd725 k).2.2.1 = some (tyJxbd725 k) := by decide +kernel
def RJ15 : String := "java/util/Objects"
def TJ15 : u_T := fun k => match k with
  | _ => ("", "", "", false)
def tyJ15 : Nat → FieldType := fun k => match k with
  | _ => .int
abbrev wsJ150 : List Cond := u_ws RJ15 TJ15 0
theorem nmJ15 : ∀ a, a < 0 → ∀ b, b < 0 → a ≠ b → (TJ15 a).2.1 ≠ (TJ15 b).2.1 := by decide +kernel
theorem tyJ15_ok : ∀ k, k < 0 → parseFieldDescriptor (TJ15 k).2.2.1 = some (tyJ15 k) := by decide +kernel
abbrev cJ15_checkIndex_7cf53 : ByteArray := prog_23_method_17_code
def yJ15_checkIndex_7cf53 : MethodName := ⟨RJ15, "checkIndex", "(II)I"⟩
def RJxf0a74 : String := "java/util/RandomAccess"
def TJxf0a74 : u_T := fun k => match k with
  | _ => ("", "", "", false)
def tyJxf0a74 : Nat → FieldType := fun k => match k with
  | _ => .int
abbrev wsJxf0a740 : List Cond := u_ws RJxf0a74 TJxf0a74 0
theorem nmJxf0a74 : ∀ a, a < 0 → ∀ b, b < 0 → a ≠ b → (TJxf0a74 a).2.1 ≠ (TJxf0a74 b).2.1 := by decide +kernel
theorem tyJxf0a74_ok : ∀ k, k < 0 → parseFieldDescriptor (TJxf0a74 k).2.2.1 = some (tyJxf0a74 k) := by decide +kernel
def RJxa66e6 : String := "java/util/SequencedCollection"
def TJxa66e6 : u_T := fun k => match k with
  | _ => ("", "", "", false)
def tyJxa66e6 : Nat → FieldType := fun k => match k with
  | _ => .int
abbrev wsJxa66e60 : List Cond := u_ws RJxa66e6 TJxa66e6 0
theorem nmJxa66e6 : ∀ a, a < 0 → ∀ b, b < 0 → a ≠ b → (TJxa66e6 a).2.1 ≠ (TJxa66e6 b).2.1 := by decide +kernel
theorem tyJxa66e6_ok : ∀ k, k < 0 → parseFieldDescriptor (TJxa66e6 k).2.2.1 = some (tyJxa66e6 k) := by decide +kernel
def RJ8 : String := "jdk/internal/util/ArraysSupport"
def TJ8 : u_T := fun k => match k with
  | _ => ("", "", "", false)
def tyJ8 : Nat → FieldType := fun k => match k with
  | _ => .int
abbrev wsJ80 : List Cond := u_ws RJ8 TJ8 0
theorem nmJ8 : ∀ a, a < 0 → ∀ b, b < 0 → a ≠ b → (TJ8 a).2.1 ≠ (TJ8 b).2.1 := by decide +kernel
theorem tyJ8_ok : ∀ k, k < 0 → parseFieldDescriptor (TJ8 k).2.2.1 = some (tyJ8 k) := by decide +kernel
abbrev cJ8_newLength_cabcc : ByteArray := prog_26_method_27_code
def yJ8_newLength_cabcc : MethodName := ⟨RJ8, "newLength", "(III)I"⟩
abbrev cJ8_hugeLength_7cf53 : ByteArray := prog_26_method_28_code
def yJ8_hugeLength_7cf53 : MethodName := ⟨RJ8, "hugeLength", "(II)I"⟩
def RJ3 : String := "jdk/internal/util/Preconditions"
def TJ3 : u_T := fun k => match k with
  | _ => ("", "", "", false)
def tyJ3 : Nat → FieldType := fun k => match k with
  | _ => .int
abbrev wsJ30 : List Cond := u_ws RJ3 TJ3 0
theorem nmJ3 : ∀ a, a < 0 → ∀ b, b < 0 → a ≠ b → (TJ3 a).2.1 ≠ (TJ3 b).2.1 := by decide +kernel
theorem tyJ3_ok : ∀ k, k < 0 → parseFieldDescriptor (TJ3 k).2.2.1 = some (tyJ3 k) := by decide +kernel
abbrev cJ3_checkIndex_8e157 : ByteArray := prog_27_method_11_code
def yJ3_checkIndex_8e157 : MethodName := ⟨RJ3, "checkIndex", "(IILjava/util/function/BiFunction;)I"⟩
def RL : String := "VersionedRowsLaw"
abbrev cL_law : ByteArray := code
def yL_law : MethodName := ⟨RL, "law", "([I)Z"⟩
end
section
/-! THE ENGINE. Logical values, a heap by fields (each field a map from ids to values), and two judgements over the machine: Sm (exact: this frame ends so) and Ev (it ends, and so). Ids: 0 the empty array of ArrayList, 1 the mirror of Object[], 2 the script, from 3 on the cells that were made since the law began, in order. -/
abbrev LV : Type := Int32 ⊕ Int64 ⊕ Option Nat
abbrev iV (x : Int32) : LV := .inl x
abbrev lV (x : Int64) : LV := .inr (.inl x)
abbrev rV (r : Option Nat) : LV := .inr (.inr r)
/-- kinds, int fields, long fields, reference fields (by field number, then id), int arrays, reference arrays, lengths, the next id, the slots made -/
abbrev GH : Type := (Nat → Nat) × (Nat → Nat → Int32) × (Nat → Nat → Int64) × (Nat → Nat → Option Nat) × (Nat → Nat → Int32) × (Nat → Nat → Option Nat) × (Nat → Nat) × Nat × Nat
abbrev gh_n (G : GH) : Nat := G.2.2.2.2.2.2.2.1
abbrev gh_s (G : GH) : Nat := G.2.2.2.2.2.2.2.2
def u2 {α : Type} (f : Nat → Nat → α) (a b : Nat) (v : α) : Nat → Nat → α := fun i j => if i = a ∧ j = b then v else f i j
/-- the launch; the tables of classes; the array classes; (base, empty array, mirror, script); the script's length and ints -/
abbrev CX : Type := Launch × va_G × (Nat → ClassId) × (Nat × Nat × Nat × Nat) × Nat × (Nat → Int32)
abbrev cx_b (X : CX) : Nat := X.2.2.2.1.1
def cx_ad (X : CX) (i : Nat) : Nat := if i = 0 then X.2.2.2.1.2.1 else if i = 1 then X.2.2.2.1.2.2.1 else if i = 2 then X.2.2.2.1.2.2.2 else cx_b X + (i - 3)
def cx_v (X : CX) : LV → Value
  | .inl x => .int x
  | .inr (.inl x) => .long x
  | .inr (.inr r) => va_rf (r.map (cx_ad X))
abbrev cx_A (X : CX) : Nat → Prop := fun q => cx_b X ≤ q
abbrev gcl : List vw_C := [(RX0, TX0, 7), (RX1, TX1, 5), (RX2, TX2, 4), (RX3, TX3, 3), (RX4, TX4, 4), (RX5, TX5, 6), (RX6, TX6, 5), (RX7, TX7, 5), (RX8, TX8, 13), (RX9, TX9, 38), (RJx4a65c, TJx4a65c, 3)]
def gty (c : Nat) : Nat → FieldType := match c with
  | 0 => tyX0 | 1 => tyX1 | 2 => tyX2 | 3 => tyX3 | 4 => tyX4 | 5 => tyX5 | 6 => tyX6 | 7 => tyX7 | 8 => tyX8 | 9 => tyX9 | _ => tyJx4a65c
def gnf (c : Nat) : Nat := match c with
  | 0 => 7 | 1 => 5 | 2 => 4 | 3 => 3 | 4 => 4 | 5 => 6 | 6 => 5 | 7 => 5 | 8 => 13 | 9 => 38 | _ => 3
/-- the array types: kind 100 + k -/
abbrev cx_ty (X : CX) : List (ClassId × FieldType) := [(X.2.2.1 0, .int), (X.2.2.1 1, .boolean), (X.2.2.1 2, .object RX1), (X.2.2.1 3, .object RX7), (X.2.2.1 4, .object RX3), (X.2.2.1 5, .object RX0), (X.2.2.1 6, .object "java/lang/Object")]
def fv (X : CX) (G : GH) (t : FieldType) (f i : Nat) : Value := match t with
  | .long => .long (G.2.2.1 f i)
  | .int => .int (G.2.1 f i)
  | .boolean => .int (G.2.1 f i)
  | _ => va_rf ((G.2.2.2.1 f i).map (cx_ad X))
def fvs (X : CX) (G : GH) (c i : Nat) : List Value := (List.range (gnf c)).map (fun k => fv X G (gty c k) (64 * c + k) i)
def cellE (X : CX) (G : GH) (i : Nat) : va_E := if G.1 i < 100 then .inr (G.1 i, fvs X G (G.1 i) i) else .inl (X.2.2.1 (G.1 i - 100), G.2.2.2.2.2.2.1 i, if G.1 i < 102 then .inl (G.2.2.2.2.1 i) else .inr (.inr (.inr (.inr (fun j => (G.2.2.2.2.2.1 i j).map (cx_ad X))))))
/-- an id that is not made yet holds nothing -/
def Fresh (G : GH) (i : Nat) : Prop := (∀ f, G.2.1 f i = 0) ∧ (∀ f, G.2.2.1 f i = 0) ∧ (∀ f, G.2.2.2.1 f i = none) ∧ (∀ j, G.2.2.2.2.1 i j = 0) ∧ (∀ j, G.2.2.2.2.2.1 i j = none) ∧ 900 ≤ G.1 i
/-- the machine's heap H is the logical heap G -/
def Rel (X : CX) (G : GH) (H : Heap) : Prop := (gh_n G + cx_b X = H.size + 3 ∧ 3 ≤ gh_n G) ∧ (∀ i, G.1 i < 900 → 3 ≤ i ∧ i < gh_n G ∧ va_at X.2.1 gcl (cx_ad X i, cellE X G i) H) ∧ ∀ i, gh_n G ≤ i → Fresh G i
def SameAt (G1 G : GH) (j : Nat) : Prop := (∀ f, G1.2.1 f j = G.2.1 f j) ∧ (∀ f, G1.2.2.1 f j = G.2.2.1 f j) ∧ (∀ f, G1.2.2.2.1 f j = G.2.2.2.1 f j) ∧ G1.2.2.2.2.1 j = G.2.2.2.2.1 j ∧ G1.2.2.2.2.2.1 j = G.2.2.2.2.2.1 j ∧ G1.2.2.2.2.2.2.1 j = G.2.2.2.2.2.2.1 j
def lw_g : List Cond := lw_tbl.filter goodWord
def isNest : Cond → Bool
  | .fieldLinkNest .. => true
  | .methodLinkNest .. => true
  | _ => false
def lw_n : List Cond := lw_tbl.filter isNest
def NWs (U : State) : Prop := ∀ w ∈ lw_n, va_Nw w U
theorem NWs.moved {s U : State} (hW : s.WarmedH U.vm) (h : NWs s) : NWs U := by
  intro w hw
  have h1 := h w hw
  have h2 := (List.mem_filter.mp hw).2
  cases w <;> first | (cases h2; done) | exact va_Nw.warmF hW h1 | exact va_Nw.warmM hW h1
abbrev alE : String × String × String := ("java/util/ArrayList", "DEFAULTCAPACITY_EMPTY_ELEMENTDATA", "[Ljava/lang/Object;")
/-- what stands outside the made cells: ArrayList's empty array and its static, the mirror, the script -/
def Ext (X : CX) (U : State) : Prop := va_Z alE.1 alE.2.1 alE.2.2 (.ref (cx_ad X 0)) (cx_A X) U U.heap ∧ va_T (.object "java/lang/Object") (cx_ad X 0) 0 (fun _ => .null) (cx_A X) U U.heap ∧ va_Mi "[Ljava/lang/Object;" (cx_ad X 1) U ∧ va_Dc U ∧ va_X (cx_ad X 2) X.2.2.2.2.1 X.2.2.2.2.2 U U.heap ∧ cx_ad X 2 < cx_b X
def AOs (U : State) : Prop := va_AO RX1 U ∧ va_AO RX7 U ∧ va_AO RX3 U ∧ va_AO RX0 U ∧ va_AO "java/lang/Object" U
def StOk (X : CX) (U : State) : Prop := va_K X.2.1 gcl (cx_ty X) U ∧ NWs U ∧ AOs U ∧ va_Nw (.castable RX5 "java/lang/Object") U ∧ Ext X U ∧ cx_b X ≤ U.heap.size
abbrev MD : Type := MethodName × ByteArray × Nat × Option FieldType × Bool
def gTn (c : Nat) : u_T := match c with
  | 0 => TX0 | 1 => TX1 | 2 => TX2 | 3 => TX3 | 4 => TX4 | 5 => TX5 | 6 => TX6 | 7 => TX7 | 8 => TX8 | 9 => TX9 | _ => TJx4a65c
def gRn (c : Nat) : String := match c with
  | 0 => RX0 | 1 => RX1 | 2 => RX2 | 3 => RX3 | 4 => RX4 | 5 => RX5 | 6 => RX6 | 7 => RX7 | 8 => RX8 | 9 => RX9 | _ => RJx4a65c
theorem gcl_at : ∀ c, c < 11 → gcl[c]? = some (gRn c, gTn c, gnf c)
  | 0, _ => rfl | 1, _ => rfl | 2, _ => rfl | 3, _ => rfl | 4, _ => rfl | 5, _ => rfl | 6, _ => rfl | 7, _ => rfl | 8, _ => rfl | 9, _ => rfl | 10, _ => rfl
  | n + 11, h => absurd h (by omega)
/-- entry idx of the class own's pool is field f: number f mod 64 of class f div 64 -/
def FLk (own : String) (idx f : Nat) : Prop := f / 64 < 11 ∧ f % 64 < gnf (f / 64) ∧ (Cond.fieldLink own idx (gTn (f / 64) (f % 64)).1 (gTn (f / 64) (f % 64)).2.1 (gTn (f / 64) (f % 64)).2.2.1 ∈ lw_g ∨ ∃ host, Cond.fieldLinkNest own idx (gTn (f / 64) (f % 64)).1 (gTn (f / 64) (f % 64)).2.1 (gTn (f / 64) (f % 64)).2.2.1 host ∈ lw_n)
def FLi (own : String) (idx f : Nat) : Prop := FLk own idx f ∧ (gty (f / 64) (f % 64) = .int ∨ gty (f / 64) (f % 64) = .boolean)
def FLj (own : String) (idx f : Nat) : Prop := FLk own idx f ∧ gty (f / 64) (f % 64) = .long
def FLr (own : String) (idx f : Nat) : Prop := FLk own idx f ∧ ((∃ n, gty (f / 64) (f % 64) = .object n) ∨ ∃ t, gty (f / 64) (f % 64) = .array t)
def FLm (own : String) (idx f : Nat) : Prop := Cond.fieldLink own idx (gTn (f / 64) (f % 64)).1 (gTn (f / 64) (f % 64)).2.1 (gTn (f / 64) (f % 64)).2.2.1 ∈ lw_g
end
section
theorem StOk.moved {X : CX} {s U : State} {locs : List Loc} (hW : s.WarmedH U.vm) (hS : va_S (cx_A X) s.heap U.heap locs) (h : StOk X s) : StOk X U := by
  obtain ⟨h1, h2, h3, h4, ⟨e1, e2, e3, e4, e5, e6⟩, h6⟩ := h
  have hk : ∀ a : Nat, a < s.heap.size → ¬ cx_A X a → U.heap[a]? = s.heap[a]? := fun a ha hn => hS.2.1 a ha hn
  refine ⟨h1.moved hW.alike, h2.moved hW, ⟨h3.1.moved hW.alike, h3.2.1.moved hW.alike, h3.2.2.1.moved hW.alike, h3.2.2.2.1.moved hW.alike, h3.2.2.2.2.moved hW.alike⟩, h4.warmC hW, ⟨(e1.moved hW.alike).kept hk, (e2.moved hW.alike).kept hk, e3.moved hW.alike, e4.moved hW.alike, (e5.moved hW.alike).kept (hk _ (Nat.lt_of_lt_of_le e6 h6) (Nat.not_le.mpr e6)), e6⟩, Nat.le_trans h6 hS.1⟩
def lvOK (X : CX) (ls : Array Slot) (nL : Nat) (L : List (Option LV)) : Prop := ls.size = nL ∧ lv_wf ls ∧ ∀ (i : Nat) (v : LV), L[i]? = some (some v) → ls[i]? = some (.val (cx_v X v))
/-- the place of a return instruction that fits the answer -/
def retAt (M : MD) (pc : Nat) (r : Option LV) : Prop :=
  (r = none ∧ M.2.2.2.1 = none ∧ decode M.2.1 pc = .ok (.return_, 1)) ∨
  (∃ v : Int32, r = some (iV v) ∧ ((M.2.2.2.1 = some .int) ∨ (M.2.2.2.1 = some .boolean ∧ (v = 0 ∨ v = 1))) ∧ decode M.2.1 pc = .ok (.ireturn, 1)) ∨
  (∃ v : Int64, r = some (lV v) ∧ M.2.2.2.1 = some .long ∧ decode M.2.1 pc = .ok (.lreturn, 1)) ∨
  (∃ (q : Option Nat) (t : FieldType), r = some (rV q) ∧ M.2.2.2.1 = some t ∧ ((∃ n, t = .object n) ∨ ∃ t', t = .array t') ∧ decode M.2.1 pc = .ok (.areturn, 1))
def MCx (X : CX) (M : MD) (d : Nat) (p : Program) (R : Room) (s : State) (m : MethodId) (args : Array Value) (meth : Method) (c : Code) : Prop :=
  p.tables.exec = Jvm.exec ∧ c.code = M.2.1 ∧ meth.sig.returnType = M.2.2.2.1 ∧ c.maxLocals = M.2.2.1 ∧ s.vm.findClass M.1.cls = some m.cls ∧ (∀ w ∈ lw_g, w.before args s = true) ∧ meth.locks = false ∧ (M.2.2.2.2 = true → meth.name = "<init>") ∧ StOk X s ∧ d ≤ R.frames ∧ 64 * d ≤ R.locals
/-- exact: from this frame, over a heap that is G, the method comes to its return with r, and the heap is G' -/
def Sm (X : CX) (M : MD) (d pc : Nat) (L : List (Option LV)) (S : List LV) (G : GH) (r : Option LV) (G' : GH) : Prop :=
  ∀ (p : Program) (e : Env) (R : Room) (s : State) (m : MethodId) (args : Array Value) (below : List Frame) (meth : Method) (c : Code), MCx X M d p R s m args meth c →
  ∀ (H : Heap) (locs : List Loc) (cells slots : Nat) (ls : Array Slot) (Z : State → Prop), Rel X G H → va_S (cx_A X) s.heap H locs → lvOK X ls M.2.2.1 L →
    cells + (gh_n G' - gh_n G) ≤ R.cells → slots + (gh_s G' - gh_s G) ≤ R.slots →
    (∀ (H' : Heap) (locs' : List Loc) (ls' : Array Slot) (pc' : Nat), Rel X G' H' → va_S (cx_A X) s.heap H' locs' → retAt M pc' r →
      W p X.1 e R s m args below meth c H' locs' (cells + (gh_n G' - gh_n G)) (slots + (gh_s G' - gh_s G)) Z (F0 m pc' ls' (r.toList.map (cx_v X)))) →
    W p X.1 e R s m args below meth c H locs cells slots Z (F0 m pc ls (S.map (cx_v X)))
def Ev (X : CX) (M : MD) (d pc : Nat) (L : List (Option LV)) (S : List LV) (G : GH) (Q : Option LV → GH → Prop) : Prop :=
  ∃ (r : Option LV) (G' : GH), gh_n G ≤ gh_n G' ∧ gh_s G ≤ gh_s G' ∧ Sm X M d pc L S G r G' ∧ Q r G'
theorem Ev.mono {X : CX} {M : MD} {d pc : Nat} {L : List (Option LV)} {S : List LV} {G : GH} {Q Q' : Option LV → GH → Prop} (h : Ev X M d pc L S G Q) (hq : ∀ r G', Q r G' → Q' r G') : Ev X M d pc L S G Q' := by
  obtain ⟨r, G', h1, h2, h3, h4⟩ := h
  exact ⟨r, G', h1, h2, h3, hq r G' h4⟩
/-- a step that leaves the heap as it is -/
def Ps (X : CX) (M : MD) (d pc : Nat) (L : List (Option LV)) (S : List LV) (pc' : Nat) (L' : List (Option LV)) (S' : List LV) : Prop :=
  ∀ (p : Program) (e : Env) (R : Room) (s : State) (m : MethodId) (args : Array Value) (below : List Frame) (meth : Method) (c : Code), MCx X M d p R s m args meth c →
  ∀ (H : Heap) (locs : List Loc) (cells slots : Nat) (ls : Array Slot) (Z : State → Prop), va_S (cx_A X) s.heap H locs → lvOK X ls M.2.2.1 L →
    (∀ ls' : Array Slot, lvOK X ls' M.2.2.1 L' → W p X.1 e R s m args below meth c H locs cells slots Z (F0 m pc' ls' (S'.map (cx_v X)))) →
    W p X.1 e R s m args below meth c H locs cells slots Z (F0 m pc ls (S.map (cx_v X)))
theorem Ev.ps {X : CX} {M : MD} {d pc pc' : Nat} {L L' : List (Option LV)} {S S' : List LV} {G : GH} {Q : Option LV → GH → Prop} (hp : Ps X M d pc L S pc' L' S') (h : Ev X M d pc' L' S' G Q) : Ev X M d pc L S G Q := by
  obtain ⟨r, G', h1, h2, h3, h4⟩ := h
  refine ⟨r, G', h1, h2, ?_, h4⟩
  intro p e R s m args below meth c C H locs cells slots ls Z hR hS hl hc hs k
  exact hp p e R s m args below meth c C H locs cells slots ls Z hS hl fun ls' hl' => h3 p e R s m args below meth c C H locs cells slots ls' Z hR hS hl' hc hs k
section RET
variable {X : CX} {M : MD} {d pc : Nat} {L : List (Option LV)} {G : GH} {Q : Option LV → GH → Prop}
theorem Ev.done {r : Option LV} (hr : retAt M pc r) (hq : Q r G) : Ev X M d pc L r.toList G Q := by
  refine ⟨r, G, Nat.le_refl _, Nat.le_refl _, ?_, hq⟩
  intro p e R s m args below meth c C H locs cells slots ls Z hR hS hl hc hs k
  have h := k H locs ls pc hR hS hr
  simpa using h
theorem ev_return (hd : decode M.2.1 pc = .ok (.return_, 1)) (ht : M.2.2.2.1 = none) (hq : Q none G) : Ev X M d pc L [] G Q := Ev.done (r := none) (Or.inl ⟨rfl, ht, hd⟩) hq
theorem ev_ireturn {v : Int32} (hd : decode M.2.1 pc = .ok (.ireturn, 1)) (ht : M.2.2.2.1 = some .int) (hq : Q (some (iV v)) G) : Ev X M d pc L [iV v] G Q := Ev.done (r := some (iV v)) (Or.inr (Or.inl ⟨v, rfl, Or.inl ht, hd⟩)) hq
theorem ev_zreturn {v : Int32} (hd : decode M.2.1 pc = .ok (.ireturn, 1)) (ht : M.2.2.2.1 = some .boolean) (hv : v = 0 ∨ v = 1) (hq : Q (some (iV v)) G) : Ev X M d pc L [iV v] G Q := Ev.done (r := some (iV v)) (Or.inr (Or.inl ⟨v, rfl, Or.inr ⟨ht, hv⟩, hd⟩)) hq
theorem ev_lreturn {v : Int64} (hd : decode M.2.1 pc = .ok (.lreturn, 1)) (ht : M.2.2.2.1 = some .long) (hq : Q (some (lV v)) G) : Ev X M d pc L [lV v] G Q := Ev.done (r := some (lV v)) (Or.inr (Or.inr (Or.inl ⟨v, rfl, ht, hd⟩))) hq
theorem ev_areturn {v : Option Nat} {n : String} (hd : decode M.2.1 pc = .ok (.areturn, 1)) (ht : M.2.2.2.1 = some (.object n)) (hq : Q (some (rV v)) G) : Ev X M d pc L [rV v] G Q := Ev.done (r := some (rV v)) (Or.inr (Or.inr (Or.inr ⟨v, _, rfl, ht, Or.inl ⟨n, rfl⟩, hd⟩))) hq
theorem ev_areturnA {v : Option Nat} {t : FieldType} (hd : decode M.2.1 pc = .ok (.areturn, 1)) (ht : M.2.2.2.1 = some (.array t)) (hq : Q (some (rV v)) G) : Ev X M d pc L [rV v] G Q := Ev.done (r := some (rV v)) (Or.inr (Or.inr (Or.inr ⟨v, _, rfl, ht, Or.inr ⟨t, rfl⟩, hd⟩))) hq
end RET
end
section
section PURE
variable {X : CX} {M : MD} {d pc : Nat} {L : List (Option LV)} {S : List LV} {G : GH} {Q : Option LV → GH → Prop}
theorem ev_iconst {n : Int} (v : Int32) (hd : decode M.2.1 pc = .ok (.iconst n, 1)) (hv : Int32.ofInt n = v) (k : Ev X M d (pc + 1) L (iV v :: S) G Q) : Ev X M d pc L (S) G Q := k.ps (fun _ _ _ _ _ _ _ _ _ C _ _ _ _ ls _ hS hl kk => lv_iconst C.1 C.2.1 hd hv (kk ls hl))
theorem ev_bipush {n : Int} (v : Int32) (hd : decode M.2.1 pc = .ok (.bipush n, 2)) (hv : (Int8.ofInt n).toInt32 = v) (k : Ev X M d (pc + 2) L (iV v :: S) G Q) : Ev X M d pc L (S) G Q := k.ps (fun _ _ _ _ _ _ _ _ _ C _ _ _ _ ls _ hS hl kk => lv_bipush C.1 C.2.1 hd hv (kk ls hl))
theorem ev_sipush {n : Int} (v : Int32) (hd : decode M.2.1 pc = .ok (.sipush n, 3)) (hv : (Int16.ofInt n).toInt32 = v) (k : Ev X M d (pc + 3) L (iV v :: S) G Q) : Ev X M d pc L (S) G Q := k.ps (fun _ _ _ _ _ _ _ _ _ C _ _ _ _ ls _ hS hl kk => lv_sipush C.1 C.2.1 hd hv (kk ls hl))
theorem ev_lconst {n : Fin 2} (v : Int64) (hd : decode M.2.1 pc = .ok (.lconst n, 1)) (hv : Int64.ofNat (n : Nat) = v) (k : Ev X M d (pc + 1) L (lV v :: S) G Q) : Ev X M d pc L (S) G Q := k.ps (fun _ _ _ _ _ _ _ _ _ C _ _ _ _ ls _ hS hl kk => lv_lconst C.1 C.2.1 hd hv (kk ls hl))
theorem ev_null  (hd : decode M.2.1 pc = .ok (.aconst_null, 1)) (k : Ev X M d (pc + 1) L (rV none :: S) G Q) : Ev X M d pc L (S) G Q := k.ps (fun _ _ _ _ _ _ _ _ _ C _ _ _ _ ls _ hS hl kk => lv_null C.1 C.2.1 hd (kk ls hl))
theorem ev_ldc {i : Nat} {v : Int32} (hd : decode M.2.1 pc = .ok (.ldc i, 2)) (hc : Cond.constant M.1.cls i v ∈ lw_g) (k : Ev X M d (pc + 2) L (iV v :: S) G Q) : Ev X M d pc L S G Q := k.ps (fun _ _ _ _ _ _ _ _ _ C _ _ _ _ ls _ hS hl kk => lv_ldc C.1 C.2.1 C.2.2.2.2.1 (C.2.2.2.2.2.1 _ hc) hd (kk ls hl))
theorem ev_ldcw {i : Nat} {v : Int32} (hd : decode M.2.1 pc = .ok (.ldc_w i, 3)) (hc : Cond.constant M.1.cls i v ∈ lw_g) (k : Ev X M d (pc + 3) L (iV v :: S) G Q) : Ev X M d pc L S G Q := k.ps (fun _ _ _ _ _ _ _ _ _ C _ _ _ _ ls _ hS hl kk => lv_ldcw C.1 C.2.1 C.2.2.2.2.1 (C.2.2.2.2.2.1 _ hc) hd (kk ls hl))
theorem ev_ldc2 {i : Nat} {v : Int64} (hd : decode M.2.1 pc = .ok (.ldc2_w i, 3)) (hc : Cond.constantLong M.1.cls i v ∈ lw_g) (k : Ev X M d (pc + 3) L (lV v :: S) G Q) : Ev X M d pc L S G Q := k.ps (fun _ _ _ _ _ _ _ _ _ C _ _ _ _ ls _ hS hl kk => lv_ldc2 C.1 C.2.1 C.2.2.2.2.1 (C.2.2.2.2.2.1 _ hc) hd (kk ls hl))
theorem ev_iload_n {j : Fin 4} {x : Int32} (hd : decode M.2.1 pc = .ok (.iload_n j, 1)) (hv : L[(j : Nat)]? = some (some (iV x))) (k : Ev X M d (pc + 1) L (iV x :: S) G Q) : Ev X M d pc L (S) G Q := k.ps (fun _ _ _ _ _ _ _ _ _ C _ _ _ _ ls _ hS hl kk => lv_iload_n C.1 C.2.1 hd rfl (hl.2.2 _ _ hv) (kk ls hl))
theorem ev_iload {j : Nat} {x : Int32} (hd : decode M.2.1 pc = .ok (.iload j, 2)) (hv : L[j]? = some (some (iV x))) (k : Ev X M d (pc + 2) L (iV x :: S) G Q) : Ev X M d pc L (S) G Q := k.ps (fun _ _ _ _ _ _ _ _ _ C _ _ _ _ ls _ hS hl kk => lv_iload C.1 C.2.1 hd (hl.2.2 _ _ hv) (kk ls hl))
theorem ev_lload_n {j : Fin 4} {x : Int64} (hd : decode M.2.1 pc = .ok (.lload_n j, 1)) (hv : L[(j : Nat)]? = some (some (lV x))) (k : Ev X M d (pc + 1) L (lV x :: S) G Q) : Ev X M d pc L (S) G Q := k.ps (fun _ _ _ _ _ _ _ _ _ C _ _ _ _ ls _ hS hl kk => lv_lload_n C.1 C.2.1 hd rfl (hl.2.2 _ _ hv) (kk ls hl))
theorem ev_lload {j : Nat} {x : Int64} (hd : decode M.2.1 pc = .ok (.lload j, 2)) (hv : L[j]? = some (some (lV x))) (k : Ev X M d (pc + 2) L (lV x :: S) G Q) : Ev X M d pc L (S) G Q := k.ps (fun _ _ _ _ _ _ _ _ _ C _ _ _ _ ls _ hS hl kk => lv_lload C.1 C.2.1 hd (hl.2.2 _ _ hv) (kk ls hl))
theorem ev_aload_n {j : Fin 4} {r : Option Nat} (hd : decode M.2.1 pc = .ok (.aload_n j, 1)) (hv : L[(j : Nat)]? = some (some (rV r))) (k : Ev X M d (pc + 1) L (rV r :: S) G Q) : Ev X M d pc L S G Q := by
  cases r with
  | none => exact k.ps (fun _ _ _ _ _ _ _ _ _ C _ _ _ _ ls _ hS hl kk => lv_aload_nN C.1 C.2.1 hd rfl (hl.2.2 _ _ hv) (kk ls hl))
  | some x => exact k.ps (fun _ _ _ _ _ _ _ _ _ C _ _ _ _ ls _ hS hl kk => lv_aload_n C.1 C.2.1 hd rfl (hl.2.2 _ _ hv) (kk ls hl))
theorem ev_aload {j : Nat} {r : Option Nat} (hd : decode M.2.1 pc = .ok (.aload j, 2)) (hv : L[j]? = some (some (rV r))) (k : Ev X M d (pc + 2) L (rV r :: S) G Q) : Ev X M d pc L S G Q := by
  cases r with
  | none => exact k.ps (fun _ _ _ _ _ _ _ _ _ C _ _ _ _ ls _ hS hl kk => lv_aloadN C.1 C.2.1 hd (hl.2.2 _ _ hv) (kk ls hl))
  | some x => exact k.ps (fun _ _ _ _ _ _ _ _ _ C _ _ _ _ ls _ hS hl kk => lv_aload C.1 C.2.1 hd (hl.2.2 _ _ hv) (kk ls hl))
theorem ev_iadd {x y : Int32} (hd : decode M.2.1 pc = .ok (.iadd, 1)) (k : Ev X M d (pc + 1) L (iV (x + y) :: S) G Q) : Ev X M d pc L (iV y :: iV x :: S) G Q := k.ps (fun _ _ _ _ _ _ _ _ _ C _ _ _ _ ls _ hS hl kk => lv_iadd C.1 C.2.1 hd (kk ls hl))
theorem ev_isub {x y : Int32} (hd : decode M.2.1 pc = .ok (.isub, 1)) (k : Ev X M d (pc + 1) L (iV (x - y) :: S) G Q) : Ev X M d pc L (iV y :: iV x :: S) G Q := k.ps (fun _ _ _ _ _ _ _ _ _ C _ _ _ _ ls _ hS hl kk => lv_isub C.1 C.2.1 hd (kk ls hl))
theorem ev_imul {x y : Int32} (hd : decode M.2.1 pc = .ok (.imul, 1)) (k : Ev X M d (pc + 1) L (iV (x * y) :: S) G Q) : Ev X M d pc L (iV y :: iV x :: S) G Q := k.ps (fun _ _ _ _ _ _ _ _ _ C _ _ _ _ ls _ hS hl kk => lv_imul C.1 C.2.1 hd (kk ls hl))
theorem ev_iand {x y : Int32} (hd : decode M.2.1 pc = .ok (.iand, 1)) (k : Ev X M d (pc + 1) L (iV (x &&& y) :: S) G Q) : Ev X M d pc L (iV y :: iV x :: S) G Q := k.ps (fun _ _ _ _ _ _ _ _ _ C _ _ _ _ ls _ hS hl kk => lv_iand C.1 C.2.1 hd (kk ls hl))
theorem ev_ior {x y : Int32} (hd : decode M.2.1 pc = .ok (.ior, 1)) (k : Ev X M d (pc + 1) L (iV (x ||| y) :: S) G Q) : Ev X M d pc L (iV y :: iV x :: S) G Q := k.ps (fun _ _ _ _ _ _ _ _ _ C _ _ _ _ ls _ hS hl kk => lv_ior C.1 C.2.1 hd (kk ls hl))
theorem ev_ixor {x y : Int32} (hd : decode M.2.1 pc = .ok (.ixor, 1)) (k : Ev X M d (pc + 1) L (iV (x ^^^ y) :: S) G Q) : Ev X M d pc L (iV y :: iV x :: S) G Q := k.ps (fun _ _ _ _ _ _ _ _ _ C _ _ _ _ ls _ hS hl kk => lv_ixor C.1 C.2.1 hd (kk ls hl))
theorem ev_idiv {x y : Int32} (hd : decode M.2.1 pc = .ok (.idiv, 1)) (hy : ¬ y = 0) (k : Ev X M d (pc + 1) L (iV (x / y) :: S) G Q) : Ev X M d pc L (iV y :: iV x :: S) G Q := k.ps (fun _ _ _ _ _ _ _ _ _ C _ _ _ _ ls _ hS hl kk => lv_idiv C.1 C.2.1 hd hy (kk ls hl))
theorem ev_irem {x y : Int32} (hd : decode M.2.1 pc = .ok (.irem, 1)) (hy : ¬ y = 0) (k : Ev X M d (pc + 1) L (iV (x - x / y * y) :: S) G Q) : Ev X M d pc L (iV y :: iV x :: S) G Q := k.ps (fun _ _ _ _ _ _ _ _ _ C _ _ _ _ ls _ hS hl kk => lv_irem C.1 C.2.1 hd hy (kk ls hl))
theorem ev_ineg {x : Int32} (hd : decode M.2.1 pc = .ok (.ineg, 1)) (k : Ev X M d (pc + 1) L (iV (-x) :: S) G Q) : Ev X M d pc L (iV x :: S) G Q := k.ps (fun _ _ _ _ _ _ _ _ _ C _ _ _ _ ls _ hS hl kk => lv_ineg C.1 C.2.1 hd (kk ls hl))
theorem ev_ishr {x y : Int32} (hd : decode M.2.1 pc = .ok (.ishr, 1)) (k : Ev X M d (pc + 1) L (iV (x >>> (y &&& 31)) :: S) G Q) : Ev X M d pc L (iV y :: iV x :: S) G Q := k.ps (fun _ _ _ _ _ _ _ _ _ C _ _ _ _ ls _ hS hl kk => lv_ishr C.1 C.2.1 hd (kk ls hl))
theorem ev_ladd {x y : Int64} (hd : decode M.2.1 pc = .ok (.ladd, 1)) (k : Ev X M d (pc + 1) L (lV (x + y) :: S) G Q) : Ev X M d pc L (lV y :: lV x :: S) G Q := k.ps (fun _ _ _ _ _ _ _ _ _ C _ _ _ _ ls _ hS hl kk => lv_ladd C.1 C.2.1 hd (kk ls hl))
theorem ev_lsub {x y : Int64} (hd : decode M.2.1 pc = .ok (.lsub, 1)) (k : Ev X M d (pc + 1) L (lV (x - y) :: S) G Q) : Ev X M d pc L (lV y :: lV x :: S) G Q := k.ps (fun _ _ _ _ _ _ _ _ _ C _ _ _ _ ls _ hS hl kk => lv_lsub C.1 C.2.1 hd (kk ls hl))
theorem ev_lshl {x : Int64} {y : Int32} (hd : decode M.2.1 pc = .ok (.lshl, 1)) (k : Ev X M d (pc + 1) L (lV (x <<< (y.toInt64 &&& 63)) :: S) G Q) : Ev X M d pc L (iV y :: lV x :: S) G Q := k.ps (fun _ _ _ _ _ _ _ _ _ C _ _ _ _ ls _ hS hl kk => lv_lshl C.1 C.2.1 hd rfl (kk ls hl))
theorem ev_i2l {x : Int32} (hd : decode M.2.1 pc = .ok (.i2l, 1)) (k : Ev X M d (pc + 1) L (lV x.toInt64 :: S) G Q) : Ev X M d pc L (iV x :: S) G Q := k.ps (fun _ _ _ _ _ _ _ _ _ C _ _ _ _ ls _ hS hl kk => lv_i2l C.1 C.2.1 hd rfl (kk ls hl))
theorem cx_cat1 (X : CX) : ∀ v : LV, (∀ y, v ≠ lV y) → (cx_v X v).category = 1
  | .inl _, _ => rfl
  | .inr (.inl y), h => absurd rfl (h y)
  | .inr (.inr none), _ => rfl
  | .inr (.inr (some _)), _ => rfl
def LV1 : LV → Bool
  | .inr (.inl _) => false
  | _ => true
theorem cx_c1 {X : CX} {v : LV} (h : LV1 v = true) : (cx_v X v).category = 1 := cx_cat1 X v (fun y e => by rw [e] at h; cases h)
theorem ev_dup {v : LV} (hd : decode M.2.1 pc = .ok (.dup, 1)) (hv : LV1 v = true) (k : Ev X M d (pc + 1) L (v :: v :: S) G Q) : Ev X M d pc L (v :: S) G Q := k.ps (fun _ _ _ _ _ _ _ _ _ C _ _ _ _ ls _ hS hl kk => lv_dup C.1 C.2.1 hd (cx_c1 hv) (kk ls hl))
theorem ev_pop {v : LV} (hd : decode M.2.1 pc = .ok (.pop, 1)) (hv : LV1 v = true) (k : Ev X M d (pc + 1) L (S) G Q) : Ev X M d pc L (v :: S) G Q := k.ps (fun _ _ _ _ _ _ _ _ _ C _ _ _ _ ls _ hS hl kk => lv_pop C.1 C.2.1 hd (cx_c1 hv) (kk ls hl))
theorem ev_dup_x1 {v v2 : LV} (hd : decode M.2.1 pc = .ok (.dup_x1, 1)) (hv : LV1 v = true) (hv2 : LV1 v2 = true) (k : Ev X M d (pc + 1) L (v :: v2 :: v :: S) G Q) : Ev X M d pc L (v :: v2 :: S) G Q := k.ps (fun _ _ _ _ _ _ _ _ _ C _ _ _ _ ls _ hS hl kk => lv_dup_x1 C.1 C.2.1 hd (cx_c1 hv) (cx_c1 hv2) (kk ls hl))
theorem ev_dup2_11 {v v2 : LV} (hd : decode M.2.1 pc = .ok (.dup2, 1)) (hv : LV1 v = true) (hv2 : LV1 v2 = true) (k : Ev X M d (pc + 1) L (v :: v2 :: v :: v2 :: S) G Q) : Ev X M d pc L (v :: v2 :: S) G Q := k.ps (fun _ _ _ _ _ _ _ _ _ C _ _ _ _ ls _ hS hl kk => lv_dup2_11 C.1 C.2.1 hd (cx_c1 hv) (cx_c1 hv2) (kk ls hl))
theorem ev_if_eq {x : Int32} {o : Int} (t : Nat) (hd : decode M.2.1 pc = .ok (.ifCond .eq o, 3)) (ht : (pc : Int) + o = (t : Int)) (kt : x = 0 → Ev X M d t L S G Q) (kf : ¬ (x = 0) → Ev X M d (pc + 3) L S G Q) : Ev X M d pc L (iV x :: S) G Q := by
  by_cases h : x = 0
  · exact (kt h).ps (fun _ _ _ _ _ _ _ _ _ C _ _ _ _ ls _ hS hl kk => lv_if_eq C.1 C.2.1 hd ht (fun _ => kk ls hl) (fun z => absurd h z))
  · exact (kf h).ps (fun _ _ _ _ _ _ _ _ _ C _ _ _ _ ls _ hS hl kk => lv_if_eq C.1 C.2.1 hd ht (fun z => absurd z h) (fun _ => kk ls hl))
theorem ev_if_lt {x : Int32} {o : Int} (t : Nat) (hd : decode M.2.1 pc = .ok (.ifCond .lt o, 3)) (ht : (pc : Int) + o = (t : Int)) (kt : x < 0 → Ev X M d t L S G Q) (kf : ¬ (x < 0) → Ev X M d (pc + 3) L S G Q) : Ev X M d pc L (iV x :: S) G Q := by
  by_cases h : x < 0
  · exact (kt h).ps (fun _ _ _ _ _ _ _ _ _ C _ _ _ _ ls _ hS hl kk => lv_if_lt C.1 C.2.1 hd ht (fun _ => kk ls hl) (fun z => absurd h z))
  · exact (kf h).ps (fun _ _ _ _ _ _ _ _ _ C _ _ _ _ ls _ hS hl kk => lv_if_lt C.1 C.2.1 hd ht (fun z => absurd z h) (fun _ => kk ls hl))
theorem ev_if_ge {x : Int32} {o : Int} (t : Nat) (hd : decode M.2.1 pc = .ok (.ifCond .ge o, 3)) (ht : (pc : Int) + o = (t : Int)) (kt : 0 ≤ x → Ev X M d t L S G Q) (kf : ¬ (0 ≤ x) → Ev X M d (pc + 3) L S G Q) : Ev X M d pc L (iV x :: S) G Q := by
  by_cases h : 0 ≤ x
  · exact (kt h).ps (fun _ _ _ _ _ _ _ _ _ C _ _ _ _ ls _ hS hl kk => lv_if_ge C.1 C.2.1 hd ht (fun _ => kk ls hl) (fun z => absurd h z))
  · exact (kf h).ps (fun _ _ _ _ _ _ _ _ _ C _ _ _ _ ls _ hS hl kk => lv_if_ge C.1 C.2.1 hd ht (fun z => absurd z h) (fun _ => kk ls hl))
theorem ev_if_gt {x : Int32} {o : Int} (t : Nat) (hd : decode M.2.1 pc = .ok (.ifCond .gt o, 3)) (ht : (pc : Int) + o = (t : Int)) (kt : 0 < x → Ev X M d t L S G Q) (kf : ¬ (0 < x) → Ev X M d (pc + 3) L S G Q) : Ev X M d pc L (iV x :: S) G Q := by
  by_cases h : 0 < x
  · exact (kt h).ps (fun _ _ _ _ _ _ _ _ _ C _ _ _ _ ls _ hS hl kk => lv_if_gt C.1 C.2.1 hd ht (fun _ => kk ls hl) (fun z => absurd h z))
  · exact (kf h).ps (fun _ _ _ _ _ _ _ _ _ C _ _ _ _ ls _ hS hl kk => lv_if_gt C.1 C.2.1 hd ht (fun z => absurd z h) (fun _ => kk ls hl))
theorem ev_if_le {x : Int32} {o : Int} (t : Nat) (hd : decode M.2.1 pc = .ok (.ifCond .le o, 3)) (ht : (pc : Int) + o = (t : Int)) (kt : x ≤ 0 → Ev X M d t L S G Q) (kf : ¬ (x ≤ 0) → Ev X M d (pc + 3) L S G Q) : Ev X M d pc L (iV x :: S) G Q := by
  by_cases h : x ≤ 0
  · exact (kt h).ps (fun _ _ _ _ _ _ _ _ _ C _ _ _ _ ls _ hS hl kk => lv_if_le C.1 C.2.1 hd ht (fun _ => kk ls hl) (fun z => absurd h z))
  · exact (kf h).ps (fun _ _ _ _ _ _ _ _ _ C _ _ _ _ ls _ hS hl kk => lv_if_le C.1 C.2.1 hd ht (fun z => absurd z h) (fun _ => kk ls hl))
theorem ev_icmp_eq {x y : Int32} {o : Int} (t : Nat) (hd : decode M.2.1 pc = .ok (.if_icmp .eq o, 3)) (ht : (pc : Int) + o = (t : Int)) (kt : x = y → Ev X M d t L S G Q) (kf : ¬ (x = y) → Ev X M d (pc + 3) L S G Q) : Ev X M d pc L (iV y :: iV x :: S) G Q := by
  by_cases h : x = y
  · exact (kt h).ps (fun _ _ _ _ _ _ _ _ _ C _ _ _ _ ls _ hS hl kk => lv_icmp_eq C.1 C.2.1 hd ht (fun _ => kk ls hl) (fun z => absurd h z))
  · exact (kf h).ps (fun _ _ _ _ _ _ _ _ _ C _ _ _ _ ls _ hS hl kk => lv_icmp_eq C.1 C.2.1 hd ht (fun z => absurd z h) (fun _ => kk ls hl))
theorem ev_icmp_lt {x y : Int32} {o : Int} (t : Nat) (hd : decode M.2.1 pc = .ok (.if_icmp .lt o, 3)) (ht : (pc : Int) + o = (t : Int)) (kt : x < y → Ev X M d t L S G Q) (kf : ¬ (x < y) → Ev X M d (pc + 3) L S G Q) : Ev X M d pc L (iV y :: iV x :: S) G Q := by
  by_cases h : x < y
  · exact (kt h).ps (fun _ _ _ _ _ _ _ _ _ C _ _ _ _ ls _ hS hl kk => lv_icmp_lt C.1 C.2.1 hd ht (fun _ => kk ls hl) (fun z => absurd h z))
  · exact (kf h).ps (fun _ _ _ _ _ _ _ _ _ C _ _ _ _ ls _ hS hl kk => lv_icmp_lt C.1 C.2.1 hd ht (fun z => absurd z h) (fun _ => kk ls hl))
theorem ev_icmp_ge {x y : Int32} {o : Int} (t : Nat) (hd : decode M.2.1 pc = .ok (.if_icmp .ge o, 3)) (ht : (pc : Int) + o = (t : Int)) (kt : y ≤ x → Ev X M d t L S G Q) (kf : ¬ (y ≤ x) → Ev X M d (pc + 3) L S G Q) : Ev X M d pc L (iV y :: iV x :: S) G Q := by
  by_cases h : y ≤ x
  · exact (kt h).ps (fun _ _ _ _ _ _ _ _ _ C _ _ _ _ ls _ hS hl kk => lv_icmp_ge C.1 C.2.1 hd ht (fun _ => kk ls hl) (fun z => absurd h z))
  · exact (kf h).ps (fun _ _ _ _ _ _ _ _ _ C _ _ _ _ ls _ hS hl kk => lv_icmp_ge C.1 C.2.1 hd ht (fun z => absurd z h) (fun _ => kk ls hl))
theorem ev_icmp_gt {x y : Int32} {o : Int} (t : Nat) (hd : decode M.2.1 pc = .ok (.if_icmp .gt o, 3)) (ht : (pc : Int) + o = (t : Int)) (kt : y < x → Ev X M d t L S G Q) (kf : ¬ (y < x) → Ev X M d (pc + 3) L S G Q) : Ev X M d pc L (iV y :: iV x :: S) G Q := by
  by_cases h : y < x
  · exact (kt h).ps (fun _ _ _ _ _ _ _ _ _ C _ _ _ _ ls _ hS hl kk => lv_icmp_gt C.1 C.2.1 hd ht (fun _ => kk ls hl) (fun z => absurd h z))
  · exact (kf h).ps (fun _ _ _ _ _ _ _ _ _ C _ _ _ _ ls _ hS hl kk => lv_icmp_gt C.1 C.2.1 hd ht (fun z => absurd z h) (fun _ => kk ls hl))
theorem ev_icmp_le {x y : Int32} {o : Int} (t : Nat) (hd : decode M.2.1 pc = .ok (.if_icmp .le o, 3)) (ht : (pc : Int) + o = (t : Int)) (kt : x ≤ y → Ev X M d t L S G Q) (kf : ¬ (x ≤ y) → Ev X M d (pc + 3) L S G Q) : Ev X M d pc L (iV y :: iV x :: S) G Q := by
  by_cases h : x ≤ y
  · exact (kt h).ps (fun _ _ _ _ _ _ _ _ _ C _ _ _ _ ls _ hS hl kk => lv_icmp_le C.1 C.2.1 hd ht (fun _ => kk ls hl) (fun z => absurd h z))
  · exact (kf h).ps (fun _ _ _ _ _ _ _ _ _ C _ _ _ _ ls _ hS hl kk => lv_icmp_le C.1 C.2.1 hd ht (fun z => absurd z h) (fun _ => kk ls hl))
theorem ev_if_ne {x : Int32} {o : Int} (t : Nat) (hd : decode M.2.1 pc = .ok (.ifCond .ne o, 3)) (ht : (pc : Int) + o = (t : Int)) (kt : ¬ x = 0 → Ev X M d t L S G Q) (kf : x = 0 → Ev X M d (pc + 3) L S G Q) : Ev X M d pc L (iV x :: S) G Q := by
  by_cases h : x = 0
  · exact (kf h).ps (fun _ _ _ _ _ _ _ _ _ C _ _ _ _ ls _ hS hl kk => lv_if_ne C.1 C.2.1 hd ht (fun z => absurd h z) (fun _ => kk ls hl))
  · exact (kt h).ps (fun _ _ _ _ _ _ _ _ _ C _ _ _ _ ls _ hS hl kk => lv_if_ne C.1 C.2.1 hd ht (fun _ => kk ls hl) (fun z => absurd z h))
theorem ev_icmp_ne {x y : Int32} {o : Int} (t : Nat) (hd : decode M.2.1 pc = .ok (.if_icmp .ne o, 3)) (ht : (pc : Int) + o = (t : Int)) (kt : ¬ x = y → Ev X M d t L S G Q) (kf : x = y → Ev X M d (pc + 3) L S G Q) : Ev X M d pc L (iV y :: iV x :: S) G Q := by
  by_cases h : x = y
  · exact (kf h).ps (fun _ _ _ _ _ _ _ _ _ C _ _ _ _ ls _ hS hl kk => lv_icmp_ne C.1 C.2.1 hd ht (fun z => absurd h z) (fun _ => kk ls hl))
  · exact (kt h).ps (fun _ _ _ _ _ _ _ _ _ C _ _ _ _ ls _ hS hl kk => lv_icmp_ne C.1 C.2.1 hd ht (fun _ => kk ls hl) (fun z => absurd z h))
theorem ev_goto {o : Int} (t : Nat) (hd : decode M.2.1 pc = .ok (.goto o, 3)) (ht : (pc : Int) + o = (t : Int)) (k : Ev X M d t L S G Q) : Ev X M d pc L S G Q := k.ps (fun _ _ _ _ _ _ _ _ _ C _ _ _ _ ls _ hS hl kk => lv_goto C.1 C.2.1 hd ht (kk ls hl))
theorem ev_ifnull {r : Option Nat} {o : Int} (t : Nat) (hd : decode M.2.1 pc = .ok (.ifnull o, 3)) (ht : (pc : Int) + o = (t : Int)) (kt : r = none → Ev X M d t L S G Q) (kf : ∀ x, r = some x → Ev X M d (pc + 3) L S G Q) : Ev X M d pc L (rV r :: S) G Q := by
  cases r with
  | none => exact (kt rfl).ps (fun _ _ _ _ _ _ _ _ _ C _ _ _ _ ls _ hS hl kk => lv_ifnullN C.1 C.2.1 hd ht (kk ls hl))
  | some x => exact (kf x rfl).ps (fun _ _ _ _ _ _ _ _ _ C _ _ _ _ ls _ hS hl kk => lv_ifnull C.1 C.2.1 hd (kk ls hl))
theorem ev_ifnonnull {r : Option Nat} {o : Int} (t : Nat) (hd : decode M.2.1 pc = .ok (.ifnonnull o, 3)) (ht : (pc : Int) + o = (t : Int)) (kt : ∀ x, r = some x → Ev X M d t L S G Q) (kf : r = none → Ev X M d (pc + 3) L S G Q) : Ev X M d pc L (rV r :: S) G Q := by
  cases r with
  | none => exact (kf rfl).ps (fun _ _ _ _ _ _ _ _ _ C _ _ _ _ ls _ hS hl kk => lv_ifnonnullN C.1 C.2.1 hd (kk ls hl))
  | some x => exact (kt x rfl).ps (fun _ _ _ _ _ _ _ _ _ C _ _ _ _ ls _ hS hl kk => lv_ifnonnull C.1 C.2.1 hd ht (kk ls hl))
theorem ev_lcmp {x y : Int64} (hd : decode M.2.1 pc = .ok (.lcmp, 1)) (k : Ev X M d (pc + 1) L (iV (lg_cmp x y) :: S) G Q) : Ev X M d pc L (lV y :: lV x :: S) G Q := k.ps (fun _ _ _ _ _ _ _ _ _ C _ _ _ _ ls _ hS hl kk => W.lcmp C.1 C.2.1 hd (kk ls hl))
theorem ev_tswOut {x : Int32} {f lo hi : Int} {os : Array Int} {n : Nat} (t : Nat) (hd : decode M.2.1 pc = .ok (.tableswitch f lo hi os, n)) (h : x.toInt < lo ∨ hi < x.toInt) (ht : (pc : Int) + f = (t : Int)) (k : Ev X M d t L S G Q) : Ev X M d pc L (iV x :: S) G Q := k.ps (fun _ _ _ _ _ _ _ _ _ C _ _ _ _ ls _ hS hl kk => lv_tableOut C.1 C.2.1 hd h ht (kk ls hl))
theorem ev_tswIn {x : Int32} {f lo hi : Int} {os : Array Int} {n : Nat} {o : Int} (t : Nat) (hd : decode M.2.1 pc = .ok (.tableswitch f lo hi os, n)) (h1 : ¬ x.toInt < lo) (h2 : ¬ hi < x.toInt) (ho : os[(x.toInt - lo).toNat]? = some o) (ht : (pc : Int) + o = (t : Int)) (k : Ev X M d t L S G Q) : Ev X M d pc L (iV x :: S) G Q := k.ps (fun _ _ _ _ _ _ _ _ _ C _ _ _ _ ls _ hS hl kk => lv_tableIn C.1 C.2.1 hd h1 h2 ho ht (kk ls hl))
/-- an id that acmp may look at: null, the empty array, a made cell -/
def acId : Option Nat → Prop
  | none => True
  | some i => i = 0 ∨ 3 ≤ i
theorem acId.inj {X : CX} {a b : Option Nat} (h0 : cx_ad X 0 < cx_b X) (ha : acId a) (hb : acId b) (h : a.map (cx_ad X) = b.map (cx_ad X)) : a = b := by
  cases a with
  | none => cases b with
    | none => rfl
    | some j => cases h
  | some i => cases b with
    | none => cases h
    | some j =>
      have h := Option.some.inj h
      have e : ∀ k : Nat, 3 ≤ k → cx_ad X k = cx_b X + (k - 3) := fun k hk => by unfold cx_ad; rw [if_neg (by omega), if_neg (by omega), if_neg (by omega)]
      rcases ha with rfl | ha <;> rcases hb with rfl | hb
      · rfl
      · rw [e j hb] at h; omega
      · rw [e i ha] at h; omega
      · rw [e i ha, e j hb] at h
        exact congrArg some (by omega)
theorem ev_acmp_eq {a b : Option Nat} {o : Int} (t : Nat) (hd : decode M.2.1 pc = .ok (.if_acmp .eq o, 3)) (ht : (pc : Int) + o = (t : Int)) (ha : acId a) (hb : acId b) (kt : a = b → Ev X M d t L S G Q) (kf : ¬ a = b → Ev X M d (pc + 3) L S G Q) : Ev X M d pc L (rV b :: rV a :: S) G Q := by
  by_cases h : a = b
  · exact (kt h).ps (fun _ _ _ _ _ _ _ _ _ C _ _ _ _ ls _ hS hl kk => lv_acmp_eq C.1 C.2.1 hd ht (fun _ => kk ls hl) (fun z => absurd (by rw [h]) z))
  · exact (kf h).ps (fun _ _ _ _ _ _ _ _ _ C _ _ _ _ ls _ hS hl kk => lv_acmp_eq C.1 C.2.1 hd ht (fun z => absurd (acId.inj (Nat.not_le.mp (va_T.out C.2.2.2.2.2.2.2.2.1.2.2.2.2.1.2.1)) ha hb z) h) (fun _ => kk ls hl))
theorem ev_acmp_ne {a b : Option Nat} {o : Int} (t : Nat) (hd : decode M.2.1 pc = .ok (.if_acmp .ne o, 3)) (ht : (pc : Int) + o = (t : Int)) (ha : acId a) (hb : acId b) (kt : ¬ a = b → Ev X M d t L S G Q) (kf : a = b → Ev X M d (pc + 3) L S G Q) : Ev X M d pc L (rV b :: rV a :: S) G Q := by
  by_cases h : a = b
  · exact (kf h).ps (fun _ _ _ _ _ _ _ _ _ C _ _ _ _ ls _ hS hl kk => lv_acmp_ne C.1 C.2.1 hd ht (fun z => absurd (by rw [h]) z) (fun _ => kk ls hl))
  · exact (kt h).ps (fun _ _ _ _ _ _ _ _ _ C _ _ _ _ ls _ hS hl kk => lv_acmp_ne C.1 C.2.1 hd ht (fun _ => kk ls hl) (fun z => absurd (acId.inj (Nat.not_le.mp (va_T.out C.2.2.2.2.2.2.2.2.1.2.2.2.2.1.2.1)) ha hb z) h))
theorem ev_acmp_neS {a : Option Nat} {o : Int} (hd : decode M.2.1 pc = .ok (.if_acmp .ne o, 3)) (t : Nat) (ht : (pc : Int) + o = (t : Int)) (k : Ev X M d (pc + 3) L S G Q) : Ev X M d pc L (rV a :: rV a :: S) G Q := k.ps (fun _ _ _ _ _ _ _ _ _ C _ _ _ _ ls _ hS hl kk => lv_acmp_ne C.1 C.2.1 hd ht (fun z => absurd rfl z) (fun _ => kk ls hl))
def stL (L : List (Option LV)) (i : Nat) (v : LV) : List (Option LV) := match i with
  | 0 => L.set 0 (some v)
  | j + 1 => match L[j]? with
    | some (some (.inr (.inl _))) => (L.set j none).set (j + 1) (some v)
    | _ => L.set (j + 1) (some v)
/-- the listed values of the locals, as the kit has them -/
def lvl (X : CX) (L : List (Option LV)) : List (Nat × Value) := (List.range L.length).filterMap (fun i => match L[i]? with
  | some (some v) => some (i, cx_v X v)
  | _ => none)
theorem lvl_mem {X : CX} {L : List (Option LV)} {q : Nat × Value} : q ∈ lvl X L ↔ ∃ v, L[q.1]? = some (some v) ∧ q.2 = cx_v X v := by
  unfold lvl
  rw [List.mem_filterMap]
  constructor
  · rintro ⟨i, hi, h⟩
    split at h
    · next v hv => cases h; exact ⟨v, hv, rfl⟩
    · cases h
  · rintro ⟨v, hv, h⟩
    refine ⟨q.1, List.mem_range.mpr (List.getElem?_eq_some_iff.mp hv).1, ?_⟩
    rw [hv]
    exact congrArg some (Prod.ext rfl h.symm)
theorem lvOK.has {X : CX} {ls : Array Slot} {nL : Nat} {L : List (Option LV)} (h : lvOK X ls nL L) : lv_has ls nL (lvl X L) := ⟨h.1, h.2.1, fun q hq => by
  obtain ⟨v, h1, h2⟩ := lvl_mem.mp hq
  rw [h2]
  exact h.2.2 _ _ h1⟩
theorem cx_cat2 {X : CX} {v : LV} (h : (cx_v X v).category = 2) : ∃ y, v = lV y := by
  match v, h with
  | .inl _, h => cases h
  | .inr (.inl y), _ => exact ⟨y, rfl⟩
  | .inr (.inr none), h => cases h
  | .inr (.inr (some _)), h => cases h
theorem stL_ok {X : CX} {ls' : Array Slot} {nL i : Nat} {L : List (Option LV)} {v : LV} (h : lv_has ls' nL ((i, cx_v X v) :: (lvl X L).filter (fun q => !(q.1 == i) && !(q.1 + 1 == i && q.2.category == 2)))) : lvOK X ls' nL (stL L i v) := by
  refine ⟨h.1, h.2.1, fun j w hj => ?_⟩
  have key : ∀ (P : L[j]? = some (some w)) (hji : j ≠ i) (hn : ¬ (j + 1 = i ∧ ∃ y, w = lV y)), ls'[j]? = some (.val (cx_v X w)) := by
    intro P hji hn
    refine h.2.2 (j, cx_v X w) (List.mem_cons_of_mem _ (List.mem_filter.mpr ⟨lvl_mem.mpr ⟨w, P, rfl⟩, ?_⟩))
    simp only [Bool.and_eq_true, Bool.not_eq_true', beq_eq_false_iff_ne, ne_eq, Bool.and_eq_false_iff]
    refine ⟨hji, ?_⟩
    by_cases a : j + 1 = i
    · exact Or.inr (fun c => hn ⟨a, cx_cat2 c⟩)
    · exact Or.inl a
  have self : ∀ w', some w' = some v → ls'[i]? = some (.val (cx_v X w')) := fun w' e => by
    cases e
    exact h.2.2 (i, cx_v X v) List.mem_cons_self
  cases i with
  | zero =>
    simp only [stL] at hj
    by_cases a : j = 0
    · subst a
      rw [List.getElem?_set] at hj
      simp at hj
      exact self w (by rw [hj.2])
    · rw [List.getElem?_set_ne (fun e => a e.symm)] at hj
      exact key hj a (by omega)
  | succ n =>
    simp only [stL] at hj
    split at hj
    · next y hy =>
      by_cases a : j = n + 1
      · subst a
        rw [List.getElem?_set] at hj
        simp at hj
        exact self w (by rw [hj.2])
      · rw [List.getElem?_set_ne (fun e => a e.symm)] at hj
        by_cases b : j = n
        · subst b
          rw [List.getElem?_set] at hj
          simp at hj
        · rw [List.getElem?_set_ne (fun e => b e.symm)] at hj
          exact key hj a (by omega)
    · next hy =>
      by_cases a : j = n + 1
      · subst a
        rw [List.getElem?_set] at hj
        simp at hj
        exact self w (by rw [hj.2])
      · rw [List.getElem?_set_ne (fun e => a e.symm)] at hj
        refine key hj a ?_
        rintro ⟨e, y, rfl⟩
        have : j = n := by omega
        subst this
        exact hy _ hj
theorem ev_istore_n {j : Fin 4} {x : Int32} (L' : List (Option LV)) (hd : decode M.2.1 pc = .ok (.istore_n j, 1)) (hn : (j : Nat) < M.2.2.1) (hL : stL L (j : Nat) (iV x) = L') (k : Ev X M d (pc + 1) L' S G Q) : Ev X M d pc L (iV x :: S) G Q := by
  subst hL
  exact k.ps (fun _ _ _ _ _ _ _ _ _ C _ _ _ _ ls _ hS hl kk => lv_istore_n C.1 C.2.1 hd rfl hl.has hn rfl (fun ls' h => kk ls' (stL_ok h)))
theorem ev_istore {j : Nat} {x : Int32} (L' : List (Option LV)) (hd : decode M.2.1 pc = .ok (.istore j, 2)) (hn : (j : Nat) < M.2.2.1) (hL : stL L (j : Nat) (iV x) = L') (k : Ev X M d (pc + 2) L' S G Q) : Ev X M d pc L (iV x :: S) G Q := by
  subst hL
  exact k.ps (fun _ _ _ _ _ _ _ _ _ C _ _ _ _ ls _ hS hl kk => lv_istore C.1 C.2.1 hd hl.has hn rfl (fun ls' h => kk ls' (stL_ok h)))
theorem ev_astore_n {j : Fin 4} {r : Option Nat} (L' : List (Option LV)) (hd : decode M.2.1 pc = .ok (.astore_n j, 1)) (hn : (j : Nat) < M.2.2.1) (hL : stL L (j : Nat) (rV r) = L') (k : Ev X M d (pc + 1) L' S G Q) : Ev X M d pc L (rV r :: S) G Q := by
  subst hL
  cases r with
  | none => exact k.ps (fun _ _ _ _ _ _ _ _ _ C _ _ _ _ ls _ hS hl kk => lv_astore_nN C.1 C.2.1 hd rfl hl.has hn rfl (fun ls' h => kk ls' (stL_ok (v := rV none) h)))
  | some x => exact k.ps (fun _ _ _ _ _ _ _ _ _ C _ _ _ _ ls _ hS hl kk => lv_astore_n C.1 C.2.1 hd rfl hl.has hn rfl (fun ls' h => kk ls' (stL_ok (v := rV (some x)) h)))
theorem ev_astore {j : Nat} {r : Option Nat} (L' : List (Option LV)) (hd : decode M.2.1 pc = .ok (.astore j, 2)) (hn : (j : Nat) < M.2.2.1) (hL : stL L (j : Nat) (rV r) = L') (k : Ev X M d (pc + 2) L' S G Q) : Ev X M d pc L (rV r :: S) G Q := by
  subst hL
  cases r with
  | none => exact k.ps (fun _ _ _ _ _ _ _ _ _ C _ _ _ _ ls _ hS hl kk => lv_astoreN C.1 C.2.1 hd hl.has hn rfl (fun ls' h => kk ls' (stL_ok (v := rV none) h)))
  | some x => exact k.ps (fun _ _ _ _ _ _ _ _ _ C _ _ _ _ ls _ hS hl kk => lv_astore C.1 C.2.1 hd hl.has hn rfl (fun ls' h => kk ls' (stL_ok (v := rV (some x)) h)))
end PURE
end
section
section PURE2
variable {X : CX} {M : MD} {d pc : Nat} {L : List (Option LV)} {S : List LV} {G : GH} {Q : Option LV → GH → Prop}
def stL2 (L : List (Option LV)) (i : Nat) (v : LV) : List (Option LV) := (stL L i v).set (i + 1) none
theorem stL2_ok {X : CX} {ls' : Array Slot} {nL i : Nat} {L : List (Option LV)} {v : LV} (h : lv_has ls' nL ((i, cx_v X v) :: (lvl X L).filter (fun q => !(q.1 == i) && (!(q.1 == i + 1) && !(q.1 + 1 == i && q.2.category == 2))))) : lvOK X ls' nL (stL2 L i v) := by
  refine ⟨h.1, h.2.1, fun j w hj => ?_⟩
  have hne : j ≠ i + 1 := fun e => by
    subst e
    unfold stL2 at hj
    rw [List.getElem?_set] at hj
    simp at hj
  unfold stL2 at hj
  rw [List.getElem?_set_ne (fun e => hne e.symm)] at hj
  have key : ∀ (P : L[j]? = some (some w)) (hji : j ≠ i) (hn : ¬ (j + 1 = i ∧ ∃ y, w = lV y)), ls'[j]? = some (.val (cx_v X w)) := by
    intro P hji hn
    refine h.2.2 (j, cx_v X w) (List.mem_cons_of_mem _ (List.mem_filter.mpr ⟨lvl_mem.mpr ⟨w, P, rfl⟩, ?_⟩))
    simp only [Bool.and_eq_true, Bool.not_eq_true', beq_eq_false_iff_ne, ne_eq, Bool.and_eq_false_iff]
    refine ⟨hji, hne, ?_⟩
    by_cases a : j + 1 = i
    · exact Or.inr (fun c => hn ⟨a, cx_cat2 c⟩)
    · exact Or.inl a
  have self : ∀ w', some w' = some v → ls'[i]? = some (.val (cx_v X w')) := fun w' e => by
    cases e
    exact h.2.2 (i, cx_v X v) List.mem_cons_self
  cases i with
  | zero =>
    simp only [stL] at hj
    by_cases a : j = 0
    · subst a
      rw [List.getElem?_set] at hj
      simp at hj
      exact self w (by rw [hj.2])
    · rw [List.getElem?_set_ne (fun e => a e.symm)] at hj
      exact key hj a (by omega)
  | succ n =>
    simp only [stL] at hj
    split at hj
    · next y hy =>
      by_cases a : j = n + 1
      · subst a
        rw [List.getElem?_set] at hj
        simp at hj
        exact self w (by rw [hj.2])
      · rw [List.getElem?_set_ne (fun e => a e.symm)] at hj
        by_cases b : j = n
        · subst b
          rw [List.getElem?_set] at hj
          simp at hj
        · rw [List.getElem?_set_ne (fun e => b e.symm)] at hj
          exact key hj a (by omega)
    · next hy =>
      by_cases a : j = n + 1
      · subst a
        rw [List.getElem?_set] at hj
        simp at hj
        exact self w (by rw [hj.2])
      · rw [List.getElem?_set_ne (fun e => a e.symm)] at hj
        refine key hj a ?_
        rintro ⟨e, y, rfl⟩
        have : j = n := by omega
        subst this
        exact hy _ hj
theorem ev_lstore_n {j : Fin 4} {x : Int64} (L' : List (Option LV)) (hd : decode M.2.1 pc = .ok (.lstore_n j, 1)) (hn : (j : Nat) + 1 < M.2.2.1) (hL : stL2 L (j : Nat) (lV x) = L') (k : Ev X M d (pc + 1) L' S G Q) : Ev X M d pc L (lV x :: S) G Q := by
  subst hL
  exact k.ps (fun _ _ _ _ _ _ _ _ _ C _ _ _ _ ls _ hS hl kk => lv_lstore_n C.1 C.2.1 hd rfl hl.has hn rfl (fun ls' h => kk ls' (stL2_ok h)))
theorem ev_lstore {j : Nat} {x : Int64} (L' : List (Option LV)) (hd : decode M.2.1 pc = .ok (.lstore j, 2)) (hn : j + 1 < M.2.2.1) (hL : stL2 L j (lV x) = L') (k : Ev X M d (pc + 2) L' S G Q) : Ev X M d pc L (lV x :: S) G Q := by
  subst hL
  exact k.ps (fun _ _ _ _ _ _ _ _ _ C _ _ _ _ ls _ hS hl kk => lv_lstore C.1 C.2.1 hd hl.has hn rfl (fun ls' h => kk ls' (stL2_ok h)))
theorem ev_iinc {j : Nat} {n : Int} {x : Int32} (v : Int32) (L' : List (Option LV)) (hd : decode M.2.1 pc = .ok (.iinc j n, 3)) (hx : L[j]? = some (some (iV x))) (hv : x + Int32.ofInt n = v) (hn : j < M.2.2.1) (hL : stL L j (iV v) = L') (k : Ev X M d (pc + 3) L' S G Q) : Ev X M d pc L S G Q := by
  subst hL
  have hm : (j, Value.int x) ∈ lvl X L := lvl_mem.mpr ⟨iV x, hx, rfl⟩
  obtain ⟨q, hq⟩ := List.getElem?_of_mem hm
  exact k.ps (fun _ _ _ _ _ _ _ _ _ C _ _ _ _ ls _ hS hl kk => lv_iinc C.1 C.2.1 hd hl.has hq hv hn rfl (fun ls' h => kk ls' (stL_ok (v := iV v) h)))
end PURE2
end
section
theorem t1_in {w : Cond} (h : w ∈ tables_1_1) : w ∈ lw_tbl := List.mem_append_right _ (show w ∈ tables_1_1 ++ (tables_1_2 ++ (tables_1_3 ++ (tables_1_4 ++ tables_1_5))) from List.mem_append_left _ h)
theorem t2_in {w : Cond} (h : w ∈ tables_1_2) : w ∈ lw_tbl := List.mem_append_right _ (show w ∈ tables_1_1 ++ (tables_1_2 ++ (tables_1_3 ++ (tables_1_4 ++ tables_1_5))) from List.mem_append_right _ (List.mem_append_left _ h))
theorem t3_in {w : Cond} (h : w ∈ tables_1_3) : w ∈ lw_tbl := List.mem_append_right _ (show w ∈ tables_1_1 ++ (tables_1_2 ++ (tables_1_3 ++ (tables_1_4 ++ tables_1_5))) from List.mem_append_right _ (List.mem_append_right _ (List.mem_append_left _ h)))
theorem t4_in {w : Cond} (h : w ∈ tables_1_4) : w ∈ lw_tbl := List.mem_append_right _ (show w ∈ tables_1_1 ++ (tables_1_2 ++ (tables_1_3 ++ (tables_1_4 ++ tables_1_5))) from List.mem_append_right _ (List.mem_append_right _ (List.mem_append_right _ (List.mem_append_left _ h))))
theorem t5_in {w : Cond} (h : w ∈ tables_1_5) : w ∈ lw_tbl := List.mem_append_right _ (show w ∈ tables_1_1 ++ (tables_1_2 ++ (tables_1_3 ++ (tables_1_4 ++ tables_1_5))) from List.mem_append_right _ (List.mem_append_right _ (List.mem_append_right _ (List.mem_append_right _ (h)))))
theorem gin_0 : GoodIn lw_tbl (u_ws (gRn 0) (gTn 0) (gnf 0)) := goodIn_r _ [538, 540, 542, 544, 546, 548, 550] (by decide +kernel) (by decide +kernel)
theorem gin_1 : GoodIn lw_tbl (u_ws (gRn 1) (gTn 1) (gnf 1)) := goodIn_r _ [251, 253, 255, 257, 259] (by decide +kernel) (by decide +kernel)
theorem gin_2 : GoodIn lw_tbl (u_ws (gRn 2) (gTn 2) (gnf 2)) := goodIn_r _ [408, 410, 412, 414] (by decide +kernel) (by decide +kernel)
theorem gin_3 : GoodIn lw_tbl (u_ws (gRn 3) (gTn 3) (gnf 3)) := goodIn_r _ [370, 372, 374] (by decide +kernel) (by decide +kernel)
theorem gin_4 : GoodIn lw_tbl (u_ws (gRn 4) (gTn 4) (gnf 4)) := goodIn_r _ [734, 736, 738, 740] (by decide +kernel) (by decide +kernel)
theorem gin_5 : GoodIn lw_tbl (u_ws (gRn 5) (gTn 5) (gnf 5)) := goodIn_r _ [588, 590, 592, 594, 596, 598] (by decide +kernel) (by decide +kernel)
theorem gin_6 : GoodIn lw_tbl (u_ws (gRn 6) (gTn 6) (gnf 6)) := goodIn_r _ [158, 160, 162, 164, 166] (by decide +kernel) (by decide +kernel)
theorem gin_7 : GoodIn lw_tbl (u_ws (gRn 7) (gTn 7) (gnf 7)) := goodIn_r _ [299, 301, 303, 305, 307] (by decide +kernel) (by decide +kernel)
theorem gin_8 : GoodIn lw_tbl (u_ws (gRn 8) (gTn 8) (gnf 8)) := goodIn_r _ [182, 184, 186, 188, 190, 192, 194, 196, 198, 200, 202, 204, 206] (by decide +kernel) (by decide +kernel)
theorem gin_9 : GoodIn lw_tbl (u_ws (gRn 9) (gTn 9) (gnf 9)) := goodIn_r _ [858, 860, 862, 864, 866, 868, 870, 872, 874, 876, 878, 880, 882, 884, 886, 888, 890, 892, 894, 896, 898, 900, 902, 904, 906, 908, 910, 912, 914, 916, 918, 920, 922, 924, 926, 928, 930, 932] (by decide +kernel) (by decide +kernel)
theorem gin_10 : GoodIn lw_tbl (u_ws (gRn 10) (gTn 10) (gnf 10)) := goodIn_r _ [148, 144, 146] (by decide +kernel) (by decide +kernel)
theorem gin_of {ws : List Cond} (h : GoodIn lw_tbl ws) : ∀ w ∈ ws, w ∈ lw_tbl := fun w hw => (h w hw).1
theorem lw_g_in {w : Cond} (h : w ∈ lw_tbl) (hg : goodWord w = true) : w ∈ lw_g := List.mem_filter.mpr ⟨h, hg⟩
theorem lw_n_in {w : Cond} (h : w ∈ lw_tbl) (hg : isNest w = true) : w ∈ lw_n := List.mem_filter.mpr ⟨h, hg⟩
theorem u_ws_good {C : String} {T : u_T} {N : Nat} : ∀ w ∈ u_ws C T N, goodWord w = true := by
  intro w h
  obtain ⟨k, -, rfl⟩ := List.mem_map.mp h
  unfold u_lay
  split <;> rfl
theorem gin : ∀ c, c < 11 → ∀ w ∈ u_ws (gRn c) (gTn c) (gnf c), w ∈ lw_g
  | 0, _, w, h => lw_g_in (gin_of gin_0 w h) (u_ws_good w h)
  | 1, _, w, h => lw_g_in (gin_of gin_1 w h) (u_ws_good w h)
  | 2, _, w, h => lw_g_in (gin_of gin_2 w h) (u_ws_good w h)
  | 3, _, w, h => lw_g_in (gin_of gin_3 w h) (u_ws_good w h)
  | 4, _, w, h => lw_g_in (gin_of gin_4 w h) (u_ws_good w h)
  | 5, _, w, h => lw_g_in (gin_of gin_5 w h) (u_ws_good w h)
  | 6, _, w, h => lw_g_in (gin_of gin_6 w h) (u_ws_good w h)
  | 7, _, w, h => lw_g_in (gin_of gin_7 w h) (u_ws_good w h)
  | 8, _, w, h => lw_g_in (gin_of gin_8 w h) (u_ws_good w h)
  | 9, _, w, h => lw_g_in (gin_of gin_9 w h) (u_ws_good w h)
  | 10, _, w, h => lw_g_in (gin_of gin_10 w h) (u_ws_good w h)
  | n + 11, h, _, _ => absurd h (by omega)
theorem fJx4a65c_9 : FLr RJx4a65c 9 641 := ⟨⟨by decide, by decide, Or.inl (lw_g_in (t1_in (List.mem_of_getElem? (i := 54) (by decide +kernel))) rfl)⟩, Or.inr ⟨_, rfl⟩⟩
theorem mfJx4a65c_9 : FLm RJx4a65c 9 641 := lw_g_in (t1_in (List.mem_of_getElem? (i := 54) (by decide +kernel))) rfl
theorem fJx4a65c_48 : FLi RJx4a65c 48 642 := ⟨⟨by decide, by decide, Or.inl (lw_g_in (t1_in (List.mem_of_getElem? (i := 55) (by decide +kernel))) rfl)⟩, Or.inl rfl⟩
theorem mfJx4a65c_48 : FLm RJx4a65c 48 642 := lw_g_in (t1_in (List.mem_of_getElem? (i := 55) (by decide +kernel))) rfl
theorem fJxc12de_7 : FLi RJxc12de 7 640 := ⟨⟨by decide, by decide, Or.inl (lw_g_in (t1_in (List.mem_of_getElem? (i := 56) (by decide +kernel))) rfl)⟩, Or.inl rfl⟩
theorem mfJxc12de_7 : FLm RJxc12de 7 640 := lw_g_in (t1_in (List.mem_of_getElem? (i := 56) (by decide +kernel))) rfl
theorem fX6_11 : FLr RX6 11 384 := ⟨⟨by decide, by decide, Or.inl (lw_g_in (t1_in (List.mem_of_getElem? (i := 66) (by decide +kernel))) rfl)⟩, Or.inr ⟨_, rfl⟩⟩
theorem mfX6_11 : FLm RX6 11 384 := lw_g_in (t1_in (List.mem_of_getElem? (i := 66) (by decide +kernel))) rfl
theorem fX6_24 : FLi RX6 24 385 := ⟨⟨by decide, by decide, Or.inl (lw_g_in (t1_in (List.mem_of_getElem? (i := 67) (by decide +kernel))) rfl)⟩, Or.inl rfl⟩
theorem mfX6_24 : FLm RX6 24 385 := lw_g_in (t1_in (List.mem_of_getElem? (i := 67) (by decide +kernel))) rfl
theorem fX8_199 : FLi RX8 199 385 := ⟨⟨by decide, by decide, Or.inr ⟨"VersionedRows", lw_n_in (t1_in (List.mem_of_getElem? (i := 68) (by decide +kernel))) rfl⟩⟩, Or.inl rfl⟩
theorem fX6_43 : FLi RX6 43 386 := ⟨⟨by decide, by decide, Or.inl (lw_g_in (t1_in (List.mem_of_getElem? (i := 69) (by decide +kernel))) rfl)⟩, Or.inl rfl⟩
theorem mfX6_43 : FLm RX6 43 386 := lw_g_in (t1_in (List.mem_of_getElem? (i := 69) (by decide +kernel))) rfl
theorem fX8_156 : FLi RX8 156 386 := ⟨⟨by decide, by decide, Or.inr ⟨"VersionedRows", lw_n_in (t1_in (List.mem_of_getElem? (i := 70) (by decide +kernel))) rfl⟩⟩, Or.inl rfl⟩
theorem fX6_20 : FLr RX6 20 387 := ⟨⟨by decide, by decide, Or.inl (lw_g_in (t1_in (List.mem_of_getElem? (i := 71) (by decide +kernel))) rfl)⟩, Or.inl ⟨_, rfl⟩⟩
theorem mfX6_20 : FLm RX6 20 387 := lw_g_in (t1_in (List.mem_of_getElem? (i := 71) (by decide +kernel))) rfl
theorem fX6_83 : FLi RX6 83 388 := ⟨⟨by decide, by decide, Or.inl (lw_g_in (t1_in (List.mem_of_getElem? (i := 72) (by decide +kernel))) rfl)⟩, Or.inl rfl⟩
theorem mfX6_83 : FLm RX6 83 388 := lw_g_in (t1_in (List.mem_of_getElem? (i := 72) (by decide +kernel))) rfl
theorem fX8_11 : FLr RX8 11 512 := ⟨⟨by decide, by decide, Or.inl (lw_g_in (t1_in (List.mem_of_getElem? (i := 84) (by decide +kernel))) rfl)⟩, Or.inr ⟨_, rfl⟩⟩
theorem mfX8_11 : FLm RX8 11 512 := lw_g_in (t1_in (List.mem_of_getElem? (i := 84) (by decide +kernel))) rfl
theorem fX8_47 : FLi RX8 47 513 := ⟨⟨by decide, by decide, Or.inl (lw_g_in (t1_in (List.mem_of_getElem? (i := 85) (by decide +kernel))) rfl)⟩, Or.inl rfl⟩
theorem mfX8_47 : FLm RX8 47 513 := lw_g_in (t1_in (List.mem_of_getElem? (i := 85) (by decide +kernel))) rfl
theorem fX8_15 : FLr RX8 15 514 := ⟨⟨by decide, by decide, Or.inl (lw_g_in (t1_in (List.mem_of_getElem? (i := 86) (by decide +kernel))) rfl)⟩, Or.inr ⟨_, rfl⟩⟩
theorem mfX8_15 : FLm RX8 15 514 := lw_g_in (t1_in (List.mem_of_getElem? (i := 86) (by decide +kernel))) rfl
theorem fX8_72 : FLi RX8 72 515 := ⟨⟨by decide, by decide, Or.inl (lw_g_in (t1_in (List.mem_of_getElem? (i := 87) (by decide +kernel))) rfl)⟩, Or.inl rfl⟩
theorem mfX8_72 : FLm RX8 72 515 := lw_g_in (t1_in (List.mem_of_getElem? (i := 87) (by decide +kernel))) rfl
theorem fX8_20 : FLr RX8 20 516 := ⟨⟨by decide, by decide, Or.inl (lw_g_in (t1_in (List.mem_of_getElem? (i := 88) (by decide +kernel))) rfl)⟩, Or.inr ⟨_, rfl⟩⟩
theorem mfX8_20 : FLm RX8 20 516 := lw_g_in (t1_in (List.mem_of_getElem? (i := 88) (by decide +kernel))) rfl
theorem fX8_78 : FLi RX8 78 517 := ⟨⟨by decide, by decide, Or.inl (lw_g_in (t1_in (List.mem_of_getElem? (i := 89) (by decide +kernel))) rfl)⟩, Or.inl rfl⟩
theorem mfX8_78 : FLm RX8 78 517 := lw_g_in (t1_in (List.mem_of_getElem? (i := 89) (by decide +kernel))) rfl
theorem fX8_27 : FLr RX8 27 518 := ⟨⟨by decide, by decide, Or.inl (lw_g_in (t1_in (List.mem_of_getElem? (i := 90) (by decide +kernel))) rfl)⟩, Or.inl ⟨_, rfl⟩⟩
theorem mfX8_27 : FLm RX8 27 518 := lw_g_in (t1_in (List.mem_of_getElem? (i := 90) (by decide +kernel))) rfl
theorem fX8_75 : FLi RX8 75 519 := ⟨⟨by decide, by decide, Or.inl (lw_g_in (t1_in (List.mem_of_getElem? (i := 91) (by decide +kernel))) rfl)⟩, Or.inl rfl⟩
theorem mfX8_75 : FLm RX8 75 519 := lw_g_in (t1_in (List.mem_of_getElem? (i := 91) (by decide +kernel))) rfl
theorem fX8_31 : FLr RX8 31 520 := ⟨⟨by decide, by decide, Or.inl (lw_g_in (t1_in (List.mem_of_getElem? (i := 92) (by decide +kernel))) rfl)⟩, Or.inr ⟨_, rfl⟩⟩
theorem mfX8_31 : FLm RX8 31 520 := lw_g_in (t1_in (List.mem_of_getElem? (i := 92) (by decide +kernel))) rfl
theorem fX8_131 : FLi RX8 131 521 := ⟨⟨by decide, by decide, Or.inl (lw_g_in (t1_in (List.mem_of_getElem? (i := 93) (by decide +kernel))) rfl)⟩, Or.inl rfl⟩
theorem mfX8_131 : FLm RX8 131 521 := lw_g_in (t1_in (List.mem_of_getElem? (i := 93) (by decide +kernel))) rfl
theorem fX8_35 : FLi RX8 35 522 := ⟨⟨by decide, by decide, Or.inl (lw_g_in (t1_in (List.mem_of_getElem? (i := 94) (by decide +kernel))) rfl)⟩, Or.inl rfl⟩
theorem mfX8_35 : FLm RX8 35 522 := lw_g_in (t1_in (List.mem_of_getElem? (i := 94) (by decide +kernel))) rfl
theorem fX8_181 : FLr RX8 181 523 := ⟨⟨by decide, by decide, Or.inl (lw_g_in (t1_in (List.mem_of_getElem? (i := 95) (by decide +kernel))) rfl)⟩, Or.inl ⟨_, rfl⟩⟩
theorem mfX8_181 : FLm RX8 181 523 := lw_g_in (t1_in (List.mem_of_getElem? (i := 95) (by decide +kernel))) rfl
theorem fX8_178 : FLi RX8 178 524 := ⟨⟨by decide, by decide, Or.inl (lw_g_in (t1_in (List.mem_of_getElem? (i := 96) (by decide +kernel))) rfl)⟩, Or.inl rfl⟩
theorem mfX8_178 : FLm RX8 178 524 := lw_g_in (t1_in (List.mem_of_getElem? (i := 96) (by decide +kernel))) rfl
theorem fX1_9 : FLi RX1 9 64 := ⟨⟨by decide, by decide, Or.inl (lw_g_in (t1_in (List.mem_of_getElem? (i := 157) (by decide +kernel))) rfl)⟩, Or.inl rfl⟩
theorem mfX1_9 : FLm RX1 9 64 := lw_g_in (t1_in (List.mem_of_getElem? (i := 157) (by decide +kernel))) rfl
theorem fX2_28 : FLi RX2 28 64 := ⟨⟨by decide, by decide, Or.inr ⟨"VersionedRows", lw_n_in (t1_in (List.mem_of_getElem? (i := 158) (by decide +kernel))) rfl⟩⟩, Or.inl rfl⟩
theorem fX1_15 : FLi RX1 15 65 := ⟨⟨by decide, by decide, Or.inl (lw_g_in (t1_in (List.mem_of_getElem? (i := 159) (by decide +kernel))) rfl)⟩, Or.inl rfl⟩
theorem mfX1_15 : FLm RX1 15 65 := lw_g_in (t1_in (List.mem_of_getElem? (i := 159) (by decide +kernel))) rfl
theorem fX2_56 : FLi RX2 56 65 := ⟨⟨by decide, by decide, Or.inr ⟨"VersionedRows", lw_n_in (t1_in (List.mem_of_getElem? (i := 160) (by decide +kernel))) rfl⟩⟩, Or.inl rfl⟩
theorem fX1_18 : FLr RX1 18 66 := ⟨⟨by decide, by decide, Or.inl (lw_g_in (t1_in (List.mem_of_getElem? (i := 161) (by decide +kernel))) rfl)⟩, Or.inl ⟨_, rfl⟩⟩
theorem mfX1_18 : FLm RX1 18 66 := lw_g_in (t1_in (List.mem_of_getElem? (i := 161) (by decide +kernel))) rfl
theorem fX2_34 : FLr RX2 34 66 := ⟨⟨by decide, by decide, Or.inr ⟨"VersionedRows", lw_n_in (t1_in (List.mem_of_getElem? (i := 162) (by decide +kernel))) rfl⟩⟩, Or.inl ⟨_, rfl⟩⟩
theorem fX1_22 : FLr RX1 22 67 := ⟨⟨by decide, by decide, Or.inl (lw_g_in (t1_in (List.mem_of_getElem? (i := 163) (by decide +kernel))) rfl)⟩, Or.inl ⟨_, rfl⟩⟩
theorem mfX1_22 : FLm RX1 22 67 := lw_g_in (t1_in (List.mem_of_getElem? (i := 163) (by decide +kernel))) rfl
theorem fX2_41 : FLr RX2 41 67 := ⟨⟨by decide, by decide, Or.inr ⟨"VersionedRows", lw_n_in (t1_in (List.mem_of_getElem? (i := 164) (by decide +kernel))) rfl⟩⟩, Or.inl ⟨_, rfl⟩⟩
theorem fX1_29 : FLi RX1 29 68 := ⟨⟨by decide, by decide, Or.inl (lw_g_in (t1_in (List.mem_of_getElem? (i := 165) (by decide +kernel))) rfl)⟩, Or.inl rfl⟩
theorem mfX1_29 : FLm RX1 29 68 := lw_g_in (t1_in (List.mem_of_getElem? (i := 165) (by decide +kernel))) rfl
theorem fX7_25 : FLi RX7 25 448 := ⟨⟨by decide, by decide, Or.inl (lw_g_in (t1_in (List.mem_of_getElem? (i := 204) (by decide +kernel))) rfl)⟩, Or.inl rfl⟩
theorem mfX7_25 : FLm RX7 25 448 := lw_g_in (t1_in (List.mem_of_getElem? (i := 204) (by decide +kernel))) rfl
theorem fX8_121 : FLi RX8 121 448 := ⟨⟨by decide, by decide, Or.inr ⟨"VersionedRows", lw_n_in (t1_in (List.mem_of_getElem? (i := 205) (by decide +kernel))) rfl⟩⟩, Or.inl rfl⟩
theorem fX7_9 : FLi RX7 9 449 := ⟨⟨by decide, by decide, Or.inl (lw_g_in (t1_in (List.mem_of_getElem? (i := 206) (by decide +kernel))) rfl)⟩, Or.inl rfl⟩
theorem mfX7_9 : FLm RX7 9 449 := lw_g_in (t1_in (List.mem_of_getElem? (i := 206) (by decide +kernel))) rfl
theorem fX8_138 : FLi RX8 138 449 := ⟨⟨by decide, by decide, Or.inr ⟨"VersionedRows", lw_n_in (t1_in (List.mem_of_getElem? (i := 207) (by decide +kernel))) rfl⟩⟩, Or.inl rfl⟩
theorem fX7_28 : FLi RX7 28 450 := ⟨⟨by decide, by decide, Or.inl (lw_g_in (t1_in (List.mem_of_getElem? (i := 208) (by decide +kernel))) rfl)⟩, Or.inr rfl⟩
theorem mfX7_28 : FLm RX7 28 450 := lw_g_in (t1_in (List.mem_of_getElem? (i := 208) (by decide +kernel))) rfl
theorem fX8_141 : FLi RX8 141 450 := ⟨⟨by decide, by decide, Or.inr ⟨"VersionedRows", lw_n_in (t1_in (List.mem_of_getElem? (i := 209) (by decide +kernel))) rfl⟩⟩, Or.inr rfl⟩
theorem fX7_15 : FLr RX7 15 451 := ⟨⟨by decide, by decide, Or.inl (lw_g_in (t1_in (List.mem_of_getElem? (i := 210) (by decide +kernel))) rfl)⟩, Or.inr ⟨_, rfl⟩⟩
theorem mfX7_15 : FLm RX7 15 451 := lw_g_in (t1_in (List.mem_of_getElem? (i := 210) (by decide +kernel))) rfl
theorem fX8_225 : FLr RX8 225 451 := ⟨⟨by decide, by decide, Or.inr ⟨"VersionedRows", lw_n_in (t1_in (List.mem_of_getElem? (i := 211) (by decide +kernel))) rfl⟩⟩, Or.inr ⟨_, rfl⟩⟩
theorem fX7_21 : FLr RX7 21 452 := ⟨⟨by decide, by decide, Or.inl (lw_g_in (t1_in (List.mem_of_getElem? (i := 212) (by decide +kernel))) rfl)⟩, Or.inr ⟨_, rfl⟩⟩
theorem mfX7_21 : FLm RX7 21 452 := lw_g_in (t1_in (List.mem_of_getElem? (i := 212) (by decide +kernel))) rfl
theorem fX8_229 : FLr RX8 229 452 := ⟨⟨by decide, by decide, Or.inr ⟨"VersionedRows", lw_n_in (t1_in (List.mem_of_getElem? (i := 213) (by decide +kernel))) rfl⟩⟩, Or.inr ⟨_, rfl⟩⟩
theorem fX3_9 : FLi RX3 9 192 := ⟨⟨by decide, by decide, Or.inl (lw_g_in (t2_in (List.mem_of_getElem? (i := 36) (by decide +kernel))) rfl)⟩, Or.inl rfl⟩
theorem mfX3_9 : FLm RX3 9 192 := lw_g_in (t2_in (List.mem_of_getElem? (i := 36) (by decide +kernel))) rfl
theorem fX8_99 : FLi RX8 99 192 := ⟨⟨by decide, by decide, Or.inr ⟨"VersionedRows", lw_n_in (t2_in (List.mem_of_getElem? (i := 37) (by decide +kernel))) rfl⟩⟩, Or.inl rfl⟩
theorem fX1_36 : FLi RX1 36 192 := ⟨⟨by decide, by decide, Or.inr ⟨"VersionedRows", lw_n_in (t2_in (List.mem_of_getElem? (i := 38) (by decide +kernel))) rfl⟩⟩, Or.inl rfl⟩
theorem fX3_15 : FLi RX3 15 193 := ⟨⟨by decide, by decide, Or.inl (lw_g_in (t2_in (List.mem_of_getElem? (i := 39) (by decide +kernel))) rfl)⟩, Or.inl rfl⟩
theorem mfX3_15 : FLm RX3 15 193 := lw_g_in (t2_in (List.mem_of_getElem? (i := 39) (by decide +kernel))) rfl
theorem fX8_104 : FLi RX8 104 193 := ⟨⟨by decide, by decide, Or.inr ⟨"VersionedRows", lw_n_in (t2_in (List.mem_of_getElem? (i := 40) (by decide +kernel))) rfl⟩⟩, Or.inl rfl⟩
theorem fX1_41 : FLi RX1 41 193 := ⟨⟨by decide, by decide, Or.inr ⟨"VersionedRows", lw_n_in (t2_in (List.mem_of_getElem? (i := 41) (by decide +kernel))) rfl⟩⟩, Or.inl rfl⟩
theorem fX3_18 : FLi RX3 18 194 := ⟨⟨by decide, by decide, Or.inl (lw_g_in (t2_in (List.mem_of_getElem? (i := 42) (by decide +kernel))) rfl)⟩, Or.inl rfl⟩
theorem mfX3_18 : FLm RX3 18 194 := lw_g_in (t2_in (List.mem_of_getElem? (i := 42) (by decide +kernel))) rfl
theorem fX8_107 : FLi RX8 107 194 := ⟨⟨by decide, by decide, Or.inr ⟨"VersionedRows", lw_n_in (t2_in (List.mem_of_getElem? (i := 43) (by decide +kernel))) rfl⟩⟩, Or.inl rfl⟩
theorem fX1_44 : FLi RX1 44 194 := ⟨⟨by decide, by decide, Or.inr ⟨"VersionedRows", lw_n_in (t2_in (List.mem_of_getElem? (i := 44) (by decide +kernel))) rfl⟩⟩, Or.inl rfl⟩
theorem fX2_24 : FLr RX2 24 128 := ⟨⟨by decide, by decide, Or.inl (lw_g_in (t2_in (List.mem_of_getElem? (i := 76) (by decide +kernel))) rfl)⟩, Or.inl ⟨_, rfl⟩⟩
theorem mfX2_24 : FLm RX2 24 128 := lw_g_in (t2_in (List.mem_of_getElem? (i := 76) (by decide +kernel))) rfl
theorem fX2_13 : FLj RX2 13 129 := ⟨⟨by decide, by decide, Or.inl (lw_g_in (t2_in (List.mem_of_getElem? (i := 77) (by decide +kernel))) rfl)⟩, rfl⟩
theorem mfX2_13 : FLm RX2 13 129 := lw_g_in (t2_in (List.mem_of_getElem? (i := 77) (by decide +kernel))) rfl
theorem fX8_185 : FLj RX8 185 129 := ⟨⟨by decide, by decide, Or.inr ⟨"VersionedRows", lw_n_in (t2_in (List.mem_of_getElem? (i := 78) (by decide +kernel))) rfl⟩⟩, rfl⟩
theorem fX2_21 : FLj RX2 21 130 := ⟨⟨by decide, by decide, Or.inl (lw_g_in (t2_in (List.mem_of_getElem? (i := 79) (by decide +kernel))) rfl)⟩, rfl⟩
theorem mfX2_21 : FLm RX2 21 130 := lw_g_in (t2_in (List.mem_of_getElem? (i := 79) (by decide +kernel))) rfl
theorem fX8_191 : FLj RX8 191 130 := ⟨⟨by decide, by decide, Or.inr ⟨"VersionedRows", lw_n_in (t2_in (List.mem_of_getElem? (i := 80) (by decide +kernel))) rfl⟩⟩, rfl⟩
theorem fX2_72 : FLi RX2 72 131 := ⟨⟨by decide, by decide, Or.inl (lw_g_in (t2_in (List.mem_of_getElem? (i := 81) (by decide +kernel))) rfl)⟩, Or.inr rfl⟩
theorem mfX2_72 : FLm RX2 72 131 := lw_g_in (t2_in (List.mem_of_getElem? (i := 81) (by decide +kernel))) rfl
theorem fX8_278 : FLi RX8 278 131 := ⟨⟨by decide, by decide, Or.inr ⟨"VersionedRows", lw_n_in (t2_in (List.mem_of_getElem? (i := 82) (by decide +kernel))) rfl⟩⟩, Or.inr rfl⟩
theorem fX0_7 : FLi RX0 7 0 := ⟨⟨by decide, by decide, Or.inl (lw_g_in (t2_in (List.mem_of_getElem? (i := 194) (by decide +kernel))) rfl)⟩, Or.inl rfl⟩
theorem mfX0_7 : FLm RX0 7 0 := lw_g_in (t2_in (List.mem_of_getElem? (i := 194) (by decide +kernel))) rfl
theorem fX5_38 : FLi RX5 38 0 := ⟨⟨by decide, by decide, Or.inr ⟨"VersionedRows", lw_n_in (t2_in (List.mem_of_getElem? (i := 195) (by decide +kernel))) rfl⟩⟩, Or.inl rfl⟩
theorem fX0_13 : FLi RX0 13 1 := ⟨⟨by decide, by decide, Or.inl (lw_g_in (t2_in (List.mem_of_getElem? (i := 196) (by decide +kernel))) rfl)⟩, Or.inl rfl⟩
theorem mfX0_13 : FLm RX0 13 1 := lw_g_in (t2_in (List.mem_of_getElem? (i := 196) (by decide +kernel))) rfl
theorem fX5_41 : FLi RX5 41 1 := ⟨⟨by decide, by decide, Or.inr ⟨"VersionedRows", lw_n_in (t2_in (List.mem_of_getElem? (i := 197) (by decide +kernel))) rfl⟩⟩, Or.inl rfl⟩
theorem fX0_16 : FLi RX0 16 2 := ⟨⟨by decide, by decide, Or.inl (lw_g_in (t2_in (List.mem_of_getElem? (i := 198) (by decide +kernel))) rfl)⟩, Or.inl rfl⟩
theorem mfX0_16 : FLm RX0 16 2 := lw_g_in (t2_in (List.mem_of_getElem? (i := 198) (by decide +kernel))) rfl
theorem fX5_44 : FLi RX5 44 2 := ⟨⟨by decide, by decide, Or.inr ⟨"VersionedRows", lw_n_in (t2_in (List.mem_of_getElem? (i := 199) (by decide +kernel))) rfl⟩⟩, Or.inl rfl⟩
theorem fX0_23 : FLj RX0 23 3 := ⟨⟨by decide, by decide, Or.inl (lw_g_in (t2_in (List.mem_of_getElem? (i := 200) (by decide +kernel))) rfl)⟩, rfl⟩
theorem mfX0_23 : FLm RX0 23 3 := lw_g_in (t2_in (List.mem_of_getElem? (i := 200) (by decide +kernel))) rfl
theorem fX4_21 : FLj RX4 21 3 := ⟨⟨by decide, by decide, Or.inr ⟨"VersionedRows", lw_n_in (t2_in (List.mem_of_getElem? (i := 201) (by decide +kernel))) rfl⟩⟩, rfl⟩
theorem fX6_32 : FLj RX6 32 3 := ⟨⟨by decide, by decide, Or.inr ⟨"VersionedRows", lw_n_in (t2_in (List.mem_of_getElem? (i := 202) (by decide +kernel))) rfl⟩⟩, rfl⟩
theorem fX5_34 : FLj RX5 34 3 := ⟨⟨by decide, by decide, Or.inr ⟨"VersionedRows", lw_n_in (t2_in (List.mem_of_getElem? (i := 203) (by decide +kernel))) rfl⟩⟩, rfl⟩
theorem fX0_27 : FLi RX0 27 4 := ⟨⟨by decide, by decide, Or.inl (lw_g_in (t2_in (List.mem_of_getElem? (i := 204) (by decide +kernel))) rfl)⟩, Or.inl rfl⟩
theorem mfX0_27 : FLm RX0 27 4 := lw_g_in (t2_in (List.mem_of_getElem? (i := 204) (by decide +kernel))) rfl
theorem fX4_30 : FLi RX4 30 4 := ⟨⟨by decide, by decide, Or.inr ⟨"VersionedRows", lw_n_in (t2_in (List.mem_of_getElem? (i := 205) (by decide +kernel))) rfl⟩⟩, Or.inl rfl⟩
theorem fX6_36 : FLi RX6 36 4 := ⟨⟨by decide, by decide, Or.inr ⟨"VersionedRows", lw_n_in (t2_in (List.mem_of_getElem? (i := 206) (by decide +kernel))) rfl⟩⟩, Or.inl rfl⟩
theorem fX0_30 : FLr RX0 30 5 := ⟨⟨by decide, by decide, Or.inl (lw_g_in (t2_in (List.mem_of_getElem? (i := 207) (by decide +kernel))) rfl)⟩, Or.inl ⟨_, rfl⟩⟩
theorem mfX0_30 : FLm RX0 30 5 := lw_g_in (t2_in (List.mem_of_getElem? (i := 207) (by decide +kernel))) rfl
theorem fX4_33 : FLr RX4 33 5 := ⟨⟨by decide, by decide, Or.inr ⟨"VersionedRows", lw_n_in (t2_in (List.mem_of_getElem? (i := 208) (by decide +kernel))) rfl⟩⟩, Or.inl ⟨_, rfl⟩⟩
theorem fX6_58 : FLr RX6 58 5 := ⟨⟨by decide, by decide, Or.inr ⟨"VersionedRows", lw_n_in (t2_in (List.mem_of_getElem? (i := 209) (by decide +kernel))) rfl⟩⟩, Or.inl ⟨_, rfl⟩⟩
theorem fX5_25 : FLr RX5 25 6 := ⟨⟨by decide, by decide, Or.inr ⟨"VersionedRows", lw_n_in (t2_in (List.mem_of_getElem? (i := 210) (by decide +kernel))) rfl⟩⟩, Or.inl ⟨_, rfl⟩⟩
theorem fX0_38 : FLr RX0 38 6 := ⟨⟨by decide, by decide, Or.inl (lw_g_in (t2_in (List.mem_of_getElem? (i := 211) (by decide +kernel))) rfl)⟩, Or.inl ⟨_, rfl⟩⟩
theorem mfX0_38 : FLm RX0 38 6 := lw_g_in (t2_in (List.mem_of_getElem? (i := 211) (by decide +kernel))) rfl
theorem fX6_69 : FLr RX6 69 6 := ⟨⟨by decide, by decide, Or.inr ⟨"VersionedRows", lw_n_in (t2_in (List.mem_of_getElem? (i := 212) (by decide +kernel))) rfl⟩⟩, Or.inl ⟨_, rfl⟩⟩
theorem fX5_9 : FLi RX5 9 320 := ⟨⟨by decide, by decide, Or.inl (lw_g_in (t3_in (List.mem_of_getElem? (i := 15) (by decide +kernel))) rfl)⟩, Or.inl rfl⟩
theorem mfX5_9 : FLm RX5 9 320 := lw_g_in (t3_in (List.mem_of_getElem? (i := 15) (by decide +kernel))) rfl
theorem fX5_15 : FLi RX5 15 321 := ⟨⟨by decide, by decide, Or.inl (lw_g_in (t3_in (List.mem_of_getElem? (i := 16) (by decide +kernel))) rfl)⟩, Or.inl rfl⟩
theorem mfX5_15 : FLm RX5 15 321 := lw_g_in (t3_in (List.mem_of_getElem? (i := 16) (by decide +kernel))) rfl
theorem fX6_101 : FLi RX6 101 321 := ⟨⟨by decide, by decide, Or.inr ⟨"VersionedRows", lw_n_in (t3_in (List.mem_of_getElem? (i := 17) (by decide +kernel))) rfl⟩⟩, Or.inl rfl⟩
theorem fX5_18 : FLr RX5 18 322 := ⟨⟨by decide, by decide, Or.inl (lw_g_in (t3_in (List.mem_of_getElem? (i := 18) (by decide +kernel))) rfl)⟩, Or.inl ⟨_, rfl⟩⟩
theorem mfX5_18 : FLm RX5 18 322 := lw_g_in (t3_in (List.mem_of_getElem? (i := 18) (by decide +kernel))) rfl
theorem fX5_22 : FLr RX5 22 323 := ⟨⟨by decide, by decide, Or.inl (lw_g_in (t3_in (List.mem_of_getElem? (i := 19) (by decide +kernel))) rfl)⟩, Or.inl ⟨_, rfl⟩⟩
theorem mfX5_22 : FLm RX5 22 323 := lw_g_in (t3_in (List.mem_of_getElem? (i := 19) (by decide +kernel))) rfl
theorem fX5_31 : FLi RX5 31 324 := ⟨⟨by decide, by decide, Or.inl (lw_g_in (t3_in (List.mem_of_getElem? (i := 20) (by decide +kernel))) rfl)⟩, Or.inl rfl⟩
theorem mfX5_31 : FLm RX5 31 324 := lw_g_in (t3_in (List.mem_of_getElem? (i := 20) (by decide +kernel))) rfl
theorem fX0_42 : FLi RX0 42 325 := ⟨⟨by decide, by decide, Or.inr ⟨"VersionedRows", lw_n_in (t3_in (List.mem_of_getElem? (i := 21) (by decide +kernel))) rfl⟩⟩, Or.inr rfl⟩
theorem fX6_124 : FLi RX6 124 325 := ⟨⟨by decide, by decide, Or.inr ⟨"VersionedRows", lw_n_in (t3_in (List.mem_of_getElem? (i := 22) (by decide +kernel))) rfl⟩⟩, Or.inr rfl⟩
theorem fX4_7 : FLi RX4 7 256 := ⟨⟨by decide, by decide, Or.inl (lw_g_in (t3_in (List.mem_of_getElem? (i := 165) (by decide +kernel))) rfl)⟩, Or.inl rfl⟩
theorem mfX4_7 : FLm RX4 7 256 := lw_g_in (t3_in (List.mem_of_getElem? (i := 165) (by decide +kernel))) rfl
theorem fX4_13 : FLi RX4 13 257 := ⟨⟨by decide, by decide, Or.inl (lw_g_in (t3_in (List.mem_of_getElem? (i := 166) (by decide +kernel))) rfl)⟩, Or.inr rfl⟩
theorem mfX4_13 : FLm RX4 13 257 := lw_g_in (t3_in (List.mem_of_getElem? (i := 166) (by decide +kernel))) rfl
theorem fX4_17 : FLr RX4 17 258 := ⟨⟨by decide, by decide, Or.inl (lw_g_in (t3_in (List.mem_of_getElem? (i := 167) (by decide +kernel))) rfl)⟩, Or.inl ⟨_, rfl⟩⟩
theorem mfX4_17 : FLm RX4 17 258 := lw_g_in (t3_in (List.mem_of_getElem? (i := 167) (by decide +kernel))) rfl
theorem fX4_27 : FLi RX4 27 259 := ⟨⟨by decide, by decide, Or.inl (lw_g_in (t3_in (List.mem_of_getElem? (i := 168) (by decide +kernel))) rfl)⟩, Or.inr rfl⟩
theorem mfX4_27 : FLm RX4 27 259 := lw_g_in (t3_in (List.mem_of_getElem? (i := 168) (by decide +kernel))) rfl
theorem fX9_85 : FLi RX9 85 576 := ⟨⟨by decide, by decide, Or.inl (lw_g_in (t4_in (List.mem_of_getElem? (i := 15) (by decide +kernel))) rfl)⟩, Or.inl rfl⟩
theorem mfX9_85 : FLm RX9 85 576 := lw_g_in (t4_in (List.mem_of_getElem? (i := 15) (by decide +kernel))) rfl
theorem fX9_100 : FLi RX9 100 577 := ⟨⟨by decide, by decide, Or.inl (lw_g_in (t4_in (List.mem_of_getElem? (i := 16) (by decide +kernel))) rfl)⟩, Or.inl rfl⟩
theorem mfX9_100 : FLm RX9 100 577 := lw_g_in (t4_in (List.mem_of_getElem? (i := 16) (by decide +kernel))) rfl
theorem fX9_7 : FLr RX9 7 578 := ⟨⟨by decide, by decide, Or.inl (lw_g_in (t4_in (List.mem_of_getElem? (i := 17) (by decide +kernel))) rfl)⟩, Or.inr ⟨_, rfl⟩⟩
theorem mfX9_7 : FLm RX9 7 578 := lw_g_in (t4_in (List.mem_of_getElem? (i := 17) (by decide +kernel))) rfl
theorem fX9_13 : FLr RX9 13 579 := ⟨⟨by decide, by decide, Or.inl (lw_g_in (t4_in (List.mem_of_getElem? (i := 18) (by decide +kernel))) rfl)⟩, Or.inr ⟨_, rfl⟩⟩
theorem mfX9_13 : FLm RX9 13 579 := lw_g_in (t4_in (List.mem_of_getElem? (i := 18) (by decide +kernel))) rfl
theorem fX9_16 : FLr RX9 16 580 := ⟨⟨by decide, by decide, Or.inl (lw_g_in (t4_in (List.mem_of_getElem? (i := 19) (by decide +kernel))) rfl)⟩, Or.inr ⟨_, rfl⟩⟩
theorem mfX9_16 : FLm RX9 16 580 := lw_g_in (t4_in (List.mem_of_getElem? (i := 19) (by decide +kernel))) rfl
theorem fX9_19 : FLr RX9 19 581 := ⟨⟨by decide, by decide, Or.inl (lw_g_in (t4_in (List.mem_of_getElem? (i := 20) (by decide +kernel))) rfl)⟩, Or.inr ⟨_, rfl⟩⟩
theorem mfX9_19 : FLm RX9 19 581 := lw_g_in (t4_in (List.mem_of_getElem? (i := 20) (by decide +kernel))) rfl
theorem fX9_106 : FLi RX9 106 582 := ⟨⟨by decide, by decide, Or.inl (lw_g_in (t4_in (List.mem_of_getElem? (i := 21) (by decide +kernel))) rfl)⟩, Or.inl rfl⟩
theorem mfX9_106 : FLm RX9 106 582 := lw_g_in (t4_in (List.mem_of_getElem? (i := 21) (by decide +kernel))) rfl
theorem fX9_23 : FLr RX9 23 583 := ⟨⟨by decide, by decide, Or.inl (lw_g_in (t4_in (List.mem_of_getElem? (i := 22) (by decide +kernel))) rfl)⟩, Or.inr ⟨_, rfl⟩⟩
theorem mfX9_23 : FLm RX9 23 583 := lw_g_in (t4_in (List.mem_of_getElem? (i := 22) (by decide +kernel))) rfl
theorem fX9_26 : FLr RX9 26 584 := ⟨⟨by decide, by decide, Or.inl (lw_g_in (t4_in (List.mem_of_getElem? (i := 23) (by decide +kernel))) rfl)⟩, Or.inr ⟨_, rfl⟩⟩
theorem mfX9_26 : FLm RX9 26 584 := lw_g_in (t4_in (List.mem_of_getElem? (i := 23) (by decide +kernel))) rfl
theorem fX9_29 : FLr RX9 29 585 := ⟨⟨by decide, by decide, Or.inl (lw_g_in (t4_in (List.mem_of_getElem? (i := 24) (by decide +kernel))) rfl)⟩, Or.inr ⟨_, rfl⟩⟩
theorem mfX9_29 : FLm RX9 29 585 := lw_g_in (t4_in (List.mem_of_getElem? (i := 24) (by decide +kernel))) rfl
theorem fX9_32 : FLr RX9 32 586 := ⟨⟨by decide, by decide, Or.inl (lw_g_in (t4_in (List.mem_of_getElem? (i := 25) (by decide +kernel))) rfl)⟩, Or.inr ⟨_, rfl⟩⟩
theorem mfX9_32 : FLm RX9 32 586 := lw_g_in (t4_in (List.mem_of_getElem? (i := 25) (by decide +kernel))) rfl
theorem fX9_35 : FLr RX9 35 587 := ⟨⟨by decide, by decide, Or.inl (lw_g_in (t4_in (List.mem_of_getElem? (i := 26) (by decide +kernel))) rfl)⟩, Or.inr ⟨_, rfl⟩⟩
theorem mfX9_35 : FLm RX9 35 587 := lw_g_in (t4_in (List.mem_of_getElem? (i := 26) (by decide +kernel))) rfl
theorem fX9_38 : FLr RX9 38 588 := ⟨⟨by decide, by decide, Or.inl (lw_g_in (t4_in (List.mem_of_getElem? (i := 27) (by decide +kernel))) rfl)⟩, Or.inr ⟨_, rfl⟩⟩
theorem mfX9_38 : FLm RX9 38 588 := lw_g_in (t4_in (List.mem_of_getElem? (i := 27) (by decide +kernel))) rfl
theorem fX9_41 : FLr RX9 41 589 := ⟨⟨by decide, by decide, Or.inl (lw_g_in (t4_in (List.mem_of_getElem? (i := 28) (by decide +kernel))) rfl)⟩, Or.inr ⟨_, rfl⟩⟩
theorem mfX9_41 : FLm RX9 41 589 := lw_g_in (t4_in (List.mem_of_getElem? (i := 28) (by decide +kernel))) rfl
theorem fX9_167 : FLi RX9 167 590 := ⟨⟨by decide, by decide, Or.inl (lw_g_in (t4_in (List.mem_of_getElem? (i := 29) (by decide +kernel))) rfl)⟩, Or.inl rfl⟩
theorem mfX9_167 : FLm RX9 167 590 := lw_g_in (t4_in (List.mem_of_getElem? (i := 29) (by decide +kernel))) rfl
theorem fX9_44 : FLr RX9 44 591 := ⟨⟨by decide, by decide, Or.inl (lw_g_in (t4_in (List.mem_of_getElem? (i := 30) (by decide +kernel))) rfl)⟩, Or.inr ⟨_, rfl⟩⟩
theorem mfX9_44 : FLm RX9 44 591 := lw_g_in (t4_in (List.mem_of_getElem? (i := 30) (by decide +kernel))) rfl
theorem fX9_47 : FLr RX9 47 592 := ⟨⟨by decide, by decide, Or.inl (lw_g_in (t4_in (List.mem_of_getElem? (i := 31) (by decide +kernel))) rfl)⟩, Or.inr ⟨_, rfl⟩⟩
theorem mfX9_47 : FLm RX9 47 592 := lw_g_in (t4_in (List.mem_of_getElem? (i := 31) (by decide +kernel))) rfl
theorem fX9_164 : FLi RX9 164 593 := ⟨⟨by decide, by decide, Or.inl (lw_g_in (t4_in (List.mem_of_getElem? (i := 32) (by decide +kernel))) rfl)⟩, Or.inl rfl⟩
theorem mfX9_164 : FLm RX9 164 593 := lw_g_in (t4_in (List.mem_of_getElem? (i := 32) (by decide +kernel))) rfl
theorem fX9_103 : FLi RX9 103 594 := ⟨⟨by decide, by decide, Or.inl (lw_g_in (t4_in (List.mem_of_getElem? (i := 33) (by decide +kernel))) rfl)⟩, Or.inl rfl⟩
theorem mfX9_103 : FLm RX9 103 594 := lw_g_in (t4_in (List.mem_of_getElem? (i := 33) (by decide +kernel))) rfl
theorem fX9_116 : FLi RX9 116 595 := ⟨⟨by decide, by decide, Or.inl (lw_g_in (t4_in (List.mem_of_getElem? (i := 34) (by decide +kernel))) rfl)⟩, Or.inl rfl⟩
theorem mfX9_116 : FLm RX9 116 595 := lw_g_in (t4_in (List.mem_of_getElem? (i := 34) (by decide +kernel))) rfl
theorem fX9_50 : FLr RX9 50 596 := ⟨⟨by decide, by decide, Or.inl (lw_g_in (t4_in (List.mem_of_getElem? (i := 35) (by decide +kernel))) rfl)⟩, Or.inr ⟨_, rfl⟩⟩
theorem mfX9_50 : FLm RX9 50 596 := lw_g_in (t4_in (List.mem_of_getElem? (i := 35) (by decide +kernel))) rfl
theorem fX9_53 : FLr RX9 53 597 := ⟨⟨by decide, by decide, Or.inl (lw_g_in (t4_in (List.mem_of_getElem? (i := 36) (by decide +kernel))) rfl)⟩, Or.inr ⟨_, rfl⟩⟩
theorem mfX9_53 : FLm RX9 53 597 := lw_g_in (t4_in (List.mem_of_getElem? (i := 36) (by decide +kernel))) rfl
theorem fX9_56 : FLr RX9 56 598 := ⟨⟨by decide, by decide, Or.inl (lw_g_in (t4_in (List.mem_of_getElem? (i := 37) (by decide +kernel))) rfl)⟩, Or.inr ⟨_, rfl⟩⟩
theorem mfX9_56 : FLm RX9 56 598 := lw_g_in (t4_in (List.mem_of_getElem? (i := 37) (by decide +kernel))) rfl
theorem fX9_59 : FLr RX9 59 599 := ⟨⟨by decide, by decide, Or.inl (lw_g_in (t4_in (List.mem_of_getElem? (i := 38) (by decide +kernel))) rfl)⟩, Or.inr ⟨_, rfl⟩⟩
theorem mfX9_59 : FLm RX9 59 599 := lw_g_in (t4_in (List.mem_of_getElem? (i := 38) (by decide +kernel))) rfl
theorem fX9_62 : FLr RX9 62 600 := ⟨⟨by decide, by decide, Or.inl (lw_g_in (t4_in (List.mem_of_getElem? (i := 39) (by decide +kernel))) rfl)⟩, Or.inr ⟨_, rfl⟩⟩
theorem mfX9_62 : FLm RX9 62 600 := lw_g_in (t4_in (List.mem_of_getElem? (i := 39) (by decide +kernel))) rfl
theorem fX9_65 : FLr RX9 65 601 := ⟨⟨by decide, by decide, Or.inl (lw_g_in (t4_in (List.mem_of_getElem? (i := 40) (by decide +kernel))) rfl)⟩, Or.inr ⟨_, rfl⟩⟩
theorem mfX9_65 : FLm RX9 65 601 := lw_g_in (t4_in (List.mem_of_getElem? (i := 40) (by decide +kernel))) rfl
theorem fX9_68 : FLr RX9 68 602 := ⟨⟨by decide, by decide, Or.inl (lw_g_in (t4_in (List.mem_of_getElem? (i := 41) (by decide +kernel))) rfl)⟩, Or.inr ⟨_, rfl⟩⟩
theorem mfX9_68 : FLm RX9 68 602 := lw_g_in (t4_in (List.mem_of_getElem? (i := 41) (by decide +kernel))) rfl
theorem fX9_252 : FLi RX9 252 603 := ⟨⟨by decide, by decide, Or.inl (lw_g_in (t4_in (List.mem_of_getElem? (i := 42) (by decide +kernel))) rfl)⟩, Or.inl rfl⟩
theorem mfX9_252 : FLm RX9 252 603 := lw_g_in (t4_in (List.mem_of_getElem? (i := 42) (by decide +kernel))) rfl
theorem fX9_71 : FLi RX9 71 604 := ⟨⟨by decide, by decide, Or.inl (lw_g_in (t4_in (List.mem_of_getElem? (i := 43) (by decide +kernel))) rfl)⟩, Or.inl rfl⟩
theorem mfX9_71 : FLm RX9 71 604 := lw_g_in (t4_in (List.mem_of_getElem? (i := 43) (by decide +kernel))) rfl
theorem fX9_249 : FLi RX9 249 605 := ⟨⟨by decide, by decide, Or.inl (lw_g_in (t4_in (List.mem_of_getElem? (i := 44) (by decide +kernel))) rfl)⟩, Or.inl rfl⟩
theorem mfX9_249 : FLm RX9 249 605 := lw_g_in (t4_in (List.mem_of_getElem? (i := 44) (by decide +kernel))) rfl
theorem fX9_239 : FLj RX9 239 606 := ⟨⟨by decide, by decide, Or.inl (lw_g_in (t4_in (List.mem_of_getElem? (i := 45) (by decide +kernel))) rfl)⟩, rfl⟩
theorem mfX9_239 : FLm RX9 239 606 := lw_g_in (t4_in (List.mem_of_getElem? (i := 45) (by decide +kernel))) rfl
theorem fX9_242 : FLj RX9 242 607 := ⟨⟨by decide, by decide, Or.inl (lw_g_in (t4_in (List.mem_of_getElem? (i := 46) (by decide +kernel))) rfl)⟩, rfl⟩
theorem mfX9_242 : FLm RX9 242 607 := lw_g_in (t4_in (List.mem_of_getElem? (i := 46) (by decide +kernel))) rfl
theorem fX9_209 : FLi RX9 209 608 := ⟨⟨by decide, by decide, Or.inl (lw_g_in (t4_in (List.mem_of_getElem? (i := 47) (by decide +kernel))) rfl)⟩, Or.inr rfl⟩
theorem mfX9_209 : FLm RX9 209 608 := lw_g_in (t4_in (List.mem_of_getElem? (i := 47) (by decide +kernel))) rfl
theorem fX9_213 : FLj RX9 213 609 := ⟨⟨by decide, by decide, Or.inl (lw_g_in (t4_in (List.mem_of_getElem? (i := 48) (by decide +kernel))) rfl)⟩, rfl⟩
theorem mfX9_213 : FLm RX9 213 609 := lw_g_in (t4_in (List.mem_of_getElem? (i := 48) (by decide +kernel))) rfl
theorem fX9_217 : FLj RX9 217 610 := ⟨⟨by decide, by decide, Or.inl (lw_g_in (t4_in (List.mem_of_getElem? (i := 49) (by decide +kernel))) rfl)⟩, rfl⟩
theorem mfX9_217 : FLm RX9 217 610 := lw_g_in (t4_in (List.mem_of_getElem? (i := 49) (by decide +kernel))) rfl
theorem fX9_75 : FLr RX9 75 611 := ⟨⟨by decide, by decide, Or.inl (lw_g_in (t4_in (List.mem_of_getElem? (i := 50) (by decide +kernel))) rfl)⟩, Or.inr ⟨_, rfl⟩⟩
theorem mfX9_75 : FLm RX9 75 611 := lw_g_in (t4_in (List.mem_of_getElem? (i := 50) (by decide +kernel))) rfl
theorem fX9_188 : FLi RX9 188 612 := ⟨⟨by decide, by decide, Or.inl (lw_g_in (t4_in (List.mem_of_getElem? (i := 51) (by decide +kernel))) rfl)⟩, Or.inl rfl⟩
theorem mfX9_188 : FLm RX9 188 612 := lw_g_in (t4_in (List.mem_of_getElem? (i := 51) (by decide +kernel))) rfl
theorem fX9_78 : FLr RX9 78 613 := ⟨⟨by decide, by decide, Or.inl (lw_g_in (t4_in (List.mem_of_getElem? (i := 52) (by decide +kernel))) rfl)⟩, Or.inr ⟨_, rfl⟩⟩
theorem mfX9_78 : FLm RX9 78 613 := lw_g_in (t4_in (List.mem_of_getElem? (i := 52) (by decide +kernel))) rfl
end
section
section HEAP
variable {X : CX} {M : MD} {d pc pc' : Nat} {L : List (Option LV)} {S S' : List LV} {G G1 : GH} {Q : Option LV → GH → Prop}
theorem Ev.rd (hp : ∀ (p : Program) (e : Env) (R : Room) (s : State) (m : MethodId) (args : Array Value) (below : List Frame) (meth : Method) (c : Code), MCx X M d p R s m args meth c → ∀ (H : Heap) (locs : List Loc) (cells slots : Nat) (ls : Array Slot) (Z : State → Prop), Rel X G H → va_S (cx_A X) s.heap H locs → lvOK X ls M.2.2.1 L →
    W p X.1 e R s m args below meth c H locs cells slots Z (F0 m pc' ls (S'.map (cx_v X))) → W p X.1 e R s m args below meth c H locs cells slots Z (F0 m pc ls (S.map (cx_v X))))
    (h : Ev X M d pc' L S' G Q) : Ev X M d pc L S G Q := by
  obtain ⟨r, G', h1, h2, h3, h4⟩ := h
  refine ⟨r, G', h1, h2, ?_, h4⟩
  intro p e R s m args below meth c C H locs cells slots ls Z hR hS hl hc hs k
  exact hp p e R s m args below meth c C H locs cells slots ls Z hR hS hl (h3 p e R s m args below meth c C H locs cells slots ls Z hR hS hl hc hs k)
theorem Ev.wr (hn : gh_n G1 = gh_n G) (hsl : gh_s G1 = gh_s G) (hp : ∀ (p : Program) (e : Env) (R : Room) (s : State) (m : MethodId) (args : Array Value) (below : List Frame) (meth : Method) (c : Code), MCx X M d p R s m args meth c → ∀ (H : Heap) (locs : List Loc) (cells slots : Nat) (ls : Array Slot) (Z : State → Prop), Rel X G H → va_S (cx_A X) s.heap H locs → lvOK X ls M.2.2.1 L →
    (∀ (H' : Heap) (locs' : List Loc), Rel X G1 H' → va_S (cx_A X) s.heap H' locs' → W p X.1 e R s m args below meth c H' locs' cells slots Z (F0 m pc' ls (S'.map (cx_v X)))) → W p X.1 e R s m args below meth c H locs cells slots Z (F0 m pc ls (S.map (cx_v X))))
    (h : Ev X M d pc' L S' G1 Q) : Ev X M d pc L S G Q := by
  obtain ⟨r, G', h1, h2, h3, h4⟩ := h
  refine ⟨r, G', by rw [← hn]; exact h1, by rw [← hsl]; exact h2, ?_, h4⟩
  intro p e R s m args below meth c C H locs cells slots ls Z hR hS hl hc hs k
  rw [← hn] at hc k
  rw [← hsl] at hs k
  exact hp p e R s m args below meth c C H locs cells slots ls Z hR hS hl (fun H' locs' hR' hS' => h3 p e R s m args below meth c C H' locs' cells slots ls Z hR' hS' hl hc hs k)
theorem Ev.al {N : Nat} (hn : gh_n G1 = gh_n G + 1) (hsl : gh_s G1 = gh_s G + N) (hp : ∀ (p : Program) (e : Env) (R : Room) (s : State) (m : MethodId) (args : Array Value) (below : List Frame) (meth : Method) (c : Code), MCx X M d p R s m args meth c → ∀ (H : Heap) (locs : List Loc) (cells slots : Nat) (ls : Array Slot) (Z : State → Prop), Rel X G H → va_S (cx_A X) s.heap H locs → lvOK X ls M.2.2.1 L → cells + 1 ≤ R.cells → slots + N ≤ R.slots →
    (∀ (H' : Heap), Rel X G1 H' → va_S (cx_A X) s.heap H' locs → W p X.1 e R s m args below meth c H' locs (cells + 1) (slots + N) Z (F0 m pc' ls (S'.map (cx_v X)))) → W p X.1 e R s m args below meth c H locs cells slots Z (F0 m pc ls (S.map (cx_v X))))
    (h : Ev X M d pc' L S' G1 Q) : Ev X M d pc L S G Q := by
  obtain ⟨r, G', h1, h2, h3, h4⟩ := h
  refine ⟨r, G', by omega, by omega, ?_, h4⟩
  intro p e R s m args below meth c C H locs cells slots ls Z hR hS hl hc hs k
  have e1 : gh_n G' - gh_n G = 1 + (gh_n G' - gh_n G1) := by omega
  have e2 : gh_s G' - gh_s G = N + (gh_s G' - gh_s G1) := by omega
  rw [e1, ← Nat.add_assoc] at hc k
  rw [e2, ← Nat.add_assoc] at hs k
  exact hp p e R s m args below meth c C H locs cells slots ls Z hR hS hl (by omega) (by omega) (fun H' hR' hS' => h3 p e R s m args below meth c C H' locs _ _ ls Z hR' hS' hl hc hs k)
theorem cellE_obj {i q : Nat} (hk : G.1 i = q) (hq : q < 11) : cellE X G i = .inr (q, fvs X G q i) := by
  unfold cellE
  rw [hk, if_pos (by omega)]
theorem fvs_at {q k i : Nat} (hk : k < gnf q) : (fvs X G q i)[k]? = some (fv X G (gty q k) (64 * q + k) i) := by
  unfold fvs
  rw [List.getElem?_map, List.getElem?_range hk]
  rfl
theorem f_eq {f : Nat} : 64 * (f / 64) + f % 64 = f := Nat.div_add_mod f 64
theorem Rel.P {H : Heap} {i : Nat} (hR : Rel X G H) (hk : G.1 i < 900) : va_P X.2.1 gcl [(cx_ad X i, cellE X G i)] H := by
  intro k q h
  have hz : k < 1 := (List.getElem?_eq_some_iff.mp h).1
  rw [show k = 0 by omega] at h
  cases h
  exact (hR.2.1 i hk).2.2
theorem ev_get {i f idx : Nat} {v : LV} (hd : decode M.2.1 pc = .ok (.getfield idx, 3)) (hf : FLk M.1.cls idx f) (hk : G.1 i = f / 64) (hv : fv X G (gty (f / 64) (f % 64)) f i = cx_v X v) (k : Ev X M d (pc + 3) L (v :: S) G Q) : Ev X M d pc L (rV (some i) :: S) G Q := by
  refine Ev.rd ?_ k
  intro p e R s m args below meth c C H locs cells slots ls Z hR hS hl kk
  obtain ⟨hx, hb, hr, hml, hown, hts, hlk, hin, hK, -⟩ := C
  obtain ⟨h1, h2, h3⟩ := hf
  have hP := hR.P (i := i) (by rw [hk]; omega)
  rw [cellE_obj hk h1] at hP
  have hv2 : (fvs X G (f / 64) i)[f % 64]? = some (cx_v X v) := by rw [fvs_at h2, f_eq, hv]
  rcases h3 with h3 | ⟨host, h3⟩
  · exact va_get (ci := f / 64) (T := gTn (f / 64)) hx hb hts (gin _ h1) hown hK.1 hP 0 rfl (gcl_at _ h1) (f % 64) h2 (hts _ h3) (fun _ h9 => h9) hv2 hd kk
  · exact va_getN (ci := f / 64) (T := gTn (f / 64)) hx hb hts (gin _ h1) hown hK.1 hP 0 rfl (gcl_at _ h1) (f % 64) h2 (va_Nw.use rfl (hK.2.1 _ h3)) (fun _ h9 => h9) hv2 hd kk
end HEAP
section GET
variable {X : CX} {M : MD} {d pc : Nat} {L : List (Option LV)} {S : List LV} {Q : Option LV → GH → Prop} {K : Nat → Nat} {I : Nat → Nat → Int32} {J : Nat → Nat → Int64} {R : Nat → Nat → Option Nat} {A : Nat → Nat → Int32} {B : Nat → Nat → Option Nat} {Ln : Nat → Nat} {n sl : Nat}
theorem ev_getI {i f idx : Nat} (hd : decode M.2.1 pc = .ok (.getfield idx, 3)) (hf : FLi M.1.cls idx f) (hk : K i = f / 64) (k : Ev X M d (pc + 3) L (iV (I f i) :: S) (K, I, J, R, A, B, Ln, n, sl) Q) : Ev X M d pc L (rV (some i) :: S) (K, I, J, R, A, B, Ln, n, sl) Q :=
  ev_get hd hf.1 hk (by rcases hf.2 with h | h <;> rw [h] <;> rfl) k
theorem ev_getJ {i f idx : Nat} (hd : decode M.2.1 pc = .ok (.getfield idx, 3)) (hf : FLj M.1.cls idx f) (hk : K i = f / 64) (k : Ev X M d (pc + 3) L (lV (J f i) :: S) (K, I, J, R, A, B, Ln, n, sl) Q) : Ev X M d pc L (rV (some i) :: S) (K, I, J, R, A, B, Ln, n, sl) Q :=
  ev_get hd hf.1 hk (by rw [hf.2]; rfl) k
theorem ev_getR {i f idx : Nat} {r : Option Nat} (hd : decode M.2.1 pc = .ok (.getfield idx, 3)) (hf : FLr M.1.cls idx f) (hk : K i = f / 64) (hr : R f i = r) (k : Ev X M d (pc + 3) L (rV r :: S) (K, I, J, R, A, B, Ln, n, sl) Q) : Ev X M d pc L (rV (some i) :: S) (K, I, J, R, A, B, Ln, n, sl) Q := by
  subst hr
  exact ev_get hd hf.1 hk (by rcases hf.2 with ⟨n, h⟩ | ⟨t, h⟩ <;> rw [h] <;> rfl) k
end GET
end
section
section PUTW
variable {p : Program} {l : Launch} {e : Env} {R : Room} {s : State} {m : MethodId} {args : Array Value} {below : List Frame} {meth : Method} {c : Code} {H : Heap} {locs : List Loc} {cells slots : Nat} {Z : State → Prop}
variable {cc : ByteArray} {pc : Nat} {ls : Array Slot} {rest : List Value} {X : CX} {own : String} {a q k idx : Nat} {fs : List Value} {ty : FieldType} {v : Value}
theorem gnm : ∀ q, q < 11 → ∀ a, a < gnf q → ∀ b, b < gnf q → a ≠ b → (gTn q a).2.1 ≠ (gTn q b).2.1
  | 0, _ => nmX0 | 1, _ => nmX1 | 2, _ => nmX2 | 3, _ => nmX3 | 4, _ => nmX4 | 5, _ => nmX5 | 6, _ => nmX6 | 7, _ => nmX7 | 8, _ => nmX8 | 9, _ => nmX9 | 10, _ => nmJx4a65c
  | n + 11, h => absurd h (by omega)
theorem gty_ok : ∀ q, q < 11 → ∀ k, k < gnf q → parseFieldDescriptor (gTn q k).2.2.1 = some (gty q k)
  | 0, _ => tyX0_ok | 1, _ => tyX1_ok | 2, _ => tyX2_ok | 3, _ => tyX3_ok | 4, _ => tyX4_ok | 5, _ => tyX5_ok | 6, _ => tyX6_ok | 7, _ => tyX7_ok | 8, _ => tyX8_ok | 9, _ => tyX9_ok | 10, _ => tyJx4a65c_ok
  | n + 11, h => absurd h (by omega)
/-- what a store into a field gives: the cell with the field set, all else as it was -/
abbrev PutK (p : Program) (l : Launch) (e : Env) (R : Room) (s : State) (m : MethodId) (args : Array Value) (below : List Frame) (meth : Method) (c : Code) (H : Heap) (cells slots : Nat) (Z : State → Prop) (X : CX) (a q : Nat) (fs : List Value) (g : JFrame) : Prop :=
  ∀ (H1 : Heap) (locs1 : List Loc), va_at X.2.1 gcl (a, .inr (q, fs)) H1 → H1.size = H.size → (∀ z : Nat, z ≠ a → H1[z]? = H[z]?) → va_S (cx_A X) s.heap H1 locs1 → W p l e R s m args below meth c H1 locs1 cells slots Z g
theorem put_link (hx : p.tables.exec = Jvm.exec) (hb : c.code = cc) (hts : ∀ w ∈ lw_g, w.before args s = true) (hown : s.vm.findClass own = some m.cls) (hK : va_K X.2.1 gcl (cx_ty X) s) (hq : q < 11) (hk : k < gnf q) (hP : va_at X.2.1 gcl (a, .inr (q, fs)) H) (hS0 : va_S (cx_A X) s.heap H locs) (ha : cx_b X ≤ a)
    (hlink : (Cond.fieldLink own idx (gTn q k).1 (gTn q k).2.1 (gTn q k).2.2.1).before args s = true) (hfin : (gTn q k).2.2.2 = false) (hn : narrow (gty q k) v = v) (hfit : fits (gty q k) v = true) (hl : k < fs.length) (hdg : decode cc pc = .ok (.putfield idx, 3))
    (kk : PutK p l e R s m args below meth c H cells slots Z X a q (fs.set k v) (F0 m (pc + 3) ls rest)) : W p l e R s m args below meth c H locs cells slots Z (F0 m pc ls (v :: .ref a :: rest)) := by
  have hin := gin q hq
  have hc := gcl_at q hq
  have hap := va_apart (own := own) hts hin (gty q) (gty_ok q hq) (gnm q hq) hK hc
  obtain ⟨r, h1, cell, q1, q2, q3, q4⟩ := hP
  have hr : r = (gRn q, gTn q, gnf q) := Option.some.inj (h1.symm.trans hc)
  subst hr
  obtain ⟨hS, hfc, kC, hkC, hkind⟩ := hK.1 q _ hc
  obtain ⟨cf, kf, fi, f, hi, hsl⟩ := hS k hk
  have hlay := hts _ (hin _ (u_in_lay hk))
  unfold u_lay at hlay
  rw [if_neg (by rw [hfin]; decide)] at hlay
  refine W.putK hx hb (f := f) ⟨hown, hlink, ⟨_, _, _, hi⟩, (u_facts hfc hkC (u_lays hts hin hk) hi).1⟩ (by rw [q2]; exact u_store hfc hkC hkind hlay hi (gty_ok q hq k hk) hn hfit) q1 q3 (by rw [hsl]; exact k2_hasslot (q4 k hk)) rfl rfl hdg fun H' e1 e2 e3 => ?_
  rw [hsl] at e1 ⊢
  exact kk H' _ ⟨_, hc, t_OB.to (V := updV (vp_V fs) k v) ⟨_, e1, q2, q3, t_set q4 hap hk v⟩ (fun j _ => vp_updV_set hl v j)⟩ e2 e3 (hS0.put e2 e3 ha)
theorem put_nest {host : String} (hx : p.tables.exec = Jvm.exec) (hb : c.code = cc) (hts : ∀ w ∈ lw_g, w.before args s = true) (hown : s.vm.findClass own = some m.cls) (hK : va_K X.2.1 gcl (cx_ty X) s) (hq : q < 11) (hk : k < gnf q) (hP : va_at X.2.1 gcl (a, .inr (q, fs)) H) (hS0 : va_S (cx_A X) s.heap H locs) (ha : cx_b X ≤ a)
    (hlink : (Cond.fieldLinkNest own idx (gTn q k).1 (gTn q k).2.1 (gTn q k).2.2.1 host).before args s = true) (hfin : (gTn q k).2.2.2 = false) (hn : narrow (gty q k) v = v) (hfit : fits (gty q k) v = true) (hl : k < fs.length) (hdg : decode cc pc = .ok (.putfield idx, 3))
    (kk : PutK p l e R s m args below meth c H cells slots Z X a q (fs.set k v) (F0 m (pc + 3) ls rest)) : W p l e R s m args below meth c H locs cells slots Z (F0 m pc ls (v :: .ref a :: rest)) := by
  have hin := gin q hq
  have hc := gcl_at q hq
  have hap := va_apart (own := own) hts hin (gty q) (gty_ok q hq) (gnm q hq) hK hc
  obtain ⟨r, h1, cell, q1, q2, q3, q4⟩ := hP
  have hr : r = (gRn q, gTn q, gnf q) := Option.some.inj (h1.symm.trans hc)
  subst hr
  obtain ⟨hS, hfc, kC, hkC, hkind⟩ := hK.1 q _ hc
  obtain ⟨cf, kf, fi, f, hi, hsl⟩ := hS k hk
  have hlay := hts _ (hin _ (u_in_lay hk))
  unfold u_lay at hlay
  rw [if_neg (by rw [hfin]; decide)] at hlay
  refine va_WputK hx hb (f := f) hown hlink hi (u_facts hfc hkC (u_lays hts hin hk) hi).1 (by rw [q2]; exact u_store hfc hkC hkind hlay hi (gty_ok q hq k hk) hn hfit) q1 q3 (by rw [hsl]; exact k2_hasslot (q4 k hk)) rfl rfl hdg fun H' e1 e2 e3 => ?_
  rw [hsl] at e1 ⊢
  exact kk H' _ ⟨_, hc, t_OB.to (V := updV (vp_V fs) k v) ⟨_, e1, q2, q3, t_set q4 hap hk v⟩ (fun j _ => vp_updV_set hl v j)⟩ e2 e3 (hS0.put e2 e3 ha)
theorem put_final (hx : p.tables.exec = Jvm.exec) (hb : c.code = cc) (hts : ∀ w ∈ lw_g, w.before args s = true) (hown : s.vm.findClass own = some m.cls) (hK : va_K X.2.1 gcl (cx_ty X) s) (hq : q < 11) (hk : k < gnf q) (hP : va_at X.2.1 gcl (a, .inr (q, fs)) H) (hS0 : va_S (cx_A X) s.heap H locs) (ha : cx_b X ≤ a)
    (hlink : (Cond.fieldLink own idx (gTn q k).1 (gTn q k).2.1 (gTn q k).2.2.1).before args s = true) (hfin : (gTn q k).2.2.2 = true) (hin2 : meth.name = "<init>") (hdecl : (gTn q k).1 = own) (hn : narrow (gty q k) v = v) (hfit : fits (gty q k) v = true) (hl : k < fs.length) (hdg : decode cc pc = .ok (.putfield idx, 3))
    (kk : PutK p l e R s m args below meth c H cells slots Z X a q (fs.set k v) (F0 m (pc + 3) ls rest)) : W p l e R s m args below meth c H locs cells slots Z (F0 m pc ls (v :: .ref a :: rest)) := by
  have hin := gin q hq
  have hc := gcl_at q hq
  have hap := va_apart (own := own) hts hin (gty q) (gty_ok q hq) (gnm q hq) hK hc
  obtain ⟨r, h1, cell, q1, q2, q3, q4⟩ := hP
  have hr : r = (gRn q, gTn q, gnf q) := Option.some.inj (h1.symm.trans hc)
  subst hr
  obtain ⟨hS, hfc, kC, hkC, hkind⟩ := hK.1 q _ hc
  obtain ⟨cf, kf, fi, f, hi, hsl⟩ := hS k hk
  have hlay := hts _ (hin _ (u_in_lay hk))
  unfold u_lay at hlay
  rw [if_pos hfin] at hlay
  have hcf : m.cls = cf := by
    obtain ⟨_, _, c', _, _, _, -, -, hf', -, -, -, hown2, -⟩ := Cond.laysFinal_spec hlay
    have e1 : c' = cf := by have := hi.symm.trans hf'; simp at this; exact this.1.symm
    rw [hdecl] at hown2
    rw [← e1]; exact Option.some.inj (hown.symm.trans hown2)
  refine W.putFinK hx hb hown hlink hi (u_facts hfc hkC (u_lays hts hin hk) hi).1 hcf hin2 (by rw [q2]; exact u_fits hfc hkC hkind (Or.inr hlay) hi (gty_ok q hq k hk) hn hfit) q1 q3 (by rw [hsl]; exact k2_hasslot (q4 k hk)) rfl rfl hdg fun H' e1 e2 e3 => ?_
  rw [hsl] at e1 ⊢
  exact kk H' _ ⟨_, hc, t_OB.to (V := updV (vp_V fs) k v) ⟨_, e1, q2, q3, t_set q4 hap hk v⟩ (fun j _ => vp_updV_set hl v j)⟩ e2 e3 (hS0.put e2 e3 ha)
end PUTW
section REL
variable {X : CX} {G G1 : GH} {H H1 : Heap} {i j : Nat}
theorem cx_ad3 (h : 3 ≤ i) : cx_ad X i = cx_b X + (i - 3) := by unfold cx_ad; rw [if_neg (by omega), if_neg (by omega), if_neg (by omega)]
theorem cellE_same (hK1 : G1.1 j = G.1 j) (h : SameAt G1 G j) : cellE X G1 j = cellE X G j := by
  obtain ⟨h1, h2, h3, h4, h5, h6⟩ := h
  have e : ∀ q, fvs X G1 q j = fvs X G q j := fun q => by
    unfold fvs
    refine List.map_congr_left fun k _ => ?_
    unfold fv
    rw [h1, h2, h3]
  unfold cellE
  rw [hK1, e, h4, h5, h6]
theorem Fresh.same (hK1 : G1.1 j = G.1 j) (h : SameAt G1 G j) (hf : Fresh G j) : Fresh G1 j := by
  obtain ⟨h1, h2, h3, h4, h5, h6⟩ := h
  obtain ⟨a1, a2, a3, a4, a5, a6⟩ := hf
  exact ⟨fun f => by rw [h1]; exact a1 f, fun f => by rw [h2]; exact a2 f, fun f => by rw [h3]; exact a3 f, fun k => by rw [h4]; exact a4 k, fun k => by rw [h5]; exact a5 k, by rw [hK1]; exact a6⟩
theorem Rel.upd (hR : Rel X G H) (hK : G1.1 = G.1) (hn : gh_n G1 = gh_n G) (hi : G.1 i < 900) (hz : H1.size = H.size) (ho : ∀ z : Nat, z ≠ cx_ad X i → H1[z]? = H[z]?) (hc : ∀ j, j ≠ i → SameAt G1 G j) (h1 : va_at X.2.1 gcl (cx_ad X i, cellE X G1 i) H1) : Rel X G1 H1 := by
  refine ⟨⟨by rw [hn, hz]; exact hR.1.1, by rw [hn]; exact hR.1.2⟩, fun j hj => ?_, fun j hj => ?_⟩
  · rw [hK] at hj
    obtain ⟨a1, a2, a3⟩ := hR.2.1 j hj
    refine ⟨a1, by rw [hn]; exact a2, ?_⟩
    by_cases e : j = i
    · subst e; exact h1
    · rw [cellE_same (by rw [hK]) (hc j e)]
      refine a3.kept (ho _ ?_)
      have b1 := (hR.2.1 i hi).1
      show cx_ad X j ≠ cx_ad X i
      rw [cx_ad3 a1, cx_ad3 b1]
      omega
  · rw [hn] at hj
    have hlt := (hR.2.1 i hi).2.1
    exact (hR.2.2 j hj).same (by rw [hK]) (hc j (by omega))
theorem Rel.base (hR : Rel X G H) (hi : G.1 i < 900) : cx_b X ≤ cx_ad X i := by
  rw [cx_ad3 (hR.2.1 i hi).1]; omega
end REL
end
section
def PutOk (M : MD) (idx f : Nat) : Prop := (gTn (f / 64) (f % 64)).2.2.2 = false ∨ ((gTn (f / 64) (f % 64)).2.2.2 = true ∧ M.2.2.2.2 = true ∧ (gTn (f / 64) (f % 64)).1 = M.1.cls ∧ FLm M.1.cls idx f)
section PUTS
variable {X : CX} {M : MD} {d pc : Nat} {L : List (Option LV)} {S : List LV} {G G1 : GH} {Q : Option LV → GH → Prop}
theorem fvs_len {q i : Nat} : (fvs X G q i).length = gnf q := by unfold fvs; rw [List.length_map, List.length_range]
theorem ev_put {i f idx : Nat} {v : LV} (hd : decode M.2.1 pc = .ok (.putfield idx, 3)) (hf : FLk M.1.cls idx f) (ho : PutOk M idx f) (hk : G.1 i = f / 64) (hnw : narrow (gty (f / 64) (f % 64)) (cx_v X v) = cx_v X v) (hfit : fits (gty (f / 64) (f % 64)) (cx_v X v) = true)
    (hK1 : G1.1 = G.1) (hn1 : gh_n G1 = gh_n G) (hs1 : gh_s G1 = gh_s G) (hc : ∀ j, j ≠ i → SameAt G1 G j) (hf1 : fvs X G1 (f / 64) i = (fvs X G (f / 64) i).set (f % 64) (cx_v X v)) (k : Ev X M d (pc + 3) L S G1 Q) : Ev X M d pc L (v :: rV (some i) :: S) G Q := by
  refine Ev.wr hn1 hs1 ?_ k
  intro p e R s m args below meth c C H locs cells slots ls Z hR hS hl kk
  obtain ⟨hx, hb, hr, hml, hown, hts, hlk, hin, hK, -⟩ := C
  obtain ⟨h1, h2, h3⟩ := hf
  have h9 : G.1 i < 900 := by rw [hk]; omega
  have hP := (hR.2.1 i h9).2.2
  rw [cellE_obj hk h1] at hP
  have hl9 : f % 64 < (fvs X G (f / 64) i).length := by rw [fvs_len]; exact h2
  have hk1 : G1.1 i = f / 64 := by rw [hK1]; exact hk
  have goK : PutK p X.1 e R s m args below meth c H cells slots Z X (cx_ad X i) (f / 64) ((fvs X G (f / 64) i).set (f % 64) (cx_v X v)) (F0 m (pc + 3) ls (S.map (cx_v X))) := by
    intro H1 locs1 a1 a2 a3 a4
    refine kk H1 locs1 (hR.upd hK1 hn1 h9 a2 a3 hc ?_) a4
    rw [cellE_obj hk1 h1, hf1]
    exact a1
  rcases ho with ho | ⟨ho1, ho2, ho3, h3⟩
  · rcases h3 with h3 | ⟨host, h3⟩
    · exact put_link hx hb hts hown hK.1 h1 h2 hP hS (hR.base h9) (hts _ h3) ho hnw hfit hl9 hd goK
    · exact put_nest hx hb hts hown hK.1 h1 h2 hP hS (hR.base h9) (va_Nw.use rfl (hK.2.1 _ h3)) ho hnw hfit hl9 hd goK
  · exact put_final hx hb hts hown hK.1 h1 h2 hP hS (hR.base h9) (hts _ h3) ho1 (hin ho2) ho3 hnw hfit hl9 hd goK
theorem u2_self {α : Type} {g : Nat → Nat → α} {a b : Nat} {v : α} : u2 g a b v a b = v := if_pos ⟨rfl, rfl⟩
theorem u2_ne2 {α : Type} {g : Nat → Nat → α} {a b c e : Nat} {v : α} (h : e ≠ b) : u2 g a b v c e = g c e := if_neg (fun q => h q.2)
theorem u2_ne1 {α : Type} {g : Nat → Nat → α} {a b c e : Nat} {v : α} (h : c ≠ a) : u2 g a b v c e = g c e := if_neg (fun q => h q.1)
theorem fv_congr {t : FieldType} {f i : Nat} (h1 : G1.2.1 f i = G.2.1 f i) (h2 : G1.2.2.1 f i = G.2.2.1 f i) (h3 : G1.2.2.2.1 f i = G.2.2.2.1 f i) : fv X G1 t f i = fv X G t f i := by
  unfold fv
  rw [h1, h2, h3]
theorem fvs_set {q k i : Nat} {v : Value} (hk : k < gnf q) (h1 : fv X G1 (gty q k) (64 * q + k) i = v) (h2 : ∀ a, a ≠ k → fv X G1 (gty q a) (64 * q + a) i = fv X G (gty q a) (64 * q + a) i) : fvs X G1 q i = (fvs X G q i).set k v := by
  apply List.ext_getElem?
  intro a
  by_cases e : a = k
  · subst e
    rw [fvs_at hk, h1, List.getElem?_set_self (by rw [fvs_len]; exact hk)]
  · rw [List.getElem?_set_ne (fun z => e z.symm)]
    by_cases hl : a < gnf q
    · rw [fvs_at hl, fvs_at hl, h2 a e]
    · rw [List.getElem?_eq_none (by rw [fvs_len]; omega), List.getElem?_eq_none (by rw [fvs_len]; omega)]
end PUTS
section PUTT
variable {X : CX} {M : MD} {d pc : Nat} {L : List (Option LV)} {S : List LV} {Q : Option LV → GH → Prop} {K : Nat → Nat} {I : Nat → Nat → Int32} {J : Nat → Nat → Int64} {R : Nat → Nat → Option Nat} {A : Nat → Nat → Int32} {B : Nat → Nat → Option Nat} {Ln : Nat → Nat} {n sl : Nat}
theorem ev_putI {i f idx : Nat} {v : Int32} (hd : decode M.2.1 pc = .ok (.putfield idx, 3)) (hf : FLi M.1.cls idx f) (ho : PutOk M idx f) (hz : gty (f / 64) (f % 64) = .int ∨ v = 0 ∨ v = 1) (hk : K i = f / 64) (k : Ev X M d (pc + 3) L S (K, u2 I f i v, J, R, A, B, Ln, n, sl) Q) : Ev X M d pc L (iV v :: rV (some i) :: S) (K, I, J, R, A, B, Ln, n, sl) Q := by
  have hnf : narrow (gty (f / 64) (f % 64)) (.int v) = .int v ∧ fits (gty (f / 64) (f % 64)) (.int v) = true := by
    rcases hz with h | h | h
    · rw [h]; exact ⟨rfl, rfl⟩
    · subst h; rcases hf.2 with h | h <;> rw [h] <;> exact ⟨rfl, rfl⟩
    · subst h; rcases hf.2 with h | h <;> rw [h] <;> exact ⟨rfl, rfl⟩
  refine ev_put (v := iV v) (G1 := (K, u2 I f i v, J, R, A, B, Ln, n, sl)) hd hf.1 ho hk hnf.1 hnf.2 rfl rfl rfl (fun j hj => ⟨fun g => u2_ne2 hj, fun _ => rfl, fun _ => rfl, rfl, rfl, rfl⟩) (fvs_set hf.1.2.1 ?_ (fun a ha => ?_)) k
  · rw [f_eq]
    have e : u2 I f i v f i = v := u2_self
    rcases hf.2 with h | h <;> rw [h] <;> exact congrArg Value.int e
  · have e : u2 I f i v (64 * (f / 64) + a) i = I (64 * (f / 64) + a) i := u2_ne1 (fun z => ha (by have := f_eq (f := f); omega))
    exact fv_congr e rfl rfl
theorem ev_putJ {i f idx : Nat} {v : Int64} (hd : decode M.2.1 pc = .ok (.putfield idx, 3)) (hf : FLj M.1.cls idx f) (ho : PutOk M idx f) (hk : K i = f / 64) (k : Ev X M d (pc + 3) L S (K, I, u2 J f i v, R, A, B, Ln, n, sl) Q) : Ev X M d pc L (lV v :: rV (some i) :: S) (K, I, J, R, A, B, Ln, n, sl) Q := by
  refine ev_put (v := lV v) (G1 := (K, I, u2 J f i v, R, A, B, Ln, n, sl)) hd hf.1 ho hk (by rw [hf.2]; rfl) (by rw [hf.2]; rfl) rfl rfl rfl (fun j hj => ⟨fun _ => rfl, fun g => u2_ne2 hj, fun _ => rfl, rfl, rfl, rfl⟩) (fvs_set hf.1.2.1 ?_ (fun a ha => ?_)) k
  · rw [f_eq, hf.2]
    exact congrArg Value.long (u2_self (g := J) (a := f) (b := i) (v := v))
  · have e : u2 J f i v (64 * (f / 64) + a) i = J (64 * (f / 64) + a) i := u2_ne1 (fun z => ha (by have := f_eq (f := f); omega))
    exact fv_congr rfl e rfl
theorem ev_putR {i f idx : Nat} {r : Option Nat} (hd : decode M.2.1 pc = .ok (.putfield idx, 3)) (hf : FLr M.1.cls idx f) (ho : PutOk M idx f) (hk : K i = f / 64) (k : Ev X M d (pc + 3) L S (K, I, J, u2 R f i r, A, B, Ln, n, sl) Q) : Ev X M d pc L (rV r :: rV (some i) :: S) (K, I, J, R, A, B, Ln, n, sl) Q := by
  refine ev_put (v := rV r) (G1 := (K, I, J, u2 R f i r, A, B, Ln, n, sl)) hd hf.1 ho hk (by rcases hf.2 with ⟨_, h⟩ | ⟨_, h⟩ <;> rw [h] <;> cases r <;> rfl) (by rcases hf.2 with ⟨_, h⟩ | ⟨_, h⟩ <;> rw [h] <;> cases r <;> rfl) rfl rfl rfl (fun j hj => ⟨fun _ => rfl, fun _ => rfl, fun g => u2_ne2 hj, rfl, rfl, rfl⟩) (fvs_set hf.1.2.1 ?_ (fun a ha => ?_)) k
  · have e : u2 R f i r f i = r := u2_self
    rw [f_eq]
    rcases hf.2 with ⟨_, h⟩ | ⟨_, h⟩ <;> rw [h] <;> exact congrArg (fun z : Option Nat => va_rf (z.map (cx_ad X))) e
  · have e : u2 R f i r (64 * (f / 64) + a) i = R (64 * (f / 64) + a) i := u2_ne1 (fun z => ha (by have := f_eq (f := f); omega))
    exact fv_congr rfl rfl e
end PUTT
end
section
section ARR
variable {X : CX} {M : MD} {d pc : Nat} {L : List (Option LV)} {S : List LV} {Q : Option LV → GH → Prop} {K : Nat → Nat} {I : Nat → Nat → Int32} {J : Nat → Nat → Int64} {R : Nat → Nat → Option Nat} {A : Nat → Nat → Int32} {B : Nat → Nat → Option Nat} {Ln : Nat → Nat} {n sl : Nat}
theorem cellE_ia {i q : Nat} {G : GH} (hk : G.1 i = 100 + q) (hq : q < 2) : cellE X G i = .inl (X.2.2.1 q, G.2.2.2.2.2.2.1 i, .inl (G.2.2.2.2.1 i)) := by
  unfold cellE
  rw [hk, if_neg (by omega), if_pos (by omega), Nat.add_sub_cancel_left]
theorem cellE_ra {i q : Nat} {G : GH} (hk : G.1 i = 100 + q) (hq : 2 ≤ q) : cellE X G i = .inl (X.2.2.1 q, G.2.2.2.2.2.2.1 i, .inr (.inr (.inr (.inr (fun j => (G.2.2.2.2.2.1 i j).map (cx_ad X)))))) := by
  unfold cellE
  rw [hk, if_neg (by omega), if_neg (by omega), Nat.add_sub_cancel_left]
theorem ev_iald {i j m : Nat} (hd : decode M.2.1 pc = .ok (.iaload, 1)) (hk : K i = 100) (hm : Ln i = m) (hb : m < 2147483648) (hj : j < m) (k : Ev X M d (pc + 1) L (iV (A i j) :: S) (K, I, J, R, A, B, Ln, n, sl) Q) : Ev X M d pc L (iV (nI j) :: rV (some i) :: S) (K, I, J, R, A, B, Ln, n, sl) Q := by
  have hvp : vp_in (nI j) (Ln i) := by rw [hm]; exact vp_in_nI hj hb
  refine Ev.rd ?_ k
  intro p e R s m args below meth c C H locs cells slots ls Z hR hS hl kk
  have hP := hR.P (i := i) (by show K i < 900; rw [hk]; omega)
  rw [cellE_ia (q := 0) hk (by omega)] at hP
  refine va_iald C.1 C.2.1 C.2.2.2.2.2.2.2.2.1.1 hP 0 0 rfl rfl hvp hd ?_
  rw [nI_clamp (by omega)]
  exact kk
theorem ev_zald {i j m : Nat} (hd : decode M.2.1 pc = .ok (.baload, 1)) (hk : K i = 101) (hm : Ln i = m) (hb : m < 2147483648) (hj : j < m) (k : Ev X M d (pc + 1) L (iV (A i j) :: S) (K, I, J, R, A, B, Ln, n, sl) Q) : Ev X M d pc L (iV (nI j) :: rV (some i) :: S) (K, I, J, R, A, B, Ln, n, sl) Q := by
  have hvp : vp_in (nI j) (Ln i) := by rw [hm]; exact vp_in_nI hj hb
  refine Ev.rd ?_ k
  intro p e R s m args below meth c C H locs cells slots ls Z hR hS hl kk
  have hP := hR.P (i := i) (by show K i < 900; rw [hk]; omega)
  rw [cellE_ia (q := 1) hk (by omega)] at hP
  refine va_zald C.1 C.2.1 C.2.2.2.2.2.2.2.2.1.1 hP 0 1 rfl rfl hvp hd ?_
  rw [nI_clamp (by omega)]
  exact kk
/-- the component class of an array kind: its name -/
def acn : Nat → String
  | 2 => RX1 | 3 => RX7 | 4 => RX3 | 5 => RX0 | _ => "java/lang/Object"
theorem cx_ty_at : ∀ q, 2 ≤ q → q < 7 → (cx_ty X)[q]? = some (X.2.2.1 q, .object (acn q))
  | 2, _, _ => rfl | 3, _, _ => rfl | 4, _, _ => rfl | 5, _, _ => rfl | 6, _, _ => rfl
  | 0, h, _ => absurd h (by omega) | 1, h, _ => absurd h (by omega) | n + 7, _, h => absurd h (by omega)
theorem ev_aald {i j m q : Nat} {r : Option Nat} (hd : decode M.2.1 pc = .ok (.aaload, 1)) (hk : K i = 100 + q) (h2 : 2 ≤ q) (h7 : q < 7) (hm : Ln i = m) (hb : m < 2147483648) (hj : j < m) (hr : B i j = r) (k : Ev X M d (pc + 1) L (rV r :: S) (K, I, J, R, A, B, Ln, n, sl) Q) : Ev X M d pc L (iV (nI j) :: rV (some i) :: S) (K, I, J, R, A, B, Ln, n, sl) Q := by
  subst hr
  have hvp : vp_in (nI j) (Ln i) := by rw [hm]; exact vp_in_nI hj hb
  refine Ev.rd ?_ k
  intro p e R s m args below meth c C H locs cells slots ls Z hR hS hl kk
  have hP := hR.P (i := i) (by show K i < 900; rw [hk]; omega)
  rw [cellE_ra (q := q) hk h2] at hP
  refine va_aldq C.1 C.2.1 C.2.2.2.2.2.2.2.2.1.1 hP 0 q rfl (cx_ty_at q h2 h7) hvp hd ?_
  rw [nI_clamp (by omega)]
  exact kk
theorem ev_alen {i q m : Nat} (hd : decode M.2.1 pc = .ok (.arraylength, 1)) (hk : K i = 100 + q) (h7 : q < 7) (hm : Ln i = m) (k : Ev X M d (pc + 1) L (iV (nI m) :: S) (K, I, J, R, A, B, Ln, n, sl) Q) : Ev X M d pc L (rV (some i) :: S) (K, I, J, R, A, B, Ln, n, sl) Q := by
  subst hm
  refine Ev.rd ?_ k
  intro p e R s m args below meth c C H locs cells slots ls Z hR hS hl kk
  have hP := hR.P (i := i) (by show K i < 900; rw [hk]; omega)
  by_cases h2 : 2 ≤ q
  · rw [cellE_ra (q := q) hk h2] at hP
    exact va_alen C.1 C.2.1 C.2.2.2.2.2.2.2.2.1.1 hP 0 q rfl (cx_ty_at q h2 h7) rfl hd kk
  · rw [cellE_ia (q := q) hk (by omega)] at hP
    rcases (show q = 0 ∨ q = 1 by omega) with rfl | rfl
    · exact va_alen C.1 C.2.1 C.2.2.2.2.2.2.2.2.1.1 hP 0 0 rfl (ty := .int) rfl rfl hd kk
    · exact va_alen C.1 C.2.1 C.2.2.2.2.2.2.2.2.1.1 hP 0 1 rfl (ty := .boolean) rfl rfl hd kk
theorem u2_row {α : Type} {g : Nat → Nat → α} {a b : Nat} {v : α} : u2 g a b v a = va_up (g a) b v := by
  funext j
  unfold u2 va_up
  by_cases h : j = b <;> simp [h]
theorem u2_row' {α : Type} {g : Nat → Nat → α} {a b c : Nat} {v : α} (h : c ≠ a) : u2 g a b v c = g c := by
  funext j
  exact u2_ne1 h
theorem arrV_st {cI : ClassId} {N k : Nat} {α : Type} {g : Nat → α} {F : α → Value} {x : α} : (arrV cI N (fun j => F (g j))).setSlot k (F x) = arrV cI N (fun j => F (va_up g k x j)) := by
  rw [arrV_store]
  congr 1
  funext j
  unfold updV va_up
  by_cases h : j = k <;> simp [h]
theorem ev_iast {i j m : Nat} {v : Int32} (hd : decode M.2.1 pc = .ok (.iastore, 1)) (hk : K i = 100) (hm : Ln i = m) (hb : m < 2147483648) (hj : j < m) (k : Ev X M d (pc + 1) L S (K, I, J, R, u2 A i j v, B, Ln, n, sl) Q) : Ev X M d pc L (iV v :: iV (nI j) :: rV (some i) :: S) (K, I, J, R, A, B, Ln, n, sl) Q := by
  have hvp : vp_in (nI j) (Ln i) := by rw [hm]; exact vp_in_nI hj hb
  refine Ev.wr (G1 := (K, I, J, R, u2 A i j v, B, Ln, n, sl)) rfl rfl ?_ k
  intro p e R s m args below meth c C H locs cells slots ls Z hR hS hl kk
  have h9 : K i < 900 := by rw [hk]; omega
  have hP := (hR.2.1 i h9).2.2
  rw [cellE_ia (q := 0) hk (by omega)] at hP
  refine W.iast C.1 C.2.1 (j := nI j) hP ((C.2.2.2.2.2.2.2.2.1.1.2 0 _ rfl).1 _ _) (fun q => by cases q) (by show ¬ (nI j < 0 ∨ (arrV _ _ _).slots.size ≤ _); rw [arrV_size]; exact hvp) rfl rfl hd fun H1 e1 z1 o1 => ?_
  refine kk H1 _ (hR.upd rfl rfl h9 z1 o1 (fun j' hj' => ⟨fun _ => rfl, fun _ => rfl, fun _ => rfl, u2_row' hj', rfl, rfl⟩) ?_) (hS.put z1 o1 (hR.base h9))
  rw [cellE_ia (q := 0) hk (by omega)]
  show H1[cx_ad X i]? = some (vp_cell _ (_, .inl (u2 A i j v i)))
  rw [e1, nI_clamp (by omega), u2_row]
  exact congrArg some (arrV_st (F := Value.int))
theorem ev_zast {i j m : Nat} {v : Int32} (hd : decode M.2.1 pc = .ok (.bastore, 1)) (hk : K i = 101) (hm : Ln i = m) (hb : m < 2147483648) (hj : j < m) (hv : v = 0 ∨ v = 1) (k : Ev X M d (pc + 1) L S (K, I, J, R, u2 A i j v, B, Ln, n, sl) Q) : Ev X M d pc L (iV v :: iV (nI j) :: rV (some i) :: S) (K, I, J, R, A, B, Ln, n, sl) Q := by
  have hvp : vp_in (nI j) (Ln i) := by rw [hm]; exact vp_in_nI hj hb
  refine Ev.wr (G1 := (K, I, J, R, u2 A i j v, B, Ln, n, sl)) rfl rfl ?_ k
  intro p e R s m args below meth c C H locs cells slots ls Z hR hS hl kk
  have h9 : K i < 900 := by rw [hk]; omega
  have hP := (hR.2.1 i h9).2.2
  rw [cellE_ia (q := 1) hk (by omega)] at hP
  refine W.zast C.1 C.2.1 (j := nI j) hP ((C.2.2.2.2.2.2.2.2.1.1.2 1 _ rfl).1 _ _) (fun q => by cases q) (by show ¬ (nI j < 0 ∨ (arrV _ _ _).slots.size ≤ _); rw [arrV_size]; exact hvp) rfl rfl hd fun H1 e1 z1 o1 => ?_
  refine kk H1 _ (hR.upd rfl rfl h9 z1 o1 (fun j' hj' => ⟨fun _ => rfl, fun _ => rfl, fun _ => rfl, u2_row' hj', rfl, rfl⟩) ?_) (hS.put z1 o1 (hR.base h9))
  rw [cellE_ia (q := 1) hk (by omega)]
  show H1[cx_ad X i]? = some (vp_cell _ (_, .inl (u2 A i j v i)))
  have hnv : narrow .boolean (.int v) = .int v := by rcases hv with rfl | rfl <;> rfl
  rw [e1, nI_clamp (by omega), u2_row, hnv]
  exact congrArg some (arrV_st (F := Value.int))
theorem ev_aastN {i j m q : Nat} (hd : decode M.2.1 pc = .ok (.aastore, 1)) (hk : K i = 100 + q) (h2 : 2 ≤ q) (h7 : q < 7) (hm : Ln i = m) (hb : m < 2147483648) (hj : j < m) (k : Ev X M d (pc + 1) L S (K, I, J, R, A, u2 B i j none, Ln, n, sl) Q) : Ev X M d pc L (rV none :: iV (nI j) :: rV (some i) :: S) (K, I, J, R, A, B, Ln, n, sl) Q := by
  have hvp : vp_in (nI j) (Ln i) := by rw [hm]; exact vp_in_nI hj hb
  refine Ev.wr (G1 := (K, I, J, R, A, u2 B i j none, Ln, n, sl)) rfl rfl ?_ k
  intro p e R s m args below meth c C H locs cells slots ls Z hR hS hl kk
  have h9 : K i < 900 := by rw [hk]; omega
  have hP := (hR.2.1 i h9).2.2
  rw [cellE_ra (q := q) hk h2] at hP
  refine va_WaastN C.1 C.2.1 (j := nI j) hP ((C.2.2.2.2.2.2.2.2.1.1.2 q _ (cx_ty_at q h2 h7)).1 _ _) (fun q => by cases q) (by show ¬ (nI j < 0 ∨ (arrV _ _ _).slots.size ≤ _); rw [arrV_size]; exact hvp) rfl rfl hd fun H1 e1 z1 o1 => ?_
  refine kk H1 _ (hR.upd rfl rfl h9 z1 o1 (fun j' hj' => ⟨fun _ => rfl, fun _ => rfl, fun _ => rfl, rfl, u2_row' hj', rfl⟩) ?_) (hS.put z1 o1 (hR.base h9))
  rw [cellE_ra (q := q) hk h2]
  show H1[cx_ad X i]? = some (vp_cell _ (_, .inr (.inr (.inr (.inr (fun j' => (u2 B i j none i j').map (cx_ad X)))))))
  rw [e1, nI_clamp (by omega), u2_row]
  exact congrArg some (arrV_st (F := fun z : Option Nat => va_rf (z.map (cx_ad X))) (x := none))
theorem ev_aast {i j m q v cv : Nat} (hd : decode M.2.1 pc = .ok (.aastore, 1)) (hk : K i = 100 + q) (h2 : 2 ≤ q) (h7 : q < 7) (hm : Ln i = m) (hb : m < 2147483648) (hj : j < m) (hv : K v = cv) (hcv : cv < 11) (hq : gRn cv = acn q ∨ (cv = 5 ∧ q = 6)) (k : Ev X M d (pc + 1) L S (K, I, J, R, A, u2 B i j (some v), Ln, n, sl) Q) : Ev X M d pc L (rV (some v) :: iV (nI j) :: rV (some i) :: S) (K, I, J, R, A, B, Ln, n, sl) Q := by
  have hvp : vp_in (nI j) (Ln i) := by rw [hm]; exact vp_in_nI hj hb
  refine Ev.wr (G1 := (K, I, J, R, A, u2 B i j (some v), Ln, n, sl)) rfl rfl ?_ k
  intro p e R s m args below meth c C H locs cells slots ls Z hR hS hl kk
  have h9 : K i < 900 := by rw [hk]; omega
  have hP := (hR.2.1 i h9).2.2
  rw [cellE_ra (q := q) hk h2] at hP
  have h9v : K v < 900 := by rw [hv]; omega
  have hPv := (hR.2.1 v h9v).2.2
  rw [cellE_obj hv hcv] at hPv
  obtain ⟨r', hr', cellV, g1, g2, g3, -⟩ := hPv
  have hK := C.2.2.2.2.2.2.2.2.1
  have hcls := (hK.1.1 cv _ (gcl_at cv hcv)).2
  obtain ⟨kA, comp, k1, k2, k3, -⟩ := (hK.1.2 q _ (cx_ty_at q h2 h7)).2
  obtain ⟨kC, hkC, -⟩ := hcls.2
  have hasg : s.vm.assignable (X.2.1.1 cv) comp = true := by
    rcases hq with hq | ⟨rfl, rfl⟩
    · rw [← hq] at k3
      have hcomp : comp = X.2.1.1 cv := Option.some.inj (k3.symm.trans hcls.1)
      rw [hcomp]
      exact va_assign hcls
    · exact vb_asgC hK.2.2.2.1 comp _ k3 hcls.1
  obtain ⟨kE, hkE, -⟩ := Vm.findClass_spec k3
  refine W.aast C.1 C.2.1 (j := nI j) hP (fun q h => by cases h) (fun h => by cases h) k1 k2 rfl hkE ⟨nI_pos (by omega), by show _ < (arrV _ _ _).slots.size; rw [arrV_size, nI_clamp (by omega)]; show j < Ln i; omega⟩ g1 (fun q h => by rw [g3] at h; cases h) (by rw [g2]; exact hkC) (by rw [g2]; exact hasg) rfl rfl hd fun H1 e1 z1 o1 => ?_
  refine kk H1 _ (hR.upd rfl rfl h9 z1 o1 (fun j' hj' => ⟨fun _ => rfl, fun _ => rfl, fun _ => rfl, rfl, u2_row' hj', rfl⟩) ?_) (hS.put z1 o1 (hR.base h9))
  rw [cellE_ra (q := q) hk h2]
  show H1[cx_ad X i]? = some (vp_cell _ (_, .inr (.inr (.inr (.inr (fun j' => (u2 B i j (some v) i j').map (cx_ad X)))))))
  rw [e1, nI_clamp (by omega), u2_row]
  exact congrArg some (arrV_st (F := fun z : Option Nat => va_rf (z.map (cx_ad X))) (x := some v))
end ARR
end
section
def NewL (own : String) (idx q : Nat) : Prop := Cond.classLink own idx (gRn q) ∈ lw_g ∧ Cond.instantiable (gRn q) (gnf q) ∈ lw_g ∧ Cond.initialized (gRn q) ∈ lw_g ∧ q < 11
theorem acI_in : Cond.arrayClass (newarray.typeOf .int) ∈ lw_g := lw_g_in (t1_in (List.mem_of_getElem? (i := 124) (by decide +kernel))) rfl
theorem acZ_in : Cond.arrayClass (newarray.typeOf .boolean) ∈ lw_g := lw_g_in (t1_in (List.mem_of_getElem? (i := 225) (by decide +kernel))) rfl
section ALLOC
variable {X : CX} {M : MD} {d pc : Nat} {L : List (Option LV)} {S : List LV} {Q : Option LV → GH → Prop} {K : Nat → Nat} {I : Nat → Nat → Int32} {J : Nat → Nat → Int64} {R : Nat → Nat → Option Nat} {A : Nat → Nat → Int32} {B : Nat → Nat → Option Nat} {Ln : Nat → Nat} {n sl : Nat}
theorem Rel.push {H H1 : Heap} {q N : Nat} {Ln1 : Nat → Nat} (hR : Rel X (K, I, J, R, A, B, Ln, n, sl) H) (hz : H1.size = H.size + 1) (ho : ∀ z : Nat, z < H.size → H1[z]? = H[z]?) (hq : q < 900) (hL : ∀ j, j ≠ n → Ln1 j = Ln j) (h1 : va_at X.2.1 gcl (cx_ad X n, cellE X (va_up K n q, I, J, R, A, B, Ln1, n + 1, sl + N) n) H1) : Rel X (va_up K n q, I, J, R, A, B, Ln1, n + 1, sl + N) H1 := by
  obtain ⟨⟨r1, r2⟩, r3, r4⟩ := hR
  refine ⟨⟨?_, ?_⟩, fun j hj => ?_, fun j hj => ?_⟩
  · show n + 1 + cx_b X = H1.size + 3
    have : n + cx_b X = H.size + 3 := r1
    omega
  · show 3 ≤ n + 1
    have : 3 ≤ n := r2
    omega
  · by_cases e : j = n
    · subst e
      exact ⟨r2, Nat.lt_succ_self _, h1⟩
    · have hj' : K j < 900 := by
        have : va_up K n q j < 900 := hj
        rwa [va_up_ne _ _ e] at this
      obtain ⟨a1, a2, a3⟩ := r3 j hj'
      refine ⟨a1, Nat.lt_succ_of_lt a2, ?_⟩
      rw [cellE_same (j := j) (G1 := (va_up K n q, I, J, R, A, B, Ln1, n + 1, sl + N)) (G := (K, I, J, R, A, B, Ln, n, sl)) (va_up_ne _ _ e) ⟨fun _ => rfl, fun _ => rfl, fun _ => rfl, rfl, rfl, hL j e⟩]
      exact a3.kept (ho _ a3.lt)
  · have hj' : n + 1 ≤ j := hj
    have e : j ≠ n := by omega
    exact Fresh.same (G1 := (va_up K n q, I, J, R, A, B, Ln1, n + 1, sl + N)) (G := (K, I, J, R, A, B, Ln, n, sl)) (va_up_ne _ _ e) ⟨fun _ => rfl, fun _ => rfl, fun _ => rfl, rfl, rfl, hL j e⟩ (r4 j (show n ≤ j by omega))
theorem Rel.top {H : Heap} (hR : Rel X (K, I, J, R, A, B, Ln, n, sl) H) : cx_ad X n = H.size := by
  have h1 : n + cx_b X = H.size + 3 := hR.1.1
  have h2 : 3 ≤ n := hR.1.2
  rw [cx_ad3 h2]
  omega
theorem va_S.grow {P : Nat → Prop} {H0 H H1 : Heap} {locs : List Loc} (h : va_S P H0 H locs) (hz : H1.size = H.size + 1) (ho : ∀ z : Nat, z < H.size → H1[z]? = H[z]?) : va_S P H0 H1 locs :=
  ⟨Nat.le_trans h.1 (by omega), fun z h1 h2 => (ho z (Nat.lt_of_lt_of_le h1 h.1)).trans (h.2.1 z h1 h2), h.2.2⟩
theorem gty_def : ∀ q, q < 11 → ∀ k, k < gnf q → (gty q k = .int ∨ gty q k = .boolean ∨ gty q k = .long ∨ (∃ c, gty q k = .object c) ∨ ∃ t, gty q k = .array t) := by
  intro q hq k hk
  have key : ∀ t : FieldType, (match t with | .int => true | .boolean => true | .long => true | .object _ => true | .array _ => true | _ => false) = true → (t = .int ∨ t = .boolean ∨ t = .long ∨ (∃ c, t = .object c) ∨ ∃ t', t = .array t') := by
    intro t h
    cases t <;> simp at h ⊢
  apply key
  have all : ∀ q, q < 11 → ∀ k, k < gnf q → (match gty q k with | .int => true | .boolean => true | .long => true | .object _ => true | .array _ => true | _ => false) = true := by decide +kernel
  exact all q hq k hk
theorem ev_new {idx q : Nat} (hd : decode M.2.1 pc = .ok (.new idx, 3)) (hl : NewL M.1.cls idx q) (k : Ev X M d (pc + 3) L (rV (some n) :: S) (va_up K n q, I, J, R, A, B, Ln, n + 1, sl + gnf q) Q) : Ev X M d pc L S (K, I, J, R, A, B, Ln, n, sl) Q := by
  refine Ev.al (N := gnf q) (G1 := (va_up K n q, I, J, R, A, B, Ln, n + 1, sl + gnf q)) rfl rfl ?_ k
  intro p e R' s m args below meth c C H locs cells slots ls Z hR hS hl' hc1 hc2 kk
  obtain ⟨hx, hb, hr, hml, hown, hts, hlk, hin, hK, -⟩ := C
  obtain ⟨h1, h2, h3, hq⟩ := hl
  have hKn := hK.1.1 q _ (gcl_at q hq)
  refine W.newcK hx hb hown (hts _ h1) (hts _ h2) (hts _ h3) rfl hd hc1 hc2 hKn.2.1 rfl fun H1 kC hkC e1 z1 o1 => ?_
  have hk1 : (va_up K n q) n = q := va_up_self _ _ _
  have hfr := hR.2.2 n (Nat.le_refl _)
  have hRel : Rel X (va_up K n q, I, J, R, A, B, Ln, n + 1, sl + gnf q) H1 := by
    refine hR.push z1 o1 (by omega) (fun _ _ => rfl) ?_
    rw [cellE_obj hk1 hq]
    refine ⟨_, gcl_at q hq, ?_⟩
    have hb2 := (u_born (gty q) hts (gin q hq) hKn hkC e1 (gty_ok q hq))
    rw [hR.top]
    refine hb2.to (fun j hj => ?_)
    show defaultValue (gty q j) = (fvs X (va_up K n q, I, J, R, A, B, Ln, n + 1, sl + gnf q) q n).getD j .null
    rw [List.getD_eq_getElem?_getD, fvs_at hj]
    obtain ⟨f1, f2, f3, -⟩ := hfr
    have g1 : I (64 * q + j) n = 0 := f1 _
    have g2 : J (64 * q + j) n = 0 := f2 _
    have g3 : R (64 * q + j) n = none := f3 _
    rcases gty_def q hq j hj with h | h | h | ⟨_, h⟩ | ⟨_, h⟩ <;> rw [h]
    · show Value.int 0 = Value.int (I (64 * q + j) n)
      rw [g1]
    · show Value.int 0 = Value.int (I (64 * q + j) n)
      rw [g1]
    · show Value.long 0 = Value.long (J (64 * q + j) n)
      rw [g2]
    · show Value.null = va_rf ((R (64 * q + j) n).map (cx_ad X))
      rw [g3]; rfl
    · show Value.null = va_rf ((R (64 * q + j) n).map (cx_ad X))
      rw [g3]; rfl
  have hk := kk H1 hRel (hS.grow z1 o1)
  have et : cx_v X (rV (some n)) = .ref H.size := by
    show Value.ref (cx_ad X n) = _
    rw [hR.top]
  simp only [List.map_cons, et] at hk
  exact hk
theorem ev_newI {j : Nat} (hd : decode M.2.1 pc = .ok (.newarray .int, 2)) (hj : j ≤ 65536) (k : Ev X M d (pc + 2) L (rV (some n) :: S) (va_up K n 100, I, J, R, A, B, va_up Ln n j, n + 1, sl + j) Q) : Ev X M d pc L (iV (nI j) :: S) (K, I, J, R, A, B, Ln, n, sl) Q := by
  refine Ev.al (N := j) (G1 := (va_up K n 100, I, J, R, A, B, va_up Ln n j, n + 1, sl + j)) rfl rfl ?_ k
  intro p e R' s m args below meth c C H locs cells slots ls Z hR hS hl' hc1 hc2 kk
  obtain ⟨hx, hb, hr, hml, hown, hts, hlk, hin, hK, -⟩ := C
  refine va_newaK hx hb (hts _ acI_in) rfl hd rfl (nI_pos (by omega)) (nI_clamp (by omega)) (by show j * 4 ≤ _; omega) hc1 hc2 rfl fun H1 cA e1 z1 o1 hAr hNm => ?_
  have hcA : cA = X.2.2.1 0 := Option.some.inj (hNm.symm.trans (hK.1.2 0 _ rfl).2)
  have hk1 : (va_up K n 100) n = 100 + 0 := va_up_self _ _ _
  obtain ⟨-, -, -, f4, -, -⟩ := hR.2.2 n (Nat.le_refl _)
  have hRel : Rel X (va_up K n 100, I, J, R, A, B, va_up Ln n j, n + 1, sl + j) H1 := by
    refine hR.push z1 o1 (by omega) (fun _ h => va_up_ne _ _ h) ?_
    rw [cellE_ia (q := 0) hk1 (by omega), hR.top]
    show H1[H.size]? = some (arrV _ (va_up Ln n j n) (fun t => .int (A n t)))
    rw [e1, hcA, va_up_self]
    exact congrArg (fun g => some (arrV (X.2.2.1 0) j g)) (funext fun t => by
      have : A n t = 0 := f4 t
      rw [this]; rfl)
  have hk := kk H1 hRel (hS.grow z1 o1)
  have et : cx_v X (rV (some n)) = .ref H.size := by
    show Value.ref (cx_ad X n) = _
    rw [hR.top]
  simp only [List.map_cons, et] at hk
  exact hk
theorem ev_newZ {j : Nat} (hd : decode M.2.1 pc = .ok (.newarray .boolean, 2)) (hj : j ≤ 65536) (k : Ev X M d (pc + 2) L (rV (some n) :: S) (va_up K n 101, I, J, R, A, B, va_up Ln n j, n + 1, sl + j) Q) : Ev X M d pc L (iV (nI j) :: S) (K, I, J, R, A, B, Ln, n, sl) Q := by
  refine Ev.al (N := j) (G1 := (va_up K n 101, I, J, R, A, B, va_up Ln n j, n + 1, sl + j)) rfl rfl ?_ k
  intro p e R' s m args below meth c C H locs cells slots ls Z hR hS hl' hc1 hc2 kk
  obtain ⟨hx, hb, hr, hml, hown, hts, hlk, hin, hK, -⟩ := C
  refine va_newaK hx hb (hts _ acZ_in) rfl hd rfl (nI_pos (by omega)) (nI_clamp (by omega)) (by show j * 1 ≤ _; omega) hc1 hc2 rfl fun H1 cA e1 z1 o1 hAr hNm => ?_
  have hcA : cA = X.2.2.1 1 := Option.some.inj (hNm.symm.trans (hK.1.2 1 _ rfl).2)
  have hk1 : (va_up K n 101) n = 100 + 1 := va_up_self _ _ _
  obtain ⟨-, -, -, f4, -, -⟩ := hR.2.2 n (Nat.le_refl _)
  have hRel : Rel X (va_up K n 101, I, J, R, A, B, va_up Ln n j, n + 1, sl + j) H1 := by
    refine hR.push z1 o1 (by omega) (fun _ h => va_up_ne _ _ h) ?_
    rw [cellE_ia (q := 1) hk1 (by omega), hR.top]
    show H1[H.size]? = some (arrV _ (va_up Ln n j n) (fun t => .int (A n t)))
    rw [e1, hcA, va_up_self]
    exact congrArg (fun g => some (arrV (X.2.2.1 1) j g)) (funext fun t => by
      have : A n t = 0 := f4 t
      rw [this]; rfl)
  have hk := kk H1 hRel (hS.grow z1 o1)
  have et : cx_v X (rV (some n)) = .ref H.size := by
    show Value.ref (cx_ad X n) = _
    rw [hR.top]
  simp only [List.map_cons, et] at hk
  exact hk
theorem AOs.at {U : State} (h : AOs U) : ∀ q, 2 ≤ q → q < 7 → va_AO (acn q) U
  | 2, _, _ => h.1 | 3, _, _ => h.2.1 | 4, _, _ => h.2.2.1 | 5, _, _ => h.2.2.2.1 | 6, _, _ => h.2.2.2.2
  | 0, h, _ => absurd h (by omega) | 1, h, _ => absurd h (by omega) | n + 7, _, h => absurd h (by omega)
theorem ev_newR {j q idx : Nat} (hd : decode M.2.1 pc = .ok (.anewarray idx, 3)) (hl : Cond.classLink M.1.cls idx (acn q) ∈ lw_g) (h2 : 2 ≤ q) (h7 : q < 7) (hj : j ≤ 65536) (k : Ev X M d (pc + 3) L (rV (some n) :: S) (va_up K n (100 + q), I, J, R, A, B, va_up Ln n j, n + 1, sl + j) Q) : Ev X M d pc L (iV (nI j) :: S) (K, I, J, R, A, B, Ln, n, sl) Q := by
  refine Ev.al (N := j) (G1 := (va_up K n (100 + q), I, J, R, A, B, va_up Ln n j, n + 1, sl + j)) rfl rfl ?_ k
  intro p e R' s m args below meth c C H locs cells slots ls Z hR hS hl' hc1 hc2 kk
  obtain ⟨hx, hb, hr, hml, hown, hts, hlk, hin, hK, -⟩ := C
  have hcl : (nI j).toNatClampNeg = j := nI_clamp (by omega)
  refine W.anew hx hb hown (hts _ hl) (va_AO.use (hK.2.2.1.at q h2 h7)) rfl hd rfl (nI_pos (by omega)) (by rw [hcl]; omega) hc1 (by rw [hcl]; exact hc2) fun cA kA comp f1 f2 f3 f4 => ?_
  rw [hcl]
  have hcA : cA = X.2.2.1 q := by
    obtain ⟨_, _, _, _, _, h9⟩ := (hK.1.2 q _ (cx_ty_at q h2 h7)).2
    exact Option.some.inj (f1.symm.trans h9)
  generalize hH1 : H.push ({ cls := cA, slots := Array.replicate j .null, vm := .none } : Cell) = H1
  have z1 : H1.size = H.size + 1 := by rw [← hH1, Array.size_push]
  have e1 : H1[H.size]? = some (arrV cA j (fun _ => .null)) := by rw [← hH1, Array.getElem?_push_size, ← arrV_new]
  have o1 : ∀ z : Nat, z < H.size → H1[z]? = H[z]? := fun z hz => by rw [← hH1, Array.getElem?_push, if_neg (Nat.ne_of_lt hz)]
  have hk1 : (va_up K n (100 + q)) n = 100 + q := va_up_self _ _ _
  obtain ⟨-, -, -, -, f5, -⟩ := hR.2.2 n (Nat.le_refl _)
  have hRel : Rel X (va_up K n (100 + q), I, J, R, A, B, va_up Ln n j, n + 1, sl + j) H1 := by
    refine hR.push z1 o1 (by omega) (fun _ h => va_up_ne _ _ h) ?_
    rw [cellE_ra (q := q) hk1 h2, hR.top]
    show H1[H.size]? = some (arrV _ (va_up Ln n j n) (fun t => va_rf ((B n t).map (cx_ad X))))
    rw [e1, hcA, va_up_self]
    exact congrArg (fun g => some (arrV (X.2.2.1 q) j g)) (funext fun t => by
      have : B n t = none := f5 t
      rw [this]; rfl)
  have hk := kk H1 hRel (hS.grow z1 o1)
  have et : cx_v X (rV (some n)) = .ref H.size := by
    show Value.ref (cx_ad X n) = _
    rw [hR.top]
  simp only [List.map_cons, et] at hk
  exact hk
end ALLOC
end
section
/-- the arguments as they lie in the locals; a long takes two places -/
def entL : List LV → List (Option LV)
  | [] => []
  | .inr (.inl x) :: r => some (lV x) :: none :: entL r
  | v :: r => some v :: entL r
def entP (As : List LV) (nL : Nat) : List (Option LV) := entL As ++ List.replicate (nL - (entL As).length) none
def EvM (X : CX) (M : MD) (d : Nat) (As : List LV) (G : GH) (Q : Option LV → GH → Prop) : Prop := Ev X M d 0 (entP As M.2.2.1) [] G Q
def MOk (M : MD) (n : Nat) : Prop := plainName M.1.cls = true ∧ Cond.code M.1 M.2.1 M.2.2.1 M.2.2.2.1 ∈ lw_g ∧ Cond.initialized M.1.cls ∈ lw_g ∧ (M.1.cls ≠ "java/lang/invoke/MethodHandle" ∧ M.1.cls ≠ "java/lang/invoke/VarHandle" ∧ (parseMethodDescriptor M.1.desc).map (fun d => d.parameters.length) = some n) ∧ M.2.2.1 ≤ 45 ∧ (M.2.2.2.2 = true → M.1.name = "<init>")
def MLk (own : String) (idx : Nat) (y : MethodName) : Prop := Cond.methodLink own idx y ∈ lw_g ∨ ∃ host, Cond.methodLinkNest own idx y host ∈ lw_n
abbrev mws (M : MD) : List Cond := Cond.code M.1 M.2.1 M.2.2.1 M.2.2.2.1 :: lw_g
abbrev mrm (d : Nat) (G G' : GH) : Room := { frames := d, cells := gh_n G' - gh_n G, slots := gh_s G' - gh_s G, locals := 64 * d }
theorem lw_g_good : GoodIn lw_g lw_g := fun w h => ⟨h, good_of_word (List.mem_filter.mp h).2⟩
theorem mws_good {M : MD} {n : Nat} (h : MOk M n) : GoodIn lw_g (mws M) := fun w hw => by
  rcases List.mem_cons.mp hw with rfl | hw
  · exact lw_g_good _ h.2.1
  · exact lw_g_good _ hw
section CALLS
variable {X : CX}
theorem entL_args : ∀ (As : List LV) (k i : Nat) (v : LV), (entL As)[i]? = some (some v) → (k + i, cx_v X v) ∈ lv_args k (As.map (cx_v X))
  | [], _, _, _, h => by simp [entL] at h
  | .inl x :: r, k, i, v, h => by
    cases i with
    | zero =>
      simp [entL] at h
      subst h
      exact List.mem_cons_self
    | succ j =>
      have h' : (entL r)[j]? = some (some v) := by simpa [entL] using h
      have := entL_args r (k + 1) j v h'
      rw [show k + 1 + j = k + (j + 1) by omega] at this
      exact List.mem_cons_of_mem _ this
  | .inr (.inl x) :: r, k, i, v, h => by
    match i, h with
    | 0, h =>
      simp [entL] at h
      subst h
      exact List.mem_cons_self
    | 1, h => simp [entL] at h
    | j + 2, h =>
      have h' : (entL r)[j]? = some (some v) := by simpa [entL] using h
      have := entL_args r (k + 2) j v h'
      rw [show k + 2 + j = k + (j + 2) by omega] at this
      exact List.mem_cons_of_mem _ this
  | .inr (.inr q) :: r, k, i, v, h => by
    cases i with
    | zero =>
      simp [entL] at h
      subst h
      cases q <;> exact List.mem_cons_self
    | succ j =>
      have h' : (entL r)[j]? = some (some v) := by simpa [entL] using h
      have := entL_args r (k + 1) j v h'
      rw [show k + 1 + j = k + (j + 1) by omega] at this
      cases q <;> exact List.mem_cons_of_mem _ this
theorem entL_len : ∀ As : List LV, (lg_sl (As.map (cx_v X))).length = (entL As).length
  | [] => rfl
  | .inl x :: r => by
    have := entL_len r
    simpa [lg_sl, entL, cx_v, Value.category] using this
  | .inr (.inl x) :: r => by
    have := entL_len r
    simpa [lg_sl, entL, cx_v, Value.category] using this
  | .inr (.inr none) :: r => by
    have := entL_len r
    simpa [lg_sl, entL, cx_v, Value.category, va_rf] using this
  | .inr (.inr (some y)) :: r => by
    have := entL_len r
    simpa [lg_sl, entL, cx_v, Value.category, va_rf] using this
theorem entP_ok {As : List LV} {nL : Nat} {ls : Array Slot} (h : lv_has ls nL (lv_args 0 (As.map (cx_v X)))) : lvOK X ls nL (entP As nL) := by
  refine ⟨h.1, h.2.1, fun i v hi => ?_⟩
  unfold entP at hi
  by_cases hl : i < (entL As).length
  · rw [List.getElem?_append_left hl] at hi
    have := entL_args (X := X) As 0 i v hi
    rw [Nat.zero_add] at this
    exact h.2.2 _ this
  · rw [List.getElem?_append_right (by omega)] at hi
    have hm := List.mem_of_getElem? hi
    have := List.eq_of_mem_replicate hm
    cases this
end CALLS
end
section
/-- what a method's run leaves: its answer, the heap, nothing old touched -/
def QcX (X : CX) (r : Option LV) (G' : GH) : Array Value → State → Outcome → State → Prop := fun _ st o t => o = .returned (r.map (cx_v X)) ∧ Rel X G' t.heap ∧ va_F (cx_A X) st t
def PcX (X : CX) (As : List LV) (G : GH) : Array Value → State → Prop := va_Pc (As.map (cx_v X)) (fun U => Rel X G U.heap ∧ StOk X U)
section MET
variable {X : CX} {M : MD} {d n : Nat} {As : List LV} {G G' : GH} {r : Option LV}
theorem met_of (hok : MOk M n) (hlen : (entL As).length ≤ M.2.2.1) (h : Sm X M d 0 (entP As M.2.2.1) [] G r G') : Met X.1 M.1 (mws M) (mrm d G G') (PcX X As G) (QcX X r G') (gh_n G' - gh_n G) (gh_s G' - gh_s G) (cx_A X) := by
  refine Met.ofW (cc := M.2.1) (maxL := M.2.2.1) (ret := M.2.2.2.1) hok.1 rfl ?_
  intro p e s m args below meth c s₁ B hml hv
  obtain ⟨rfl, hR, hK⟩ := hv
  have hts := atoms_spec (ws := mws M) B.pre
  have hC : MCx X M d p (headSpec (mws M) (mrm d G G')).room s m (As.map (cx_v X)).toArray meth c :=
    ⟨B.exec, B.bytes, B.returns, hml, findClass_of_methodNamed B.named, fun w hw => hts w (List.mem_cons_of_mem _ hw), B.notSynchronized, fun hi => (name_of_methodNamed B.named B.method).1.trans (hok.2.2.2.2.2 hi), hK, Nat.le_refl _, Nat.le_refl _⟩
  have hl := lv_entry (As.map (cx_v X)) (n := M.2.2.1) (by rw [entL_len]; exact hlen)
  rw [lg_entry_eq]
  generalize (lg_sl (As.map (cx_v X)) ++ List.replicate (M.2.2.1 - (lg_sl (As.map (cx_v X))).length) Slot.unset).toArray = ls at hl ⊢
  refine h p e _ s m _ below meth c hC s.heap [] 0 0 ls _ hR va_S.rf (entP_ok hl) (by rw [Nat.zero_add]; exact Nat.le_refl _) (by rw [Nat.zero_add]; exact Nat.le_refl _) ?_
  intro H' locs' ls' pc' hR' hS' hret
  rw [Nat.zero_add, Nat.zero_add]
  have hr := B.returns
  have hlocks := B.notSynchronized
  have hq : ∀ t : State, t.heap = H' → s.WarmedH t.vm → QcX X r G' (As.map (cx_v X)).toArray s (.returned (r.map (cx_v X))) t := fun t ht _ => ⟨rfl, by rw [ht]; exact hR', hS'.F ht⟩
  rcases hret with ⟨rfl, ht, hd⟩ | ⟨v, rfl, ht, hd⟩ | ⟨v, rfl, ht, hd⟩ | ⟨v, t, rfl, ht, hrt, hd⟩
  · exact W.vret B.exec B.bytes (hr.trans ht) hq hS'.2.2 hd
  · rcases ht with ht | ⟨ht, hv⟩
    · exact W.iret B.exec B.bytes (hr.trans ht) hq hS'.2.2 hd
    · exact W.zret B.exec B.bytes (hr.trans ht) (by rcases hv with rfl | rfl <;> rfl) hq hS'.2.2 hd
  · exact W.lret B.exec B.bytes (hr.trans ht) hq hS'.2.2 hd
  · exact W.aret B.exec B.bytes (hr.trans ht) hrt (by cases v with | none => exact Or.inl rfl | some y => exact Or.inr ⟨_, rfl⟩) hq hS'.2.2 hd
theorem PcX.blind : FrameBlind (PcX X As G) := fun a U g mk q => ⟨q.1, q.2.1, StOk.moved (s := U) (U := U.calling g mk a) (locs := []) (State.WarmedH.refl U) va_S.rf q.2.2⟩
end MET
end
section
def catS (X : CX) (S : List LV) : Nat := (S.map (fun v => (cx_v X v).category)).sum
section CALL
variable {X : CX} {M M' : MD} {d pc n : Nat} {L : List (Option LV)} {S S0 As : List LV} {G G1 : GH} {r : Option LV} {Q Q1 : Option LV → GH → Prop}
theorem Ev.call (h1 : gh_n G ≤ gh_n G1) (h2 : gh_s G ≤ gh_s G1) (hrun : ∀ (p : Program) (e : Env) (R : Room) (s : State) (m : MethodId) (args : Array Value) (below : List Frame) (meth : Method) (c : Code), MCx X M (d + 1) p R s m args meth c →
    ∀ (H : Heap) (locs : List Loc) (cells slots : Nat) (ls : Array Slot), Rel X G H → va_S (cx_A X) s.heap H locs → lvOK X ls M.2.2.1 L → cells + (gh_n G1 - gh_n G) ≤ R.cells → slots + (gh_s G1 - gh_s G) ≤ R.slots →
      ∃ a : Array Value, va_Run p X.1 e R s m args below meth c H locs cells slots (gh_n G1 - gh_n G) (gh_s G1 - gh_s G) (F0 m pc ls (S0.map (cx_v X))) (S.map (cx_v X)) (QcX X r G1 a) (cx_A X))
    (k : Ev X M (d + 1) (pc + 3) L (r.toList ++ S) G1 Q) : Ev X M (d + 1) pc L S0 G Q := by
  obtain ⟨r', G', k1, k2, k3, k4⟩ := k
  refine ⟨r', G', Nat.le_trans h1 k1, Nat.le_trans h2 k2, ?_, k4⟩
  intro p e R s m args below meth c C H locs cells slots ls Z hR hS hl hc hs kk
  have e1 : gh_n G' - gh_n G = (gh_n G1 - gh_n G) + (gh_n G' - gh_n G1) := by omega
  have e2 : gh_s G' - gh_s G = (gh_s G1 - gh_s G) + (gh_s G' - gh_s G1) := by omega
  rw [e1, ← Nat.add_assoc] at hc kk
  rw [e2, ← Nat.add_assoc] at hs kk
  obtain ⟨a, hr⟩ := hrun p e R s m args below meth c C H locs cells slots ls hR hS hl (by omega) (by omega)
  intro T hT hX
  obtain ⟨v, st₀, t, T', L', h0, X', hL, f1, f2, ⟨hv, hR1, hF⟩, st⟩ := hr T hT hX
  have hv : v = r.map (cx_v X) := Outcome.returned.inj hv
  subst hv
  obtain ⟨hz, hk⟩ := hF
  rw [h0] at hz hk
  have hS1 : va_S (cx_A X) s.heap T'.heap (locs ++ L') := ⟨Nat.le_trans hS.1 (by rw [f1]; exact hz), fun q g1 g2 => by rw [f1, hk q (Nat.lt_of_lt_of_le g1 hS.1) g2]; exact hS.2.1 q g1 g2, fun q hq => by
    rcases List.mem_append.mp hq with h | h
    · exact hS.2.2 q h
    · exact hL q h⟩
  have hR1' : Rel X G1 T'.heap := by rw [f1]; exact hR1
  obtain ⟨t2, a1, b1⟩ := k3 p e R s m args below meth c C T'.heap (locs ++ L') _ _ ls Z hR1' hS1 hl hc hs kk T' rfl X'
  refine ⟨t2, st t2 ?_, b1⟩
  have es : (r.toList ++ S).map (cx_v X) = (r.map (cx_v X)).toList ++ S.map (cx_v X) := by cases r <;> simp
  rw [es] at a1
  exact a1
theorem lv_room' {m : MethodId} {ls : Array Slot} {st : List Value} (hW : catS X S ≤ 8) : 2 * (F0 m pc ls st).monitorRoom + ((S.map (cx_v X)).map fun v => v.category).sum ≤ 8 := by
  have e : ((S.map (cx_v X)).map fun v => v.category).sum = catS X S := by unfold catS; rw [List.map_map]; rfl
  exact lv_room (by rw [e]; exact hW)
theorem ev_callS {idx : Nat} (hd : decode M.2.1 pc = .ok (.invokestatic idx, 3)) (hok : MOk M' n) (hst : Cond.static M'.1 ∈ lw_g) (hl : MLk M.1.cls idx M'.1) (As : List LV) (hs : S0 = As.reverse ++ S) (hn : As.length = n) (hlen : (entL As).length ≤ M'.2.2.1) (hW : catS X S ≤ 8)
    (h : EvM X M' d As G Q1) (k : ∀ r G1, Q1 r G1 → Ev X M (d + 1) (pc + 3) L (r.toList ++ S) G1 Q) : Ev X M (d + 1) pc L S0 G Q := by
  obtain ⟨r, G1, h1, h2, h3, h4⟩ := h
  refine Ev.call h1 h2 ?_ (k r G1 h4)
  intro p e R s m args below meth c C H locs cells slots ls hR hS hlv hc1 hc2
  obtain ⟨hx, hb, hr, hml, hown, hts, hlk, hin, hK, hfr, hlo⟩ := C
  have hM := met_of (n := n) hok hlen h3
  have hp : PreS s H (PcX X As G) (As.map (cx_v X)) := ⟨PcX.blind, fun U hU hW' => ⟨rfl, by rw [hU]; exact hR, StOk.moved hW' (by rw [hU]; exact hS) hK⟩⟩
  have hstk : (S0.map (cx_v X)) = (As.map (cx_v X)).reverse ++ S.map (cx_v X) := by rw [hs, List.map_append, List.map_reverse]
  have hRm : d + 1 ≤ R.frames ∧ 8 + (M'.2.2.1 + 11) + 64 * d ≤ R.locals := ⟨hfr, by have := hok.2.2.2.2.1; omega⟩
  refine ⟨(As.map (cx_v X)).toArray, ?_⟩
  rcases hl with hl | ⟨host, hl⟩
  · exact va_runS (As := As.map (cx_v X)) ⟨hx, hb, hml, hown, hts⟩ hM ⟨callB_of n hts (mws_good hok) rfl rfl rfl (hts _ hok.2.2.1) (hts _ hl) hok.2.2.2.1 hRm, hts _ hst⟩ hp rfl (by rw [List.length_map]; exact hn) hlv.1 hstk (lv_room' hW) hd ⟨hc1, hc2⟩
  · exact va_runSN (As := As.map (cx_v X)) ⟨hx, hb, hml, hown, hts⟩ hM ⟨va_cnB n hts (mws_good hok) rfl rfl rfl (hK.2.1 _ hl) (hts _ hok.2.2.1) hok.2.2.2.1 hRm, hts _ hst, trivial⟩ hp rfl (by rw [List.length_map]; exact hn) hlv.1 hstk (lv_room' hW) hd ⟨hc1, hc2⟩
theorem ev_callV {idx i q : Nat} (hd : decode M.2.1 pc = .ok (.invokevirtual idx, 3)) (hok : MOk M' n) (hins : Cond.instanceMethod M'.1 ∈ lw_g) (hsel : Cond.selects M'.1.cls M'.1 M'.1 ∈ lw_g) (hl : MLk M.1.cls idx M'.1) (hk : G.1 i = q) (hq : q < 11) (hcl : gRn q = M'.1.cls) (As : List LV) (hs : S0 = As.reverse ++ rV (some i) :: S) (hn : As.length = n) (hlen : (entL (rV (some i) :: As)).length ≤ M'.2.2.1) (hW : catS X S ≤ 8)
    (h : EvM X M' d (rV (some i) :: As) G Q1) (k : ∀ r G1, Q1 r G1 → Ev X M (d + 1) (pc + 3) L (r.toList ++ S) G1 Q) : Ev X M (d + 1) pc L S0 G Q := by
  obtain ⟨r, G1, h1, h2, h3, h4⟩ := h
  refine Ev.call h1 h2 ?_ (k r G1 h4)
  intro p e R s m args below meth c C H locs cells slots ls hR hS hlv hc1 hc2
  obtain ⟨hx, hb, hr, hml, hown, hts, hlk, hin, hK, hfr, hlo⟩ := C
  have hM := met_of (n := n) hok hlen h3
  have hP := hR.P (i := i) (by rw [hk]; omega)
  rw [cellE_obj hk hq] at hP
  have hrec := va_recv hK.1 hP (gcl_at q hq) (q0 := 0) rfl
  rw [hcl] at hrec
  have hp : PreV s H M'.1.cls (cx_ad X i) (PcX X (rV (some i) :: As) G) (As.map (cx_v X)) := ⟨PcX.blind, hrec, fun U hU hW' => ⟨rfl, by rw [hU]; exact hR, StOk.moved hW' (by rw [hU]; exact hS) hK⟩⟩
  have hstk : (S0.map (cx_v X)) = (As.map (cx_v X)).reverse ++ .ref (cx_ad X i) :: S.map (cx_v X) := by rw [hs, List.map_append, List.map_reverse]; rfl
  have hRm : d + 1 ≤ R.frames ∧ 8 + (M'.2.2.1 + 11) + 64 * d ≤ R.locals := ⟨hfr, by have := hok.2.2.2.2.1; omega⟩
  refine ⟨(Value.ref (cx_ad X i) :: As.map (cx_v X)).toArray, ?_⟩
  rcases hl with hl | ⟨host, hl⟩
  · exact va_runV (As := As.map (cx_v X)) ⟨hx, hb, hml, hown, hts⟩ hM ⟨callB_of n hts (mws_good hok) rfl rfl rfl (hts _ hok.2.2.1) (hts _ hl) hok.2.2.2.1 hRm, hts _ hins, hts _ hsel⟩ hp rfl (by rw [List.length_map]; exact hn) hlv.1 hstk (lv_room' hW) hd ⟨hc1, hc2⟩
  · exact va_runVN (As := As.map (cx_v X)) ⟨hx, hb, hml, hown, hts⟩ hM ⟨va_cnB n hts (mws_good hok) rfl rfl rfl (hK.2.1 _ hl) (hts _ hok.2.2.1) hok.2.2.2.1 hRm, hts _ hins, hts _ hsel⟩ hp rfl (by rw [List.length_map]; exact hn) hlv.1 hstk (lv_room' hW) hd ⟨hc1, hc2⟩
theorem ev_callI {idx i : Nat} (hd : decode M.2.1 pc = .ok (.invokespecial idx, 3)) (hok : MOk M' n) (hins : Cond.instanceMethod M'.1 ∈ lw_g) (hnm : M'.1.name = "<init>") (hret : M'.2.2.2.1 = none) (hl : MLk M.1.cls idx M'.1) (As : List LV) (hs : S0 = As.reverse ++ rV (some i) :: S) (hn : As.length = n) (hlen : (entL (rV (some i) :: As)).length ≤ M'.2.2.1) (hW : catS X S ≤ 8)
    (h : EvM X M' d (rV (some i) :: As) G Q1) (k : ∀ r G1, Q1 r G1 → Ev X M (d + 1) (pc + 3) L (r.toList ++ S) G1 Q) : Ev X M (d + 1) pc L S0 G Q := by
  obtain ⟨r, G1, h1, h2, h3, h4⟩ := h
  refine Ev.call h1 h2 ?_ (k r G1 h4)
  intro p e R s m args below meth c C H locs cells slots ls hR hS hlv hc1 hc2
  obtain ⟨hx, hb, hr, hml, hown, hts, hlk, hin, hK, hfr, hlo⟩ := C
  have hM := met_of (n := n) hok hlen h3
  have hgd := mws_good hok
  have hp : PreS s H (PcX X (rV (some i) :: As) G) (.ref (cx_ad X i) :: As.map (cx_v X)) := ⟨PcX.blind, fun U hU hW' => ⟨rfl, by rw [hU]; exact hR, StOk.moved hW' (by rw [hU]; exact hS) hK⟩⟩
  have hstk : (S0.map (cx_v X)) = (As.map (cx_v X)).reverse ++ .ref (cx_ad X i) :: S.map (cx_v X) := by rw [hs, List.map_append, List.map_reverse]; rfl
  have hRm : d + 1 ≤ R.frames ∧ 8 + (M'.2.2.1 + 11) + 64 * d ≤ R.locals := ⟨hfr, by have := hok.2.2.2.2.1; omega⟩
  refine ⟨(Value.ref (cx_ad X i) :: As.map (cx_v X)).toArray, ?_⟩
  have hw : mws M' = Cond.code M'.1 M'.2.1 M'.2.2.1 none :: lw_g := by rw [← hret]
  rcases hl with hl | ⟨host, hl⟩
  · exact va_runI (As := As.map (cx_v X)) ⟨hx, hb, hml, hown, hts⟩ hM ⟨callB_of n hts hgd hw rfl rfl (hts _ hok.2.2.1) (hts _ hl) hok.2.2.2.1 hRm, hnm, hts _ hins⟩ hp rfl (by rw [List.length_map]; exact hn) hlv.1 hstk (lv_room' hW) hd ⟨hc1, hc2⟩
  · exact va_runIN (As := As.map (cx_v X)) ⟨hx, hb, hml, hown, hts⟩ hM ⟨va_cnB n hts hgd hw rfl rfl (hK.2.1 _ hl) (hts _ hok.2.2.1) hok.2.2.2.1 hRm, hnm, hts _ hins⟩ hp rfl (by rw [List.length_map]; exact hn) hlv.1 hstk (lv_room' hW) hd ⟨hc1, hc2⟩
end CALL
end
section
section MISC
variable {X : CX} {M : MD} {d pc : Nat} {L : List (Option LV)} {S : List LV} {G : GH} {Q : Option LV → GH → Prop}
theorem ev_objInit {idx i : Nat} (hd : decode M.2.1 pc = .ok (.invokespecial idx, 3)) (hl : Cond.methodLink M.1.cls idx objectInit ∈ lw_g) (h1 : Cond.instanceMethod objectInit ∈ lw_g) (h2 : Cond.code objectInit ⟨#[0xb1]⟩ 1 none ∈ lw_g) (hW : catS X S ≤ 8) (k : Ev X M (d + 1) (pc + 3) L S G Q) : Ev X M (d + 1) pc L (rV (some i) :: S) G Q := by
  refine Ev.ps ?_ k
  intro p e R s m args below meth c C H locs cells slots ls Z hS hl' kk
  obtain ⟨hx, hb, hr, hml, hown, hts, hlk, hin, hK, hfr, hlo⟩ := C
  refine W.objInit hx hb hown (hts _ hl) (hts _ h1) (hts _ h2) rfl (by rw [hml]; exact hl'.1) rfl hd (by omega) ?_ (kk ls hl')
  have := lv_room' (m := m) (pc := pc) (ls := ls) (st := []) hW
  have e0 : (F0 m pc ls ((rV (some i) :: S).map (cx_v X))).monitorRoom = (F0 m pc ls []).monitorRoom := rfl
  rw [e0]
  omega
theorem ev_castN {idx : Nat} (hd : decode M.2.1 pc = .ok (.checkcast idx, 3)) (k : Ev X M d (pc + 3) L (rV none :: S) G Q) : Ev X M d pc L (rV none :: S) G Q :=
  k.ps (fun _ _ _ _ _ _ _ _ _ C _ _ _ _ ls _ hS hl kk => lv_castN C.1 C.2.1 hd (kk ls hl))
theorem ev_cast {idx i q : Nat} (hd : decode M.2.1 pc = .ok (.checkcast idx, 3)) (hl : Cond.classLink M.1.cls idx (gRn q) ∈ lw_g) (hq : q < 11) (hk : G.1 i = q) (k : Ev X M d (pc + 3) L (rV (some i) :: S) G Q) : Ev X M d pc L (rV (some i) :: S) G Q := by
  refine Ev.rd ?_ k
  intro p e R s m args below meth c C H locs cells slots ls Z hR hS hl' kk
  obtain ⟨hx, hb, hr, hml, hown, hts, hlk, hin, hK, -⟩ := C
  have hP := hR.P (i := i) (by rw [hk]; omega)
  rw [cellE_obj hk hq] at hP
  exact va_castS hx hb hown (hts _ hl) (hK.1.1 q _ (gcl_at q hq)).2 (va_recv hK.1 hP (gcl_at q hq) (q0 := 0) rfl) hd kk
theorem ev_getE {idx : Nat} (hd : decode M.2.1 pc = .ok (.getstatic idx, 3)) (hl : Cond.fieldLink M.1.cls idx alE.1 alE.2.1 alE.2.2 ∈ lw_g) (k : Ev X M d (pc + 3) L (rV (some 0) :: S) G Q) : Ev X M d pc L S G Q :=
  k.ps (fun _ _ _ _ _ _ _ _ _ C _ _ _ _ ls _ hS hl' kk => va_gets C.1 C.2.1 C.2.2.2.2.2.2.2.2.1.2.2.2.2.1.1 hS C.2.2.2.2.1 (C.2.2.2.2.2.1 _ hl) (fun _ h => h) hd (kk ls hl'))
theorem ev_alenE (hd : decode M.2.1 pc = .ok (.arraylength, 1)) (k : Ev X M d (pc + 1) L (iV (nI 0) :: S) G Q) : Ev X M d pc L (rV (some 0) :: S) G Q :=
  k.ps (fun _ _ _ _ _ _ _ _ _ C _ _ _ _ ls _ hS hl' kk => va_tlen C.1 C.2.1 C.2.2.2.2.2.2.2.2.1.2.2.2.2.1.2.1 hS rfl hd (kk ls hl'))
theorem ev_slen (hd : decode M.2.1 pc = .ok (.arraylength, 1)) (k : Ev X M d (pc + 1) L (iV (nI X.2.2.2.2.1) :: S) G Q) : Ev X M d pc L (rV (some 2) :: S) G Q :=
  k.ps (fun _ _ _ _ _ _ _ _ _ C _ _ _ _ ls _ hS hl' kk => by
    obtain ⟨-, -, -, -, e5, e6⟩ := C.2.2.2.2.2.2.2.2.1.2.2.2.2.1
    exact va_slen C.1 C.2.1 e5 (Nat.lt_of_lt_of_le e6 C.2.2.2.2.2.2.2.2.1.2.2.2.2.2) (Nat.not_le.mpr e6) hS hd (kk ls hl'))
theorem ev_sld {j : Nat} (hd : decode M.2.1 pc = .ok (.iaload, 1)) (hj : j < X.2.2.2.2.1) (hb : X.2.2.2.2.1 < 2147483648) (k : Ev X M d (pc + 1) L (iV (X.2.2.2.2.2 j) :: S) G Q) : Ev X M d pc L (iV (nI j) :: rV (some 2) :: S) G Q :=
  k.ps (fun _ _ _ _ _ _ _ _ _ C _ _ _ _ ls _ hS hl' kk => by
    obtain ⟨-, -, -, -, e5, e6⟩ := C.2.2.2.2.2.2.2.2.1.2.2.2.2.1
    refine va_sld C.1 C.2.1 e5 (Nat.lt_of_lt_of_le e6 C.2.2.2.2.2.2.2.2.1.2.2.2.2.2) (Nat.not_le.mpr e6) hS (vp_in_nI hj hb) hd ?_
    rw [nI_clamp (by omega)]
    exact kk ls hl')
end MISC
end
section
theorem sels_in {w : Cond} (h : w ∈ k2_sels lw_privs) : w ∈ lw_tbl := List.mem_append_left _ h
def mX8_init : MD := (yX8_init, cX8_init, 1, none, true)
theorem okX8_init : MOk mX8_init 0 := ⟨by decide +kernel, lw_g_in (t1_in (List.mem_of_getElem? (i := 24) rfl)) rfl, lw_g_in (t1_in (List.mem_of_getElem? (i := 1) rfl)) rfl, ⟨by decide +kernel, by decide +kernel, by decide +kernel⟩, by decide +kernel, fun _ => rfl⟩
theorem inX8_init : Cond.instanceMethod mX8_init.1 ∈ lw_g := lw_g_in (t1_in (List.mem_of_getElem? (i := 23) rfl)) rfl
def mX6_init : MD := (yX6_init, cX6_init, 1, none, true)
theorem okX6_init : MOk mX6_init 0 := ⟨by decide +kernel, lw_g_in (t1_in (List.mem_of_getElem? (i := 36) rfl)) rfl, lw_g_in (t1_in (List.mem_of_getElem? (i := 2) rfl)) rfl, ⟨by decide +kernel, by decide +kernel, by decide +kernel⟩, by decide +kernel, fun _ => rfl⟩
theorem inX6_init : Cond.instanceMethod mX6_init.1 ∈ lw_g := lw_g_in (t1_in (List.mem_of_getElem? (i := 35) rfl)) rfl
def mJx4a65c_init_da8c8 : MD := (yJx4a65c_init_da8c8, cJx4a65c_init_da8c8, 1, none, true)
theorem okJx4a65c_init_da8c8 : MOk mJx4a65c_init_da8c8 0 := ⟨by decide +kernel, lw_g_in (t1_in (List.mem_of_getElem? (i := 44) rfl)) rfl, lw_g_in (t1_in (List.mem_of_getElem? (i := 5) rfl)) rfl, ⟨by decide +kernel, by decide +kernel, by decide +kernel⟩, by decide +kernel, fun _ => rfl⟩
theorem inJx4a65c_init_da8c8 : Cond.instanceMethod mJx4a65c_init_da8c8.1 ∈ lw_g := lw_g_in (t1_in (List.mem_of_getElem? (i := 43) rfl)) rfl
def mJxc12de_init_da8c8 : MD := (yJxc12de_init_da8c8, cJxc12de_init_da8c8, 1, none, true)
theorem okJxc12de_init_da8c8 : MOk mJxc12de_init_da8c8 0 := ⟨by decide +kernel, lw_g_in (t1_in (List.mem_of_getElem? (i := 47) rfl)) rfl, lw_g_in (t1_in (List.mem_of_getElem? (i := 4) rfl)) rfl, ⟨by decide +kernel, by decide +kernel, by decide +kernel⟩, by decide +kernel, fun _ => rfl⟩
theorem inJxc12de_init_da8c8 : Cond.instanceMethod mJxc12de_init_da8c8.1 ∈ lw_g := lw_g_in (t1_in (List.mem_of_getElem? (i := 46) rfl)) rfl
def mJxa1e45_init_da8c8 : MD := (yJxa1e45_init_da8c8, cJxa1e45_init_da8c8, 1, none, true)
theorem okJxa1e45_init_da8c8 : MOk mJxa1e45_init_da8c8 0 := ⟨by decide +kernel, lw_g_in (t1_in (List.mem_of_getElem? (i := 50) rfl)) rfl, lw_g_in (t1_in (List.mem_of_getElem? (i := 3) rfl)) rfl, ⟨by decide +kernel, by decide +kernel, by decide +kernel⟩, by decide +kernel, fun _ => rfl⟩
theorem inJxa1e45_init_da8c8 : Cond.instanceMethod mJxa1e45_init_da8c8.1 ∈ lw_g := lw_g_in (t1_in (List.mem_of_getElem? (i := 49) rfl)) rfl
def mX8_say : MD := (yX8_say, cX8_say, 7, (some .boolean), false)
theorem okX8_say : MOk mX8_say 2 := ⟨by decide +kernel, lw_g_in (t1_in (List.mem_of_getElem? (i := 128) rfl)) rfl, lw_g_in (t1_in (List.mem_of_getElem? (i := 1) rfl)) rfl, ⟨by decide +kernel, by decide +kernel, by decide +kernel⟩, by decide +kernel, fun h => absurd h (by decide)⟩
theorem inX8_say : Cond.instanceMethod mX8_say.1 ∈ lw_g := lw_g_in (t1_in (List.mem_of_getElem? (i := 126) rfl)) rfl
theorem seX8_say : Cond.selects mX8_say.1.cls mX8_say.1 mX8_say.1 ∈ lw_g := lw_g_in (t1_in (List.mem_of_getElem? (i := 127) rfl)) rfl
def mX8_isName : MD := (yX8_isName, cX8_isName, 4, (some .boolean), false)
theorem okX8_isName : MOk mX8_isName 1 := ⟨by decide +kernel, lw_g_in (t1_in (List.mem_of_getElem? (i := 131) rfl)) rfl, lw_g_in (t1_in (List.mem_of_getElem? (i := 1) rfl)) rfl, ⟨by decide +kernel, by decide +kernel, by decide +kernel⟩, by decide +kernel, fun h => absurd h (by decide)⟩
theorem stX8_isName : Cond.static mX8_isName.1 ∈ lw_g := lw_g_in (t1_in (List.mem_of_getElem? (i := 130) rfl)) rfl
def mX8_partsOf : MD := (yX8_partsOf, cX8_partsOf, 1, (some .int), false)
theorem okX8_partsOf : MOk mX8_partsOf 1 := ⟨by decide +kernel, lw_g_in (t1_in (List.mem_of_getElem? (i := 134) rfl)) rfl, lw_g_in (t1_in (List.mem_of_getElem? (i := 1) rfl)) rfl, ⟨by decide +kernel, by decide +kernel, by decide +kernel⟩, by decide +kernel, fun h => absurd h (by decide)⟩
theorem stX8_partsOf : Cond.static mX8_partsOf.1 ∈ lw_g := lw_g_in (t1_in (List.mem_of_getElem? (i := 133) rfl)) rfl
def mX8_fits : MD := (yX8_fits, cX8_fits, 2, (some .boolean), false)
theorem okX8_fits : MOk mX8_fits 2 := ⟨by decide +kernel, lw_g_in (t1_in (List.mem_of_getElem? (i := 137) rfl)) rfl, lw_g_in (t1_in (List.mem_of_getElem? (i := 1) rfl)) rfl, ⟨by decide +kernel, by decide +kernel, by decide +kernel⟩, by decide +kernel, fun h => absurd h (by decide)⟩
theorem stX8_fits : Cond.static mX8_fits.1 ∈ lw_g := lw_g_in (t1_in (List.mem_of_getElem? (i := 136) rfl)) rfl
def mX1_isBool : MD := (yX1_isBool, cX1_isBool, 1, (some .boolean), false)
theorem okX1_isBool : MOk mX1_isBool 0 := ⟨by decide +kernel, lw_g_in (t1_in (List.mem_of_getElem? (i := 142) rfl)) rfl, lw_g_in (t1_in (List.mem_of_getElem? (i := 7) rfl)) rfl, ⟨by decide +kernel, by decide +kernel, by decide +kernel⟩, by decide +kernel, fun h => absurd h (by decide)⟩
theorem inX1_isBool : Cond.instanceMethod mX1_isBool.1 ∈ lw_g := lw_g_in (t1_in (List.mem_of_getElem? (i := 140) rfl)) rfl
theorem seX1_isBool : Cond.selects mX1_isBool.1.cls mX1_isBool.1 mX1_isBool.1 ∈ lw_g := lw_g_in (sels_in (List.mem_of_getElem? (i := 0) rfl)) rfl
def mX8_takesBools : MD := (yX8_takesBools, cX8_takesBools, 1, (some .boolean), false)
theorem okX8_takesBools : MOk mX8_takesBools 1 := ⟨by decide +kernel, lw_g_in (t1_in (List.mem_of_getElem? (i := 145) rfl)) rfl, lw_g_in (t1_in (List.mem_of_getElem? (i := 1) rfl)) rfl, ⟨by decide +kernel, by decide +kernel, by decide +kernel⟩, by decide +kernel, fun h => absurd h (by decide)⟩
theorem stX8_takesBools : Cond.static mX8_takesBools.1 ∈ lw_g := lw_g_in (t1_in (List.mem_of_getElem? (i := 144) rfl)) rfl
def mX1_nodesOf : MD := (yX1_nodesOf, cX1_nodesOf, 1, (some .int), false)
theorem okX1_nodesOf : MOk mX1_nodesOf 1 := ⟨by decide +kernel, lw_g_in (t1_in (List.mem_of_getElem? (i := 148) rfl)) rfl, lw_g_in (t1_in (List.mem_of_getElem? (i := 7) rfl)) rfl, ⟨by decide +kernel, by decide +kernel, by decide +kernel⟩, by decide +kernel, fun h => absurd h (by decide)⟩
theorem stX1_nodesOf : Cond.static mX1_nodesOf.1 ∈ lw_g := lw_g_in (t1_in (List.mem_of_getElem? (i := 147) rfl)) rfl
def mX8_countsN : MD := (yX8_countsN, cX8_countsN, 1, (some .boolean), false)
theorem okX8_countsN : MOk mX8_countsN 1 := ⟨by decide +kernel, lw_g_in (t1_in (List.mem_of_getElem? (i := 151) rfl)) rfl, lw_g_in (t1_in (List.mem_of_getElem? (i := 1) rfl)) rfl, ⟨by decide +kernel, by decide +kernel, by decide +kernel⟩, by decide +kernel, fun h => absurd h (by decide)⟩
theorem stX8_countsN : Cond.static mX8_countsN.1 ∈ lw_g := lw_g_in (t1_in (List.mem_of_getElem? (i := 150) rfl)) rfl
def mX1_init : MD := (yX1_init, cX1_init, 5, none, true)
theorem okX1_init : MOk mX1_init 4 := ⟨by decide +kernel, lw_g_in (t1_in (List.mem_of_getElem? (i := 154) rfl)) rfl, lw_g_in (t1_in (List.mem_of_getElem? (i := 7) rfl)) rfl, ⟨by decide +kernel, by decide +kernel, by decide +kernel⟩, by decide +kernel, fun _ => rfl⟩
theorem inX1_init : Cond.instanceMethod mX1_init.1 ∈ lw_g := lw_g_in (t1_in (List.mem_of_getElem? (i := 153) rfl)) rfl
def mX8_index : MD := (yX8_index, cX8_index, 2, (some .int), false)
theorem okX8_index : MOk mX8_index 0 := ⟨by decide +kernel, lw_g_in (t1_in (List.mem_of_getElem? (i := 180) rfl)) rfl, lw_g_in (t1_in (List.mem_of_getElem? (i := 1) rfl)) rfl, ⟨by decide +kernel, by decide +kernel, by decide +kernel⟩, by decide +kernel, fun h => absurd h (by decide)⟩
theorem inX8_index : Cond.instanceMethod mX8_index.1 ∈ lw_g := lw_g_in (t1_in (List.mem_of_getElem? (i := 178) rfl)) rfl
theorem seX8_index : Cond.selects mX8_index.1.cls mX8_index.1 mX8_index.1 ∈ lw_g := lw_g_in (t1_in (List.mem_of_getElem? (i := 179) rfl)) rfl
def mX8_topOfPile : MD := (yX8_topOfPile, cX8_topOfPile, 1, (some (.object "VersionedRows$Expression")), false)
theorem okX8_topOfPile : MOk mX8_topOfPile 0 := ⟨by decide +kernel, lw_g_in (t1_in (List.mem_of_getElem? (i := 184) rfl)) rfl, lw_g_in (t1_in (List.mem_of_getElem? (i := 1) rfl)) rfl, ⟨by decide +kernel, by decide +kernel, by decide +kernel⟩, by decide +kernel, fun h => absurd h (by decide)⟩
theorem inX8_topOfPile : Cond.instanceMethod mX8_topOfPile.1 ∈ lw_g := lw_g_in (t1_in (List.mem_of_getElem? (i := 183) rfl)) rfl
theorem seX8_topOfPile : Cond.selects mX8_topOfPile.1.cls mX8_topOfPile.1 mX8_topOfPile.1 ∈ lw_g := lw_g_in (sels_in (List.mem_of_getElem? (i := 1) rfl)) rfl
def mX8_begin : MD := (yX8_begin, cX8_begin, 1, (some .int), false)
theorem okX8_begin : MOk mX8_begin 0 := ⟨by decide +kernel, lw_g_in (t1_in (List.mem_of_getElem? (i := 188) rfl)) rfl, lw_g_in (t1_in (List.mem_of_getElem? (i := 1) rfl)) rfl, ⟨by decide +kernel, by decide +kernel, by decide +kernel⟩, by decide +kernel, fun h => absurd h (by decide)⟩
theorem inX8_begin : Cond.instanceMethod mX8_begin.1 ∈ lw_g := lw_g_in (t1_in (List.mem_of_getElem? (i := 186) rfl)) rfl
theorem seX8_begin : Cond.selects mX8_begin.1.cls mX8_begin.1 mX8_begin.1 ∈ lw_g := lw_g_in (t1_in (List.mem_of_getElem? (i := 187) rfl)) rfl
def mX8_countOpen : MD := (yX8_countOpen, cX8_countOpen, 3, (some .int), false)
theorem okX8_countOpen : MOk mX8_countOpen 0 := ⟨by decide +kernel, lw_g_in (t1_in (List.mem_of_getElem? (i := 192) rfl)) rfl, lw_g_in (t1_in (List.mem_of_getElem? (i := 1) rfl)) rfl, ⟨by decide +kernel, by decide +kernel, by decide +kernel⟩, by decide +kernel, fun h => absurd h (by decide)⟩
theorem inX8_countOpen : Cond.instanceMethod mX8_countOpen.1 ∈ lw_g := lw_g_in (t1_in (List.mem_of_getElem? (i := 191) rfl)) rfl
theorem seX8_countOpen : Cond.selects mX8_countOpen.1.cls mX8_countOpen.1 mX8_countOpen.1 ∈ lw_g := lw_g_in (sels_in (List.mem_of_getElem? (i := 2) rfl)) rfl
def mX7_isOpen : MD := (yX7_isOpen, cX7_isOpen, 1, (some .boolean), false)
theorem okX7_isOpen : MOk mX7_isOpen 0 := ⟨by decide +kernel, lw_g_in (t1_in (List.mem_of_getElem? (i := 197) rfl)) rfl, lw_g_in (t1_in (List.mem_of_getElem? (i := 8) rfl)) rfl, ⟨by decide +kernel, by decide +kernel, by decide +kernel⟩, by decide +kernel, fun h => absurd h (by decide)⟩
theorem inX7_isOpen : Cond.instanceMethod mX7_isOpen.1 ∈ lw_g := lw_g_in (t1_in (List.mem_of_getElem? (i := 195) rfl)) rfl
theorem seX7_isOpen : Cond.selects mX7_isOpen.1.cls mX7_isOpen.1 mX7_isOpen.1 ∈ lw_g := lw_g_in (sels_in (List.mem_of_getElem? (i := 3) rfl)) rfl
def mX7_init : MD := (yX7_init, cX7_init, 2, none, true)
theorem okX7_init : MOk mX7_init 1 := ⟨by decide +kernel, lw_g_in (t1_in (List.mem_of_getElem? (i := 200) rfl)) rfl, lw_g_in (t1_in (List.mem_of_getElem? (i := 8) rfl)) rfl, ⟨by decide +kernel, by decide +kernel, by decide +kernel⟩, by decide +kernel, fun _ => rfl⟩
theorem inX7_init : Cond.instanceMethod mX7_init.1 ∈ lw_g := lw_g_in (t1_in (List.mem_of_getElem? (i := 199) rfl)) rfl
def mX8_read : MD := (yX8_read, cX8_read, 6, (some .int), false)
theorem okX8_read : MOk mX8_read 3 := ⟨by decide +kernel, lw_g_in (t1_in (List.mem_of_getElem? (i := 229) rfl)) rfl, lw_g_in (t1_in (List.mem_of_getElem? (i := 1) rfl)) rfl, ⟨by decide +kernel, by decide +kernel, by decide +kernel⟩, by decide +kernel, fun h => absurd h (by decide)⟩
theorem inX8_read : Cond.instanceMethod mX8_read.1 ∈ lw_g := lw_g_in (t1_in (List.mem_of_getElem? (i := 227) rfl)) rfl
theorem seX8_read : Cond.selects mX8_read.1.cls mX8_read.1 mX8_read.1 ∈ lw_g := lw_g_in (t1_in (List.mem_of_getElem? (i := 228) rfl)) rfl
def mX8_openOne : MD := (yX8_openOne, cX8_openOne, 3, (some (.object "VersionedRows$Transaction")), false)
theorem okX8_openOne : MOk mX8_openOne 1 := ⟨by decide +kernel, lw_g_in (t1_in (List.mem_of_getElem? (i := 233) rfl)) rfl, lw_g_in (t1_in (List.mem_of_getElem? (i := 1) rfl)) rfl, ⟨by decide +kernel, by decide +kernel, by decide +kernel⟩, by decide +kernel, fun h => absurd h (by decide)⟩
theorem inX8_openOne : Cond.instanceMethod mX8_openOne.1 ∈ lw_g := lw_g_in (t1_in (List.mem_of_getElem? (i := 232) rfl)) rfl
theorem seX8_openOne : Cond.selects mX8_openOne.1.cls mX8_openOne.1 mX8_openOne.1 ∈ lw_g := lw_g_in (sels_in (List.mem_of_getElem? (i := 4) rfl)) rfl
def mX8_transactionOf : MD := (yX8_transactionOf, cX8_transactionOf, 2, (some (.object "VersionedRows$Transaction")), false)
theorem okX8_transactionOf : MOk mX8_transactionOf 1 := ⟨by decide +kernel, lw_g_in (t1_in (List.mem_of_getElem? (i := 237) rfl)) rfl, lw_g_in (t1_in (List.mem_of_getElem? (i := 1) rfl)) rfl, ⟨by decide +kernel, by decide +kernel, by decide +kernel⟩, by decide +kernel, fun h => absurd h (by decide)⟩
theorem inX8_transactionOf : Cond.instanceMethod mX8_transactionOf.1 ∈ lw_g := lw_g_in (t1_in (List.mem_of_getElem? (i := 236) rfl)) rfl
theorem seX8_transactionOf : Cond.selects mX8_transactionOf.1.cls mX8_transactionOf.1 mX8_transactionOf.1 ∈ lw_g := lw_g_in (sels_in (List.mem_of_getElem? (i := 5) rfl)) rfl
def mX8_isKey : MD := (yX8_isKey, cX8_isKey, 1, (some .boolean), false)
theorem okX8_isKey : MOk mX8_isKey 1 := ⟨by decide +kernel, lw_g_in (t2_in (List.mem_of_getElem? (i := 0) rfl)) rfl, lw_g_in (t1_in (List.mem_of_getElem? (i := 1) rfl)) rfl, ⟨by decide +kernel, by decide +kernel, by decide +kernel⟩, by decide +kernel, fun h => absurd h (by decide)⟩
theorem stX8_isKey : Cond.static mX8_isKey.1 ∈ lw_g := lw_g_in (t1_in (List.mem_of_getElem? (i := 239) rfl)) rfl
def mX8_rowFor : MD := (yX8_rowFor, cX8_rowFor, 3, (some (.object "VersionedRows$Row")), false)
theorem okX8_rowFor : MOk mX8_rowFor 2 := ⟨by decide +kernel, lw_g_in (t2_in (List.mem_of_getElem? (i := 4) rfl)) rfl, lw_g_in (t1_in (List.mem_of_getElem? (i := 1) rfl)) rfl, ⟨by decide +kernel, by decide +kernel, by decide +kernel⟩, by decide +kernel, fun h => absurd h (by decide)⟩
theorem inX8_rowFor : Cond.instanceMethod mX8_rowFor.1 ∈ lw_g := lw_g_in (t2_in (List.mem_of_getElem? (i := 3) rfl)) rfl
theorem seX8_rowFor : Cond.selects mX8_rowFor.1.cls mX8_rowFor.1 mX8_rowFor.1 ∈ lw_g := lw_g_in (sels_in (List.mem_of_getElem? (i := 6) rfl)) rfl
def mX6_rowAt : MD := (yX6_rowAt, cX6_rowAt, 4, (some (.object "VersionedRows$Row")), false)
theorem okX6_rowAt : MOk mX6_rowAt 2 := ⟨by decide +kernel, lw_g_in (t2_in (List.mem_of_getElem? (i := 8) rfl)) rfl, lw_g_in (t1_in (List.mem_of_getElem? (i := 2) rfl)) rfl, ⟨by decide +kernel, by decide +kernel, by decide +kernel⟩, by decide +kernel, fun h => absurd h (by decide)⟩
theorem inX6_rowAt : Cond.instanceMethod mX6_rowAt.1 ∈ lw_g := lw_g_in (t2_in (List.mem_of_getElem? (i := 7) rfl)) rfl
theorem seX6_rowAt : Cond.selects mX6_rowAt.1.cls mX6_rowAt.1 mX6_rowAt.1 ∈ lw_g := lw_g_in (sels_in (List.mem_of_getElem? (i := 7) rfl)) rfl
def mX6_seenRow : MD := (yX6_seenRow, cX6_seenRow, 6, (some (.object "VersionedRows$Entry")), false)
theorem okX6_seenRow : MOk mX6_seenRow 2 := ⟨by decide +kernel, lw_g_in (t2_in (List.mem_of_getElem? (i := 12) rfl)) rfl, lw_g_in (t1_in (List.mem_of_getElem? (i := 2) rfl)) rfl, ⟨by decide +kernel, by decide +kernel, by decide +kernel⟩, by decide +kernel, fun h => absurd h (by decide)⟩
theorem inX6_seenRow : Cond.instanceMethod mX6_seenRow.1 ∈ lw_g := lw_g_in (t2_in (List.mem_of_getElem? (i := 11) rfl)) rfl
theorem seX6_seenRow : Cond.selects mX6_seenRow.1.cls mX6_seenRow.1 mX6_seenRow.1 ∈ lw_g := lw_g_in (sels_in (List.mem_of_getElem? (i := 8) rfl)) rfl
def mX0_placeOf : MD := (yX0_placeOf, cX0_placeOf, 3, (some .long), false)
theorem okX0_placeOf : MOk mX0_placeOf 3 := ⟨by decide +kernel, lw_g_in (t2_in (List.mem_of_getElem? (i := 15) rfl)) rfl, lw_g_in (t1_in (List.mem_of_getElem? (i := 9) rfl)) rfl, ⟨by decide +kernel, by decide +kernel, by decide +kernel⟩, by decide +kernel, fun h => absurd h (by decide)⟩
theorem stX0_placeOf : Cond.static mX0_placeOf.1 ∈ lw_g := lw_g_in (t2_in (List.mem_of_getElem? (i := 14) rfl)) rfl
def mX6_countBefore : MD := (yX6_countBefore, cX6_countBefore, 7, (some .int), false)
theorem okX6_countBefore : MOk mX6_countBefore 2 := ⟨by decide +kernel, lw_g_in (t2_in (List.mem_of_getElem? (i := 20) rfl)) rfl, lw_g_in (t1_in (List.mem_of_getElem? (i := 2) rfl)) rfl, ⟨by decide +kernel, by decide +kernel, by decide +kernel⟩, by decide +kernel, fun h => absurd h (by decide)⟩
theorem inX6_countBefore : Cond.instanceMethod mX6_countBefore.1 ∈ lw_g := lw_g_in (t2_in (List.mem_of_getElem? (i := 19) rfl)) rfl
theorem seX6_countBefore : Cond.selects mX6_countBefore.1.cls mX6_countBefore.1 mX6_countBefore.1 ∈ lw_g := lw_g_in (sels_in (List.mem_of_getElem? (i := 9) rfl)) rfl
def mX0_isBefore : MD := (yX0_isBefore, cX0_isBefore, 4, (some .boolean), false)
theorem okX0_isBefore : MOk mX0_isBefore 2 := ⟨by decide +kernel, lw_g_in (t2_in (List.mem_of_getElem? (i := 25) rfl)) rfl, lw_g_in (t1_in (List.mem_of_getElem? (i := 9) rfl)) rfl, ⟨by decide +kernel, by decide +kernel, by decide +kernel⟩, by decide +kernel, fun h => absurd h (by decide)⟩
theorem inX0_isBefore : Cond.instanceMethod mX0_isBefore.1 ∈ lw_g := lw_g_in (t2_in (List.mem_of_getElem? (i := 23) rfl)) rfl
theorem seX0_isBefore : Cond.selects mX0_isBefore.1.cls mX0_isBefore.1 mX0_isBefore.1 ∈ lw_g := lw_g_in (sels_in (List.mem_of_getElem? (i := 10) rfl)) rfl
def mX8_write : MD := (yX8_write, cX8_write, 7, (some .boolean), false)
theorem okX8_write : MOk mX8_write 5 := ⟨by decide +kernel, lw_g_in (t2_in (List.mem_of_getElem? (i := 29) rfl)) rfl, lw_g_in (t1_in (List.mem_of_getElem? (i := 1) rfl)) rfl, ⟨by decide +kernel, by decide +kernel, by decide +kernel⟩, by decide +kernel, fun h => absurd h (by decide)⟩
theorem inX8_write : Cond.instanceMethod mX8_write.1 ∈ lw_g := lw_g_in (t2_in (List.mem_of_getElem? (i := 27) rfl)) rfl
theorem seX8_write : Cond.selects mX8_write.1.cls mX8_write.1 mX8_write.1 ∈ lw_g := lw_g_in (t2_in (List.mem_of_getElem? (i := 28) rfl)) rfl
def mX3_init : MD := (yX3_init, cX3_init, 4, none, true)
theorem okX3_init : MOk mX3_init 3 := ⟨by decide +kernel, lw_g_in (t2_in (List.mem_of_getElem? (i := 34) rfl)) rfl, lw_g_in (t1_in (List.mem_of_getElem? (i := 10) rfl)) rfl, ⟨by decide +kernel, by decide +kernel, by decide +kernel⟩, by decide +kernel, fun _ => rfl⟩
theorem inX3_init : Cond.instanceMethod mX3_init.1 ∈ lw_g := lw_g_in (t2_in (List.mem_of_getElem? (i := 33) rfl)) rfl
def mX7_put : MD := (yX7_put, cX7_put, 3, none, false)
theorem okX7_put : MOk mX7_put 2 := ⟨by decide +kernel, lw_g_in (t2_in (List.mem_of_getElem? (i := 55) rfl)) rfl, lw_g_in (t1_in (List.mem_of_getElem? (i := 8) rfl)) rfl, ⟨by decide +kernel, by decide +kernel, by decide +kernel⟩, by decide +kernel, fun h => absurd h (by decide)⟩
theorem inX7_put : Cond.instanceMethod mX7_put.1 ∈ lw_g := lw_g_in (t2_in (List.mem_of_getElem? (i := 54) rfl)) rfl
theorem seX7_put : Cond.selects mX7_put.1.cls mX7_put.1 mX7_put.1 ∈ lw_g := lw_g_in (sels_in (List.mem_of_getElem? (i := 11) rfl)) rfl
def mX8_remove : MD := (yX8_remove, cX8_remove, 4, (some .boolean), false)
theorem okX8_remove : MOk mX8_remove 2 := ⟨by decide +kernel, lw_g_in (t2_in (List.mem_of_getElem? (i := 59) rfl)) rfl, lw_g_in (t1_in (List.mem_of_getElem? (i := 1) rfl)) rfl, ⟨by decide +kernel, by decide +kernel, by decide +kernel⟩, by decide +kernel, fun h => absurd h (by decide)⟩
theorem inX8_remove : Cond.instanceMethod mX8_remove.1 ∈ lw_g := lw_g_in (t2_in (List.mem_of_getElem? (i := 57) rfl)) rfl
theorem seX8_remove : Cond.selects mX8_remove.1.cls mX8_remove.1 mX8_remove.1 ∈ lw_g := lw_g_in (t2_in (List.mem_of_getElem? (i := 58) rfl)) rfl
def mX8_query : MD := (yX8_query, cX8_query, 4, (some .int), false)
theorem okX8_query : MOk mX8_query 1 := ⟨by decide +kernel, lw_g_in (t2_in (List.mem_of_getElem? (i := 63) rfl)) rfl, lw_g_in (t1_in (List.mem_of_getElem? (i := 1) rfl)) rfl, ⟨by decide +kernel, by decide +kernel, by decide +kernel⟩, by decide +kernel, fun h => absurd h (by decide)⟩
theorem inX8_query : Cond.instanceMethod mX8_query.1 ∈ lw_g := lw_g_in (t2_in (List.mem_of_getElem? (i := 61) rfl)) rfl
theorem seX8_query : Cond.selects mX8_query.1.cls mX8_query.1 mX8_query.1 ∈ lw_g := lw_g_in (t2_in (List.mem_of_getElem? (i := 62) rfl)) rfl
def mX8_choosePlan : MD := (yX8_choosePlan, cX8_choosePlan, 4, none, false)
theorem okX8_choosePlan : MOk mX8_choosePlan 1 := ⟨by decide +kernel, lw_g_in (t2_in (List.mem_of_getElem? (i := 67) rfl)) rfl, lw_g_in (t1_in (List.mem_of_getElem? (i := 1) rfl)) rfl, ⟨by decide +kernel, by decide +kernel, by decide +kernel⟩, by decide +kernel, fun h => absurd h (by decide)⟩
theorem inX8_choosePlan : Cond.instanceMethod mX8_choosePlan.1 ∈ lw_g := lw_g_in (t2_in (List.mem_of_getElem? (i := 66) rfl)) rfl
theorem seX8_choosePlan : Cond.selects mX8_choosePlan.1.cls mX8_choosePlan.1 mX8_choosePlan.1 ∈ lw_g := lw_g_in (sels_in (List.mem_of_getElem? (i := 12) rfl)) rfl
def mX2_init : MD := (yX2_init, cX2_init, 2, none, true)
theorem okX2_init : MOk mX2_init 1 := ⟨by decide +kernel, lw_g_in (t2_in (List.mem_of_getElem? (i := 72) rfl)) rfl, lw_g_in (t1_in (List.mem_of_getElem? (i := 11) rfl)) rfl, ⟨by decide +kernel, by decide +kernel, by decide +kernel⟩, by decide +kernel, fun _ => rfl⟩
theorem inX2_init : Cond.instanceMethod mX2_init.1 ∈ lw_g := lw_g_in (t2_in (List.mem_of_getElem? (i := 71) rfl)) rfl
def mX2_hear : MD := (yX2_hear, cX2_hear, 2, none, false)
theorem okX2_hear : MOk mX2_hear 1 := ⟨by decide +kernel, lw_g_in (t2_in (List.mem_of_getElem? (i := 95) rfl)) rfl, lw_g_in (t1_in (List.mem_of_getElem? (i := 11) rfl)) rfl, ⟨by decide +kernel, by decide +kernel, by decide +kernel⟩, by decide +kernel, fun h => absurd h (by decide)⟩
theorem inX2_hear : Cond.instanceMethod mX2_hear.1 ∈ lw_g := lw_g_in (t2_in (List.mem_of_getElem? (i := 94) rfl)) rfl
theorem seX2_hear : Cond.selects mX2_hear.1.cls mX2_hear.1 mX2_hear.1 ∈ lw_g := lw_g_in (sels_in (List.mem_of_getElem? (i := 13) rfl)) rfl
def mX2_hearComparison : MD := (yX2_hearComparison, cX2_hearComparison, 6, none, false)
theorem okX2_hearComparison : MOk mX2_hearComparison 3 := ⟨by decide +kernel, lw_g_in (t2_in (List.mem_of_getElem? (i := 100) rfl)) rfl, lw_g_in (t1_in (List.mem_of_getElem? (i := 11) rfl)) rfl, ⟨by decide +kernel, by decide +kernel, by decide +kernel⟩, by decide +kernel, fun h => absurd h (by decide)⟩
theorem inX2_hearComparison : Cond.instanceMethod mX2_hearComparison.1 ∈ lw_g := lw_g_in (t2_in (List.mem_of_getElem? (i := 99) rfl)) rfl
theorem seX2_hearComparison : Cond.selects mX2_hearComparison.1.cls mX2_hearComparison.1 mX2_hearComparison.1 ∈ lw_g := lw_g_in (sels_in (List.mem_of_getElem? (i := 14) rfl)) rfl
def mX1_isConst : MD := (yX1_isConst, cX1_isConst, 1, (some .boolean), false)
theorem okX1_isConst : MOk mX1_isConst 0 := ⟨by decide +kernel, lw_g_in (t2_in (List.mem_of_getElem? (i := 104) rfl)) rfl, lw_g_in (t1_in (List.mem_of_getElem? (i := 7) rfl)) rfl, ⟨by decide +kernel, by decide +kernel, by decide +kernel⟩, by decide +kernel, fun h => absurd h (by decide)⟩
theorem inX1_isConst : Cond.instanceMethod mX1_isConst.1 ∈ lw_g := lw_g_in (t2_in (List.mem_of_getElem? (i := 103) rfl)) rfl
theorem seX1_isConst : Cond.selects mX1_isConst.1.cls mX1_isConst.1 mX1_isConst.1 ∈ lw_g := lw_g_in (sels_in (List.mem_of_getElem? (i := 15) rfl)) rfl
def mX1_areSame : MD := (yX1_areSame, cX1_areSame, 2, (some .boolean), false)
theorem okX1_areSame : MOk mX1_areSame 2 := ⟨by decide +kernel, lw_g_in (t2_in (List.mem_of_getElem? (i := 107) rfl)) rfl, lw_g_in (t1_in (List.mem_of_getElem? (i := 7) rfl)) rfl, ⟨by decide +kernel, by decide +kernel, by decide +kernel⟩, by decide +kernel, fun h => absurd h (by decide)⟩
theorem stX1_areSame : Cond.static mX1_areSame.1 ∈ lw_g := lw_g_in (t2_in (List.mem_of_getElem? (i := 106) rfl)) rfl
def mX2_narrow : MD := (yX2_narrow, cX2_narrow, 5, none, false)
theorem okX2_narrow : MOk mX2_narrow 2 := ⟨by decide +kernel, lw_g_in (t2_in (List.mem_of_getElem? (i := 112) rfl)) rfl, lw_g_in (t1_in (List.mem_of_getElem? (i := 11) rfl)) rfl, ⟨by decide +kernel, by decide +kernel, by decide +kernel⟩, by decide +kernel, fun h => absurd h (by decide)⟩
theorem inX2_narrow : Cond.instanceMethod mX2_narrow.1 ∈ lw_g := lw_g_in (t2_in (List.mem_of_getElem? (i := 111) rfl)) rfl
theorem seX2_narrow : Cond.selects mX2_narrow.1.cls mX2_narrow.1 mX2_narrow.1 ∈ lw_g := lw_g_in (sels_in (List.mem_of_getElem? (i := 16) rfl)) rfl
def mJ9_max_f86c9 : MD := (yJ9_max_f86c9, cJ9_max_f86c9, 4, (some .long), false)
theorem cdJ9_max_f86c9 : Cond.code mJ9_max_f86c9.1 mJ9_max_f86c9.2.1 mJ9_max_f86c9.2.2.1 mJ9_max_f86c9.2.2.2.1 ∈ lw_g := lw_g_in (t2_in (List.mem_of_getElem? (i := 115) rfl)) rfl
theorem stJ9_max_f86c9 : Cond.static mJ9_max_f86c9.1 ∈ lw_g := lw_g_in (t2_in (List.mem_of_getElem? (i := 114) rfl)) rfl
def mJ9_min_f86c9 : MD := (yJ9_min_f86c9, cJ9_min_f86c9, 4, (some .long), false)
theorem cdJ9_min_f86c9 : Cond.code mJ9_min_f86c9.1 mJ9_min_f86c9.2.1 mJ9_min_f86c9.2.2.1 mJ9_min_f86c9.2.2.2.1 ∈ lw_g := lw_g_in (t2_in (List.mem_of_getElem? (i := 118) rfl)) rfl
theorem stJ9_min_f86c9 : Cond.static mJ9_min_f86c9.1 ∈ lw_g := lw_g_in (t2_in (List.mem_of_getElem? (i := 117) rfl)) rfl
def mX2_width : MD := (yX2_width, cX2_width, 1, (some .long), false)
theorem okX2_width : MOk mX2_width 0 := ⟨by decide +kernel, lw_g_in (t2_in (List.mem_of_getElem? (i := 122) rfl)) rfl, lw_g_in (t1_in (List.mem_of_getElem? (i := 11) rfl)) rfl, ⟨by decide +kernel, by decide +kernel, by decide +kernel⟩, by decide +kernel, fun h => absurd h (by decide)⟩
theorem inX2_width : Cond.instanceMethod mX2_width.1 ∈ lw_g := lw_g_in (t2_in (List.mem_of_getElem? (i := 121) rfl)) rfl
theorem seX2_width : Cond.selects mX2_width.1.cls mX2_width.1 mX2_width.1 ∈ lw_g := lw_g_in (sels_in (List.mem_of_getElem? (i := 17) rfl)) rfl
def mX8_countCandidates : MD := (yX8_countCandidates, cX8_countCandidates, 2, none, false)
theorem okX8_countCandidates : MOk mX8_countCandidates 1 := ⟨by decide +kernel, lw_g_in (t2_in (List.mem_of_getElem? (i := 126) rfl)) rfl, lw_g_in (t1_in (List.mem_of_getElem? (i := 1) rfl)) rfl, ⟨by decide +kernel, by decide +kernel, by decide +kernel⟩, by decide +kernel, fun h => absurd h (by decide)⟩
theorem inX8_countCandidates : Cond.instanceMethod mX8_countCandidates.1 ∈ lw_g := lw_g_in (t2_in (List.mem_of_getElem? (i := 125) rfl)) rfl
theorem seX8_countCandidates : Cond.selects mX8_countCandidates.1.cls mX8_countCandidates.1 mX8_countCandidates.1 ∈ lw_g := lw_g_in (sels_in (List.mem_of_getElem? (i := 18) rfl)) rfl
def mX6_countThere : MD := (yX6_countThere, cX6_countThere, 11, (some .int), false)
theorem okX6_countThere : MOk mX6_countThere 4 := ⟨by decide +kernel, lw_g_in (t2_in (List.mem_of_getElem? (i := 130) rfl)) rfl, lw_g_in (t1_in (List.mem_of_getElem? (i := 2) rfl)) rfl, ⟨by decide +kernel, by decide +kernel, by decide +kernel⟩, by decide +kernel, fun h => absurd h (by decide)⟩
theorem inX6_countThere : Cond.instanceMethod mX6_countThere.1 ∈ lw_g := lw_g_in (t2_in (List.mem_of_getElem? (i := 129) rfl)) rfl
theorem seX6_countThere : Cond.selects mX6_countThere.1.cls mX6_countThere.1 mX6_countThere.1 ∈ lw_g := lw_g_in (sels_in (List.mem_of_getElem? (i := 19) rfl)) rfl
def mX0_isWithin : MD := (yX0_isWithin, cX0_isWithin, 6, (some .boolean), false)
theorem okX0_isWithin : MOk mX0_isWithin 3 := ⟨by decide +kernel, lw_g_in (t2_in (List.mem_of_getElem? (i := 134) rfl)) rfl, lw_g_in (t1_in (List.mem_of_getElem? (i := 9) rfl)) rfl, ⟨by decide +kernel, by decide +kernel, by decide +kernel⟩, by decide +kernel, fun h => absurd h (by decide)⟩
theorem inX0_isWithin : Cond.instanceMethod mX0_isWithin.1 ∈ lw_g := lw_g_in (t2_in (List.mem_of_getElem? (i := 133) rfl)) rfl
theorem seX0_isWithin : Cond.selects mX0_isWithin.1.cls mX0_isWithin.1 mX0_isWithin.1 ∈ lw_g := lw_g_in (sels_in (List.mem_of_getElem? (i := 20) rfl)) rfl
def mX8_fillResult : MD := (yX8_fillResult, cX8_fillResult, 5, none, false)
theorem okX8_fillResult : MOk mX8_fillResult 2 := ⟨by decide +kernel, lw_g_in (t2_in (List.mem_of_getElem? (i := 138) rfl)) rfl, lw_g_in (t1_in (List.mem_of_getElem? (i := 1) rfl)) rfl, ⟨by decide +kernel, by decide +kernel, by decide +kernel⟩, by decide +kernel, fun h => absurd h (by decide)⟩
theorem inX8_fillResult : Cond.instanceMethod mX8_fillResult.1 ∈ lw_g := lw_g_in (t2_in (List.mem_of_getElem? (i := 137) rfl)) rfl
theorem seX8_fillResult : Cond.selects mX8_fillResult.1.cls mX8_fillResult.1 mX8_fillResult.1 ∈ lw_g := lw_g_in (sels_in (List.mem_of_getElem? (i := 21) rfl)) rfl
def mX1_isTrueOf : MD := (yX1_isTrueOf, cX1_isTrueOf, 2, (some .boolean), false)
theorem okX1_isTrueOf : MOk mX1_isTrueOf 2 := ⟨by decide +kernel, lw_g_in (t2_in (List.mem_of_getElem? (i := 141) rfl)) rfl, lw_g_in (t1_in (List.mem_of_getElem? (i := 7) rfl)) rfl, ⟨by decide +kernel, by decide +kernel, by decide +kernel⟩, by decide +kernel, fun h => absurd h (by decide)⟩
theorem stX1_isTrueOf : Cond.static mX1_isTrueOf.1 ∈ lw_g := lw_g_in (t2_in (List.mem_of_getElem? (i := 140) rfl)) rfl
def mX1_numberOf : MD := (yX1_numberOf, cX1_numberOf, 2, (some .int), false)
theorem okX1_numberOf : MOk mX1_numberOf 2 := ⟨by decide +kernel, lw_g_in (t2_in (List.mem_of_getElem? (i := 144) rfl)) rfl, lw_g_in (t1_in (List.mem_of_getElem? (i := 7) rfl)) rfl, ⟨by decide +kernel, by decide +kernel, by decide +kernel⟩, by decide +kernel, fun h => absurd h (by decide)⟩
theorem stX1_numberOf : Cond.static mX1_numberOf.1 ∈ lw_g := lw_g_in (t2_in (List.mem_of_getElem? (i := 143) rfl)) rfl
def mX3_startsWith : MD := (yX3_startsWith, cX3_startsWith, 2, (some .boolean), false)
theorem okX3_startsWith : MOk mX3_startsWith 1 := ⟨by decide +kernel, lw_g_in (t2_in (List.mem_of_getElem? (i := 149) rfl)) rfl, lw_g_in (t1_in (List.mem_of_getElem? (i := 10) rfl)) rfl, ⟨by decide +kernel, by decide +kernel, by decide +kernel⟩, by decide +kernel, fun h => absurd h (by decide)⟩
theorem inX3_startsWith : Cond.instanceMethod mX3_startsWith.1 ∈ lw_g := lw_g_in (t2_in (List.mem_of_getElem? (i := 148) rfl)) rfl
theorem seX3_startsWith : Cond.selects mX3_startsWith.1.cls mX3_startsWith.1 mX3_startsWith.1 ∈ lw_g := lw_g_in (sels_in (List.mem_of_getElem? (i := 22) rfl)) rfl
def mX8_commit : MD := (yX8_commit, cX8_commit, 3, (some .int), false)
theorem okX8_commit : MOk mX8_commit 1 := ⟨by decide +kernel, lw_g_in (t2_in (List.mem_of_getElem? (i := 153) rfl)) rfl, lw_g_in (t1_in (List.mem_of_getElem? (i := 1) rfl)) rfl, ⟨by decide +kernel, by decide +kernel, by decide +kernel⟩, by decide +kernel, fun h => absurd h (by decide)⟩
theorem inX8_commit : Cond.instanceMethod mX8_commit.1 ∈ lw_g := lw_g_in (t2_in (List.mem_of_getElem? (i := 151) rfl)) rfl
theorem seX8_commit : Cond.selects mX8_commit.1.cls mX8_commit.1 mX8_commit.1 ∈ lw_g := lw_g_in (t2_in (List.mem_of_getElem? (i := 152) rfl)) rfl
def mX8_isTooLate : MD := (yX8_isTooLate, cX8_isTooLate, 3, (some .boolean), false)
theorem okX8_isTooLate : MOk mX8_isTooLate 1 := ⟨by decide +kernel, lw_g_in (t2_in (List.mem_of_getElem? (i := 157) rfl)) rfl, lw_g_in (t1_in (List.mem_of_getElem? (i := 1) rfl)) rfl, ⟨by decide +kernel, by decide +kernel, by decide +kernel⟩, by decide +kernel, fun h => absurd h (by decide)⟩
theorem inX8_isTooLate : Cond.instanceMethod mX8_isTooLate.1 ∈ lw_g := lw_g_in (t2_in (List.mem_of_getElem? (i := 156) rfl)) rfl
theorem seX8_isTooLate : Cond.selects mX8_isTooLate.1.cls mX8_isTooLate.1 mX8_isTooLate.1 ∈ lw_g := lw_g_in (sels_in (List.mem_of_getElem? (i := 23) rfl)) rfl
def mX6_lastStampOf : MD := (yX6_lastStampOf, cX6_lastStampOf, 3, (some .int), false)
theorem okX6_lastStampOf : MOk mX6_lastStampOf 1 := ⟨by decide +kernel, lw_g_in (t2_in (List.mem_of_getElem? (i := 161) rfl)) rfl, lw_g_in (t1_in (List.mem_of_getElem? (i := 2) rfl)) rfl, ⟨by decide +kernel, by decide +kernel, by decide +kernel⟩, by decide +kernel, fun h => absurd h (by decide)⟩
theorem inX6_lastStampOf : Cond.instanceMethod mX6_lastStampOf.1 ∈ lw_g := lw_g_in (t2_in (List.mem_of_getElem? (i := 160) rfl)) rfl
theorem seX6_lastStampOf : Cond.selects mX6_lastStampOf.1.cls mX6_lastStampOf.1 mX6_lastStampOf.1 ∈ lw_g := lw_g_in (sels_in (List.mem_of_getElem? (i := 24) rfl)) rfl
def mX8_batchSize : MD := (yX8_batchSize, cX8_batchSize, 4, (some .int), false)
theorem okX8_batchSize : MOk mX8_batchSize 1 := ⟨by decide +kernel, lw_g_in (t2_in (List.mem_of_getElem? (i := 166) rfl)) rfl, lw_g_in (t1_in (List.mem_of_getElem? (i := 1) rfl)) rfl, ⟨by decide +kernel, by decide +kernel, by decide +kernel⟩, by decide +kernel, fun h => absurd h (by decide)⟩
theorem inX8_batchSize : Cond.instanceMethod mX8_batchSize.1 ∈ lw_g := lw_g_in (t2_in (List.mem_of_getElem? (i := 165) rfl)) rfl
theorem seX8_batchSize : Cond.selects mX8_batchSize.1.cls mX8_batchSize.1 mX8_batchSize.1 ∈ lw_g := lw_g_in (sels_in (List.mem_of_getElem? (i := 25) rfl)) rfl
def mX8_countIndexEntries : MD := (yX8_countIndexEntries, cX8_countIndexEntries, 5, (some .int), false)
theorem okX8_countIndexEntries : MOk mX8_countIndexEntries 2 := ⟨by decide +kernel, lw_g_in (t2_in (List.mem_of_getElem? (i := 170) rfl)) rfl, lw_g_in (t1_in (List.mem_of_getElem? (i := 1) rfl)) rfl, ⟨by decide +kernel, by decide +kernel, by decide +kernel⟩, by decide +kernel, fun h => absurd h (by decide)⟩
theorem inX8_countIndexEntries : Cond.instanceMethod mX8_countIndexEntries.1 ∈ lw_g := lw_g_in (t2_in (List.mem_of_getElem? (i := 169) rfl)) rfl
theorem seX8_countIndexEntries : Cond.selects mX8_countIndexEntries.1.cls mX8_countIndexEntries.1 mX8_countIndexEntries.1 ∈ lw_g := lw_g_in (sels_in (List.mem_of_getElem? (i := 26) rfl)) rfl
def mX8_hasOwnValue : MD := (yX8_hasOwnValue, cX8_hasOwnValue, 4, (some .boolean), false)
theorem okX8_hasOwnValue : MOk mX8_hasOwnValue 3 := ⟨by decide +kernel, lw_g_in (t2_in (List.mem_of_getElem? (i := 174) rfl)) rfl, lw_g_in (t1_in (List.mem_of_getElem? (i := 1) rfl)) rfl, ⟨by decide +kernel, by decide +kernel, by decide +kernel⟩, by decide +kernel, fun h => absurd h (by decide)⟩
theorem inX8_hasOwnValue : Cond.instanceMethod mX8_hasOwnValue.1 ∈ lw_g := lw_g_in (t2_in (List.mem_of_getElem? (i := 173) rfl)) rfl
theorem seX8_hasOwnValue : Cond.selects mX8_hasOwnValue.1.cls mX8_hasOwnValue.1 mX8_hasOwnValue.1 ∈ lw_g := lw_g_in (sels_in (List.mem_of_getElem? (i := 27) rfl)) rfl
def mX8_valueIn : MD := (yX8_valueIn, cX8_valueIn, 3, (some .int), false)
theorem okX8_valueIn : MOk mX8_valueIn 2 := ⟨by decide +kernel, lw_g_in (t2_in (List.mem_of_getElem? (i := 178) rfl)) rfl, lw_g_in (t1_in (List.mem_of_getElem? (i := 1) rfl)) rfl, ⟨by decide +kernel, by decide +kernel, by decide +kernel⟩, by decide +kernel, fun h => absurd h (by decide)⟩
theorem inX8_valueIn : Cond.instanceMethod mX8_valueIn.1 ∈ lw_g := lw_g_in (t2_in (List.mem_of_getElem? (i := 177) rfl)) rfl
theorem seX8_valueIn : Cond.selects mX8_valueIn.1.cls mX8_valueIn.1 mX8_valueIn.1 ∈ lw_g := lw_g_in (sels_in (List.mem_of_getElem? (i := 28) rfl)) rfl
def mX6_hasRoomFor : MD := (yX6_hasRoomFor, cX6_hasRoomFor, 2, (some .boolean), false)
theorem okX6_hasRoomFor : MOk mX6_hasRoomFor 1 := ⟨by decide +kernel, lw_g_in (t2_in (List.mem_of_getElem? (i := 183) rfl)) rfl, lw_g_in (t1_in (List.mem_of_getElem? (i := 2) rfl)) rfl, ⟨by decide +kernel, by decide +kernel, by decide +kernel⟩, by decide +kernel, fun h => absurd h (by decide)⟩
theorem inX6_hasRoomFor : Cond.instanceMethod mX6_hasRoomFor.1 ∈ lw_g := lw_g_in (t2_in (List.mem_of_getElem? (i := 182) rfl)) rfl
theorem seX6_hasRoomFor : Cond.selects mX6_hasRoomFor.1.cls mX6_hasRoomFor.1 mX6_hasRoomFor.1 ∈ lw_g := lw_g_in (sels_in (List.mem_of_getElem? (i := 29) rfl)) rfl
def mX8_takeBatch : MD := (yX8_takeBatch, cX8_takeBatch, 6, none, false)
theorem okX8_takeBatch : MOk mX8_takeBatch 1 := ⟨by decide +kernel, lw_g_in (t2_in (List.mem_of_getElem? (i := 187) rfl)) rfl, lw_g_in (t1_in (List.mem_of_getElem? (i := 1) rfl)) rfl, ⟨by decide +kernel, by decide +kernel, by decide +kernel⟩, by decide +kernel, fun h => absurd h (by decide)⟩
theorem inX8_takeBatch : Cond.instanceMethod mX8_takeBatch.1 ∈ lw_g := lw_g_in (t2_in (List.mem_of_getElem? (i := 186) rfl)) rfl
theorem seX8_takeBatch : Cond.selects mX8_takeBatch.1.cls mX8_takeBatch.1 mX8_takeBatch.1 ∈ lw_g := lw_g_in (sels_in (List.mem_of_getElem? (i := 30) rfl)) rfl
def mX0_init : MD := (yX0_init, cX0_init, 6, none, true)
theorem okX0_init : MOk mX0_init 5 := ⟨by decide +kernel, lw_g_in (t2_in (List.mem_of_getElem? (i := 191) rfl)) rfl, lw_g_in (t1_in (List.mem_of_getElem? (i := 9) rfl)) rfl, ⟨by decide +kernel, by decide +kernel, by decide +kernel⟩, by decide +kernel, fun _ => rfl⟩
theorem inX0_init : Cond.instanceMethod mX0_init.1 ∈ lw_g := lw_g_in (t2_in (List.mem_of_getElem? (i := 190) rfl)) rfl
def mX6_add : MD := (yX6_add, cX6_add, 4, none, false)
theorem okX6_add : MOk mX6_add 1 := ⟨by decide +kernel, lw_g_in (t2_in (List.mem_of_getElem? (i := 231) rfl)) rfl, lw_g_in (t1_in (List.mem_of_getElem? (i := 2) rfl)) rfl, ⟨by decide +kernel, by decide +kernel, by decide +kernel⟩, by decide +kernel, fun h => absurd h (by decide)⟩
theorem inX6_add : Cond.instanceMethod mX6_add.1 ∈ lw_g := lw_g_in (t2_in (List.mem_of_getElem? (i := 230) rfl)) rfl
theorem seX6_add : Cond.selects mX6_add.1.cls mX6_add.1 mX6_add.1 ∈ lw_g := lw_g_in (sels_in (List.mem_of_getElem? (i := 31) rfl)) rfl
def mX8_addIndexEntries : MD := (yX8_addIndexEntries, cX8_addIndexEntries, 6, none, false)
theorem okX8_addIndexEntries : MOk mX8_addIndexEntries 4 := ⟨by decide +kernel, lw_g_in (t2_in (List.mem_of_getElem? (i := 236) rfl)) rfl, lw_g_in (t1_in (List.mem_of_getElem? (i := 1) rfl)) rfl, ⟨by decide +kernel, by decide +kernel, by decide +kernel⟩, by decide +kernel, fun h => absurd h (by decide)⟩
theorem inX8_addIndexEntries : Cond.instanceMethod mX8_addIndexEntries.1 ∈ lw_g := lw_g_in (t2_in (List.mem_of_getElem? (i := 235) rfl)) rfl
theorem seX8_addIndexEntries : Cond.selects mX8_addIndexEntries.1.cls mX8_addIndexEntries.1 mX8_addIndexEntries.1 ∈ lw_g := lw_g_in (sels_in (List.mem_of_getElem? (i := 32) rfl)) rfl
def mX8_flushAndMerge : MD := (yX8_flushAndMerge, cX8_flushAndMerge, 4, none, false)
theorem okX8_flushAndMerge : MOk mX8_flushAndMerge 0 := ⟨by decide +kernel, lw_g_in (t3_in (List.mem_of_getElem? (i := 0) rfl)) rfl, lw_g_in (t1_in (List.mem_of_getElem? (i := 1) rfl)) rfl, ⟨by decide +kernel, by decide +kernel, by decide +kernel⟩, by decide +kernel, fun h => absurd h (by decide)⟩
theorem inX8_flushAndMerge : Cond.instanceMethod mX8_flushAndMerge.1 ∈ lw_g := lw_g_in (t2_in (List.mem_of_getElem? (i := 239) rfl)) rfl
theorem seX8_flushAndMerge : Cond.selects mX8_flushAndMerge.1.cls mX8_flushAndMerge.1 mX8_flushAndMerge.1 ∈ lw_g := lw_g_in (sels_in (List.mem_of_getElem? (i := 33) rfl)) rfl
def mX6_writeMemoryOut : MD := (yX6_writeMemoryOut, cX6_writeMemoryOut, 5, (some .int), false)
theorem okX6_writeMemoryOut : MOk mX6_writeMemoryOut 0 := ⟨by decide +kernel, lw_g_in (t3_in (List.mem_of_getElem? (i := 4) rfl)) rfl, lw_g_in (t1_in (List.mem_of_getElem? (i := 2) rfl)) rfl, ⟨by decide +kernel, by decide +kernel, by decide +kernel⟩, by decide +kernel, fun h => absurd h (by decide)⟩
theorem inX6_writeMemoryOut : Cond.instanceMethod mX6_writeMemoryOut.1 ∈ lw_g := lw_g_in (t3_in (List.mem_of_getElem? (i := 3) rfl)) rfl
theorem seX6_writeMemoryOut : Cond.selects mX6_writeMemoryOut.1.cls mX6_writeMemoryOut.1 mX6_writeMemoryOut.1 ∈ lw_g := lw_g_in (sels_in (List.mem_of_getElem? (i := 34) rfl)) rfl
def mX6_newFile : MD := (yX6_newFile, cX6_newFile, 4, (some (.object "VersionedRows$SortedFile")), false)
theorem okX6_newFile : MOk mX6_newFile 2 := ⟨by decide +kernel, lw_g_in (t3_in (List.mem_of_getElem? (i := 8) rfl)) rfl, lw_g_in (t1_in (List.mem_of_getElem? (i := 2) rfl)) rfl, ⟨by decide +kernel, by decide +kernel, by decide +kernel⟩, by decide +kernel, fun h => absurd h (by decide)⟩
theorem inX6_newFile : Cond.instanceMethod mX6_newFile.1 ∈ lw_g := lw_g_in (t3_in (List.mem_of_getElem? (i := 7) rfl)) rfl
theorem seX6_newFile : Cond.selects mX6_newFile.1.cls mX6_newFile.1 mX6_newFile.1 ∈ lw_g := lw_g_in (sels_in (List.mem_of_getElem? (i := 35) rfl)) rfl
def mX5_init : MD := (yX5_init, cX5_init, 4, none, true)
theorem okX5_init : MOk mX5_init 3 := ⟨by decide +kernel, lw_g_in (t3_in (List.mem_of_getElem? (i := 13) rfl)) rfl, lw_g_in (t1_in (List.mem_of_getElem? (i := 13) rfl)) rfl, ⟨by decide +kernel, by decide +kernel, by decide +kernel⟩, by decide +kernel, fun _ => rfl⟩
theorem inX5_init : Cond.instanceMethod mX5_init.1 ∈ lw_g := lw_g_in (t3_in (List.mem_of_getElem? (i := 12) rfl)) rfl
def mJx4a65c_add_9ea2d : MD := (yJx4a65c_add_9ea2d, cJx4a65c_add_9ea2d, 2, (some .boolean), false)
theorem okJx4a65c_add_9ea2d : MOk mJx4a65c_add_9ea2d 1 := ⟨by decide +kernel, lw_g_in (t3_in (List.mem_of_getElem? (i := 39) rfl)) rfl, lw_g_in (t1_in (List.mem_of_getElem? (i := 5) rfl)) rfl, ⟨by decide +kernel, by decide +kernel, by decide +kernel⟩, by decide +kernel, fun h => absurd h (by decide)⟩
theorem inJx4a65c_add_9ea2d : Cond.instanceMethod mJx4a65c_add_9ea2d.1 ∈ lw_g := lw_g_in (t3_in (List.mem_of_getElem? (i := 37) rfl)) rfl
theorem seJx4a65c_add_9ea2d : Cond.selects mJx4a65c_add_9ea2d.1.cls mJx4a65c_add_9ea2d.1 mJx4a65c_add_9ea2d.1 ∈ lw_g := lw_g_in (t3_in (List.mem_of_getElem? (i := 38) rfl)) rfl
def mJx4a65c_add_72be8 : MD := (yJx4a65c_add_72be8, cJx4a65c_add_72be8, 4, none, false)
theorem okJx4a65c_add_72be8 : MOk mJx4a65c_add_72be8 3 := ⟨by decide +kernel, lw_g_in (t3_in (List.mem_of_getElem? (i := 43) rfl)) rfl, lw_g_in (t1_in (List.mem_of_getElem? (i := 5) rfl)) rfl, ⟨by decide +kernel, by decide +kernel, by decide +kernel⟩, by decide +kernel, fun h => absurd h (by decide)⟩
theorem inJx4a65c_add_72be8 : Cond.instanceMethod mJx4a65c_add_72be8.1 ∈ lw_g := lw_g_in (t3_in (List.mem_of_getElem? (i := 42) rfl)) rfl
theorem seJx4a65c_add_72be8 : Cond.selects mJx4a65c_add_72be8.1.cls mJx4a65c_add_72be8.1 mJx4a65c_add_72be8.1 ∈ lw_g := lw_g_in (sels_in (List.mem_of_getElem? (i := 36) rfl)) rfl
def mJx4a65c_grow_d5877 : MD := (yJx4a65c_grow_d5877, cJx4a65c_grow_d5877, 1, (some (.array (.object "java/lang/Object"))), false)
theorem okJx4a65c_grow_d5877 : MOk mJx4a65c_grow_d5877 0 := ⟨by decide +kernel, lw_g_in (t3_in (List.mem_of_getElem? (i := 47) rfl)) rfl, lw_g_in (t1_in (List.mem_of_getElem? (i := 5) rfl)) rfl, ⟨by decide +kernel, by decide +kernel, by decide +kernel⟩, by decide +kernel, fun h => absurd h (by decide)⟩
theorem inJx4a65c_grow_d5877 : Cond.instanceMethod mJx4a65c_grow_d5877.1 ∈ lw_g := lw_g_in (t3_in (List.mem_of_getElem? (i := 46) rfl)) rfl
theorem seJx4a65c_grow_d5877 : Cond.selects mJx4a65c_grow_d5877.1.cls mJx4a65c_grow_d5877.1 mJx4a65c_grow_d5877.1 ∈ lw_g := lw_g_in (sels_in (List.mem_of_getElem? (i := 37) rfl)) rfl
def mJx4a65c_grow_92f84 : MD := (yJx4a65c_grow_92f84, cJx4a65c_grow_92f84, 4, (some (.array (.object "java/lang/Object"))), false)
theorem okJx4a65c_grow_92f84 : MOk mJx4a65c_grow_92f84 1 := ⟨by decide +kernel, lw_g_in (t3_in (List.mem_of_getElem? (i := 51) rfl)) rfl, lw_g_in (t1_in (List.mem_of_getElem? (i := 5) rfl)) rfl, ⟨by decide +kernel, by decide +kernel, by decide +kernel⟩, by decide +kernel, fun h => absurd h (by decide)⟩
theorem inJx4a65c_grow_92f84 : Cond.instanceMethod mJx4a65c_grow_92f84.1 ∈ lw_g := lw_g_in (t3_in (List.mem_of_getElem? (i := 50) rfl)) rfl
theorem seJx4a65c_grow_92f84 : Cond.selects mJx4a65c_grow_92f84.1.cls mJx4a65c_grow_92f84.1 mJx4a65c_grow_92f84.1 ∈ lw_g := lw_g_in (sels_in (List.mem_of_getElem? (i := 38) rfl)) rfl
def mJ8_newLength_cabcc : MD := (yJ8_newLength_cabcc, cJ8_newLength_cabcc, 4, (some .int), false)
theorem okJ8_newLength_cabcc : MOk mJ8_newLength_cabcc 3 := ⟨by decide +kernel, lw_g_in (t3_in (List.mem_of_getElem? (i := 54) rfl)) rfl, lw_g_in (t1_in (List.mem_of_getElem? (i := 14) rfl)) rfl, ⟨by decide +kernel, by decide +kernel, by decide +kernel⟩, by decide +kernel, fun h => absurd h (by decide)⟩
theorem stJ8_newLength_cabcc : Cond.static mJ8_newLength_cabcc.1 ∈ lw_g := lw_g_in (t3_in (List.mem_of_getElem? (i := 53) rfl)) rfl
def mJ9_max_7cf53 : MD := (yJ9_max_7cf53, cJ9_max_7cf53, 2, (some .int), false)
theorem cdJ9_max_7cf53 : Cond.code mJ9_max_7cf53.1 mJ9_max_7cf53.2.1 mJ9_max_7cf53.2.2.1 mJ9_max_7cf53.2.2.2.1 ∈ lw_g := lw_g_in (t3_in (List.mem_of_getElem? (i := 57) rfl)) rfl
theorem stJ9_max_7cf53 : Cond.static mJ9_max_7cf53.1 ∈ lw_g := lw_g_in (t3_in (List.mem_of_getElem? (i := 56) rfl)) rfl
def mJ8_hugeLength_7cf53 : MD := (yJ8_hugeLength_7cf53, cJ8_hugeLength_7cf53, 3, (some .int), false)
theorem okJ8_hugeLength_7cf53 : MOk mJ8_hugeLength_7cf53 2 := ⟨by decide +kernel, lw_g_in (t3_in (List.mem_of_getElem? (i := 61) rfl)) rfl, lw_g_in (t1_in (List.mem_of_getElem? (i := 14) rfl)) rfl, ⟨by decide +kernel, by decide +kernel, by decide +kernel⟩, by decide +kernel, fun h => absurd h (by decide)⟩
theorem stJ8_hugeLength_7cf53 : Cond.static mJ8_hugeLength_7cf53.1 ∈ lw_g := lw_g_in (t3_in (List.mem_of_getElem? (i := 60) rfl)) rfl
def mJ7_copyOf_1904c : MD := (yJ7_copyOf_1904c, cJ7_copyOf_1904c, 2, (some (.array (.object "java/lang/Object"))), false)
theorem okJ7_copyOf_1904c : MOk mJ7_copyOf_1904c 2 := ⟨by decide +kernel, lw_g_in (t3_in (List.mem_of_getElem? (i := 64) rfl)) rfl, lw_g_in (t1_in (List.mem_of_getElem? (i := 15) rfl)) rfl, ⟨by decide +kernel, by decide +kernel, by decide +kernel⟩, by decide +kernel, fun h => absurd h (by decide)⟩
theorem stJ7_copyOf_1904c : Cond.static mJ7_copyOf_1904c.1 ∈ lw_g := lw_g_in (t3_in (List.mem_of_getElem? (i := 63) rfl)) rfl
def mJ7_copyOf_6403c : MD := (yJ7_copyOf_6403c, cJ7_copyOf_6403c, 4, (some (.array (.object "java/lang/Object"))), false)
theorem okJ7_copyOf_6403c : MOk mJ7_copyOf_6403c 3 := ⟨by decide +kernel, lw_g_in (t3_in (List.mem_of_getElem? (i := 82) rfl)) rfl, lw_g_in (t1_in (List.mem_of_getElem? (i := 15) rfl)) rfl, ⟨by decide +kernel, by decide +kernel, by decide +kernel⟩, by decide +kernel, fun h => absurd h (by decide)⟩
theorem stJ7_copyOf_6403c : Cond.static mJ7_copyOf_6403c.1 ∈ lw_g := lw_g_in (t3_in (List.mem_of_getElem? (i := 81) rfl)) rfl
def mJ9_min_7cf53 : MD := (yJ9_min_7cf53, cJ9_min_7cf53, 2, (some .int), false)
theorem cdJ9_min_7cf53 : Cond.code mJ9_min_7cf53.1 mJ9_min_7cf53.2.1 mJ9_min_7cf53.2.2.1 mJ9_min_7cf53.2.2.2.1 ∈ lw_g := lw_g_in (t3_in (List.mem_of_getElem? (i := 88) rfl)) rfl
theorem stJ9_min_7cf53 : Cond.static mJ9_min_7cf53.1 ∈ lw_g := lw_g_in (t3_in (List.mem_of_getElem? (i := 87) rfl)) rfl
def mX5_append : MD := (yX5_append, cX5_append, 2, none, false)
theorem okX5_append : MOk mX5_append 1 := ⟨by decide +kernel, lw_g_in (t3_in (List.mem_of_getElem? (i := 97) rfl)) rfl, lw_g_in (t1_in (List.mem_of_getElem? (i := 13) rfl)) rfl, ⟨by decide +kernel, by decide +kernel, by decide +kernel⟩, by decide +kernel, fun h => absurd h (by decide)⟩
theorem inX5_append : Cond.instanceMethod mX5_append.1 ∈ lw_g := lw_g_in (t3_in (List.mem_of_getElem? (i := 96) rfl)) rfl
theorem seX5_append : Cond.selects mX5_append.1.cls mX5_append.1 mX5_append.1 ∈ lw_g := lw_g_in (sels_in (List.mem_of_getElem? (i := 39) rfl)) rfl
def mX8_horizon : MD := (yX8_horizon, cX8_horizon, 3, (some .int), false)
theorem okX8_horizon : MOk mX8_horizon 0 := ⟨by decide +kernel, lw_g_in (t3_in (List.mem_of_getElem? (i := 101) rfl)) rfl, lw_g_in (t1_in (List.mem_of_getElem? (i := 1) rfl)) rfl, ⟨by decide +kernel, by decide +kernel, by decide +kernel⟩, by decide +kernel, fun h => absurd h (by decide)⟩
theorem inX8_horizon : Cond.instanceMethod mX8_horizon.1 ∈ lw_g := lw_g_in (t3_in (List.mem_of_getElem? (i := 100) rfl)) rfl
theorem seX8_horizon : Cond.selects mX8_horizon.1.cls mX8_horizon.1 mX8_horizon.1 ∈ lw_g := lw_g_in (sels_in (List.mem_of_getElem? (i := 40) rfl)) rfl
def mX6_overfullLevel : MD := (yX6_overfullLevel, cX6_overfullLevel, 1, (some .int), false)
theorem okX6_overfullLevel : MOk mX6_overfullLevel 0 := ⟨by decide +kernel, lw_g_in (t3_in (List.mem_of_getElem? (i := 107) rfl)) rfl, lw_g_in (t1_in (List.mem_of_getElem? (i := 2) rfl)) rfl, ⟨by decide +kernel, by decide +kernel, by decide +kernel⟩, by decide +kernel, fun h => absurd h (by decide)⟩
theorem inX6_overfullLevel : Cond.instanceMethod mX6_overfullLevel.1 ∈ lw_g := lw_g_in (t3_in (List.mem_of_getElem? (i := 106) rfl)) rfl
theorem seX6_overfullLevel : Cond.selects mX6_overfullLevel.1.cls mX6_overfullLevel.1 mX6_overfullLevel.1 ∈ lw_g := lw_g_in (sels_in (List.mem_of_getElem? (i := 41) rfl)) rfl
def mX6_countFiles : MD := (yX6_countFiles, cX6_countFiles, 4, (some .int), false)
theorem okX6_countFiles : MOk mX6_countFiles 1 := ⟨by decide +kernel, lw_g_in (t3_in (List.mem_of_getElem? (i := 111) rfl)) rfl, lw_g_in (t1_in (List.mem_of_getElem? (i := 2) rfl)) rfl, ⟨by decide +kernel, by decide +kernel, by decide +kernel⟩, by decide +kernel, fun h => absurd h (by decide)⟩
theorem inX6_countFiles : Cond.instanceMethod mX6_countFiles.1 ∈ lw_g := lw_g_in (t3_in (List.mem_of_getElem? (i := 110) rfl)) rfl
theorem seX6_countFiles : Cond.selects mX6_countFiles.1.cls mX6_countFiles.1 mX6_countFiles.1 ∈ lw_g := lw_g_in (sels_in (List.mem_of_getElem? (i := 42) rfl)) rfl
def mJx4a65c_size_8abf5 : MD := (yJx4a65c_size_8abf5, cJx4a65c_size_8abf5, 1, (some .int), false)
theorem okJx4a65c_size_8abf5 : MOk mJx4a65c_size_8abf5 0 := ⟨by decide +kernel, lw_g_in (t3_in (List.mem_of_getElem? (i := 115) rfl)) rfl, lw_g_in (t1_in (List.mem_of_getElem? (i := 5) rfl)) rfl, ⟨by decide +kernel, by decide +kernel, by decide +kernel⟩, by decide +kernel, fun h => absurd h (by decide)⟩
theorem inJx4a65c_size_8abf5 : Cond.instanceMethod mJx4a65c_size_8abf5.1 ∈ lw_g := lw_g_in (t3_in (List.mem_of_getElem? (i := 113) rfl)) rfl
theorem seJx4a65c_size_8abf5 : Cond.selects mJx4a65c_size_8abf5.1.cls mJx4a65c_size_8abf5.1 mJx4a65c_size_8abf5.1 ∈ lw_g := lw_g_in (t3_in (List.mem_of_getElem? (i := 114) rfl)) rfl
def mJx4a65c_get_915e3 : MD := (yJx4a65c_get_915e3, cJx4a65c_get_915e3, 2, (some (.object "java/lang/Object")), false)
theorem okJx4a65c_get_915e3 : MOk mJx4a65c_get_915e3 1 := ⟨by decide +kernel, lw_g_in (t3_in (List.mem_of_getElem? (i := 119) rfl)) rfl, lw_g_in (t1_in (List.mem_of_getElem? (i := 5) rfl)) rfl, ⟨by decide +kernel, by decide +kernel, by decide +kernel⟩, by decide +kernel, fun h => absurd h (by decide)⟩
theorem inJx4a65c_get_915e3 : Cond.instanceMethod mJx4a65c_get_915e3.1 ∈ lw_g := lw_g_in (t3_in (List.mem_of_getElem? (i := 117) rfl)) rfl
theorem seJx4a65c_get_915e3 : Cond.selects mJx4a65c_get_915e3.1.cls mJx4a65c_get_915e3.1 mJx4a65c_get_915e3.1 ∈ lw_g := lw_g_in (t3_in (List.mem_of_getElem? (i := 118) rfl)) rfl
def mJ15_checkIndex_7cf53 : MD := (yJ15_checkIndex_7cf53, cJ15_checkIndex_7cf53, 2, (some .int), false)
theorem okJ15_checkIndex_7cf53 : MOk mJ15_checkIndex_7cf53 2 := ⟨by decide +kernel, lw_g_in (t3_in (List.mem_of_getElem? (i := 122) rfl)) rfl, lw_g_in (t1_in (List.mem_of_getElem? (i := 17) rfl)) rfl, ⟨by decide +kernel, by decide +kernel, by decide +kernel⟩, by decide +kernel, fun h => absurd h (by decide)⟩
theorem stJ15_checkIndex_7cf53 : Cond.static mJ15_checkIndex_7cf53.1 ∈ lw_g := lw_g_in (t3_in (List.mem_of_getElem? (i := 121) rfl)) rfl
def mJ3_checkIndex_8e157 : MD := (yJ3_checkIndex_8e157, cJ3_checkIndex_8e157, 3, (some .int), false)
theorem okJ3_checkIndex_8e157 : MOk mJ3_checkIndex_8e157 3 := ⟨by decide +kernel, lw_g_in (t3_in (List.mem_of_getElem? (i := 125) rfl)) rfl, lw_g_in (t1_in (List.mem_of_getElem? (i := 18) rfl)) rfl, ⟨by decide +kernel, by decide +kernel, by decide +kernel⟩, by decide +kernel, fun h => absurd h (by decide)⟩
theorem stJ3_checkIndex_8e157 : Cond.static mJ3_checkIndex_8e157.1 ∈ lw_g := lw_g_in (t3_in (List.mem_of_getElem? (i := 124) rfl)) rfl
def mJx4a65c_elementData_915e3 : MD := (yJx4a65c_elementData_915e3, cJx4a65c_elementData_915e3, 2, (some (.object "java/lang/Object")), false)
theorem okJx4a65c_elementData_915e3 : MOk mJx4a65c_elementData_915e3 1 := ⟨by decide +kernel, lw_g_in (t3_in (List.mem_of_getElem? (i := 129) rfl)) rfl, lw_g_in (t1_in (List.mem_of_getElem? (i := 5) rfl)) rfl, ⟨by decide +kernel, by decide +kernel, by decide +kernel⟩, by decide +kernel, fun h => absurd h (by decide)⟩
theorem inJx4a65c_elementData_915e3 : Cond.instanceMethod mJx4a65c_elementData_915e3.1 ∈ lw_g := lw_g_in (t3_in (List.mem_of_getElem? (i := 127) rfl)) rfl
theorem seJx4a65c_elementData_915e3 : Cond.selects mJx4a65c_elementData_915e3.1.cls mJx4a65c_elementData_915e3.1 mJx4a65c_elementData_915e3.1 ∈ lw_g := lw_g_in (t3_in (List.mem_of_getElem? (i := 128) rfl)) rfl
def mX6_mergeDown : MD := (yX6_mergeDown, cX6_mergeDown, 4, (some .int), false)
theorem okX6_mergeDown : MOk mX6_mergeDown 2 := ⟨by decide +kernel, lw_g_in (t3_in (List.mem_of_getElem? (i := 133) rfl)) rfl, lw_g_in (t1_in (List.mem_of_getElem? (i := 2) rfl)) rfl, ⟨by decide +kernel, by decide +kernel, by decide +kernel⟩, by decide +kernel, fun h => absurd h (by decide)⟩
theorem inX6_mergeDown : Cond.instanceMethod mX6_mergeDown.1 ∈ lw_g := lw_g_in (t3_in (List.mem_of_getElem? (i := 132) rfl)) rfl
theorem seX6_mergeDown : Cond.selects mX6_mergeDown.1.cls mX6_mergeDown.1 mX6_mergeDown.1 ∈ lw_g := lw_g_in (sels_in (List.mem_of_getElem? (i := 43) rfl)) rfl
def mX6_fileOn : MD := (yX6_fileOn, cX6_fileOn, 6, (some (.object "VersionedRows$SortedFile")), false)
theorem okX6_fileOn : MOk mX6_fileOn 2 := ⟨by decide +kernel, lw_g_in (t3_in (List.mem_of_getElem? (i := 137) rfl)) rfl, lw_g_in (t1_in (List.mem_of_getElem? (i := 2) rfl)) rfl, ⟨by decide +kernel, by decide +kernel, by decide +kernel⟩, by decide +kernel, fun h => absurd h (by decide)⟩
theorem inX6_fileOn : Cond.instanceMethod mX6_fileOn.1 ∈ lw_g := lw_g_in (t3_in (List.mem_of_getElem? (i := 136) rfl)) rfl
theorem seX6_fileOn : Cond.selects mX6_fileOn.1.cls mX6_fileOn.1 mX6_fileOn.1 ∈ lw_g := lw_g_in (sels_in (List.mem_of_getElem? (i := 44) rfl)) rfl
def mX6_retire : MD := (yX6_retire, cX6_retire, 4, none, false)
theorem okX6_retire : MOk mX6_retire 1 := ⟨by decide +kernel, lw_g_in (t3_in (List.mem_of_getElem? (i := 141) rfl)) rfl, lw_g_in (t1_in (List.mem_of_getElem? (i := 2) rfl)) rfl, ⟨by decide +kernel, by decide +kernel, by decide +kernel⟩, by decide +kernel, fun h => absurd h (by decide)⟩
theorem inX6_retire : Cond.instanceMethod mX6_retire.1 ∈ lw_g := lw_g_in (t3_in (List.mem_of_getElem? (i := 140) rfl)) rfl
theorem seX6_retire : Cond.selects mX6_retire.1.cls mX6_retire.1 mX6_retire.1 ∈ lw_g := lw_g_in (sels_in (List.mem_of_getElem? (i := 45) rfl)) rfl
def mX5_meets : MD := (yX5_meets, cX5_meets, 2, (some .boolean), false)
theorem okX5_meets : MOk mX5_meets 1 := ⟨by decide +kernel, lw_g_in (t3_in (List.mem_of_getElem? (i := 145) rfl)) rfl, lw_g_in (t1_in (List.mem_of_getElem? (i := 13) rfl)) rfl, ⟨by decide +kernel, by decide +kernel, by decide +kernel⟩, by decide +kernel, fun h => absurd h (by decide)⟩
theorem inX5_meets : Cond.instanceMethod mX5_meets.1 ∈ lw_g := lw_g_in (t3_in (List.mem_of_getElem? (i := 144) rfl)) rfl
theorem seX5_meets : Cond.selects mX5_meets.1.cls mX5_meets.1 mX5_meets.1 ∈ lw_g := lw_g_in (sels_in (List.mem_of_getElem? (i := 46) rfl)) rfl
def mJx4a65c_remove_915e3 : MD := (yJx4a65c_remove_915e3, cJx4a65c_remove_915e3, 4, (some (.object "java/lang/Object")), false)
theorem okJx4a65c_remove_915e3 : MOk mJx4a65c_remove_915e3 1 := ⟨by decide +kernel, lw_g_in (t3_in (List.mem_of_getElem? (i := 149) rfl)) rfl, lw_g_in (t1_in (List.mem_of_getElem? (i := 5) rfl)) rfl, ⟨by decide +kernel, by decide +kernel, by decide +kernel⟩, by decide +kernel, fun h => absurd h (by decide)⟩
theorem inJx4a65c_remove_915e3 : Cond.instanceMethod mJx4a65c_remove_915e3.1 ∈ lw_g := lw_g_in (t3_in (List.mem_of_getElem? (i := 147) rfl)) rfl
theorem seJx4a65c_remove_915e3 : Cond.selects mJx4a65c_remove_915e3.1.cls mJx4a65c_remove_915e3.1 mJx4a65c_remove_915e3.1 ∈ lw_g := lw_g_in (t3_in (List.mem_of_getElem? (i := 148) rfl)) rfl
def mJx4a65c_fastRemove_b59b0 : MD := (yJx4a65c_fastRemove_b59b0, cJx4a65c_fastRemove_b59b0, 4, none, false)
theorem okJx4a65c_fastRemove_b59b0 : MOk mJx4a65c_fastRemove_b59b0 2 := ⟨by decide +kernel, lw_g_in (t3_in (List.mem_of_getElem? (i := 153) rfl)) rfl, lw_g_in (t1_in (List.mem_of_getElem? (i := 5) rfl)) rfl, ⟨by decide +kernel, by decide +kernel, by decide +kernel⟩, by decide +kernel, fun h => absurd h (by decide)⟩
theorem inJx4a65c_fastRemove_b59b0 : Cond.instanceMethod mJx4a65c_fastRemove_b59b0.1 ∈ lw_g := lw_g_in (t3_in (List.mem_of_getElem? (i := 152) rfl)) rfl
theorem seJx4a65c_fastRemove_b59b0 : Cond.selects mJx4a65c_fastRemove_b59b0.1.cls mJx4a65c_fastRemove_b59b0.1 mJx4a65c_fastRemove_b59b0.1 ∈ lw_g := lw_g_in (sels_in (List.mem_of_getElem? (i := 47) rfl)) rfl
def mX6_moveRetired : MD := (yX6_moveRetired, cX6_moveRetired, 8, (some .int), false)
theorem okX6_moveRetired : MOk mX6_moveRetired 2 := ⟨by decide +kernel, lw_g_in (t3_in (List.mem_of_getElem? (i := 158) rfl)) rfl, lw_g_in (t1_in (List.mem_of_getElem? (i := 2) rfl)) rfl, ⟨by decide +kernel, by decide +kernel, by decide +kernel⟩, by decide +kernel, fun h => absurd h (by decide)⟩
theorem inX6_moveRetired : Cond.instanceMethod mX6_moveRetired.1 ∈ lw_g := lw_g_in (t3_in (List.mem_of_getElem? (i := 157) rfl)) rfl
theorem seX6_moveRetired : Cond.selects mX6_moveRetired.1.cls mX6_moveRetired.1 mX6_moveRetired.1 ∈ lw_g := lw_g_in (sels_in (List.mem_of_getElem? (i := 48) rfl)) rfl
def mX4_init : MD := (yX4_init, cX4_init, 3, none, true)
theorem okX4_init : MOk mX4_init 2 := ⟨by decide +kernel, lw_g_in (t3_in (List.mem_of_getElem? (i := 163) rfl)) rfl, lw_g_in (t1_in (List.mem_of_getElem? (i := 19) rfl)) rfl, ⟨by decide +kernel, by decide +kernel, by decide +kernel⟩, by decide +kernel, fun _ => rfl⟩
theorem inX4_init : Cond.instanceMethod mX4_init.1 ∈ lw_g := lw_g_in (t3_in (List.mem_of_getElem? (i := 162) rfl)) rfl
def mX0_isInRetiredFile : MD := (yX0_isInRetiredFile, cX0_isInRetiredFile, 1, (some .boolean), false)
theorem okX0_isInRetiredFile : MOk mX0_isInRetiredFile 0 := ⟨by decide +kernel, lw_g_in (t3_in (List.mem_of_getElem? (i := 181) rfl)) rfl, lw_g_in (t1_in (List.mem_of_getElem? (i := 9) rfl)) rfl, ⟨by decide +kernel, by decide +kernel, by decide +kernel⟩, by decide +kernel, fun h => absurd h (by decide)⟩
theorem inX0_isInRetiredFile : Cond.instanceMethod mX0_isInRetiredFile.1 ∈ lw_g := lw_g_in (t3_in (List.mem_of_getElem? (i := 180) rfl)) rfl
theorem seX0_isInRetiredFile : Cond.selects mX0_isInRetiredFile.1.cls mX0_isInRetiredFile.1 mX0_isInRetiredFile.1 ∈ lw_g := lw_g_in (sels_in (List.mem_of_getElem? (i := 49) rfl)) rfl
def mX4_keeps : MD := (yX4_keeps, cX4_keeps, 2, (some .boolean), false)
theorem okX4_keeps : MOk mX4_keeps 1 := ⟨by decide +kernel, lw_g_in (t3_in (List.mem_of_getElem? (i := 185) rfl)) rfl, lw_g_in (t1_in (List.mem_of_getElem? (i := 19) rfl)) rfl, ⟨by decide +kernel, by decide +kernel, by decide +kernel⟩, by decide +kernel, fun h => absurd h (by decide)⟩
theorem inX4_keeps : Cond.instanceMethod mX4_keeps.1 ∈ lw_g := lw_g_in (t3_in (List.mem_of_getElem? (i := 184) rfl)) rfl
theorem seX4_keeps : Cond.selects mX4_keeps.1.cls mX4_keeps.1 mX4_keeps.1 ∈ lw_g := lw_g_in (sels_in (List.mem_of_getElem? (i := 50) rfl)) rfl
def mX5_isFullBefore : MD := (yX5_isFullBefore, cX5_isFullBefore, 2, (some .boolean), false)
theorem okX5_isFullBefore : MOk mX5_isFullBefore 1 := ⟨by decide +kernel, lw_g_in (t3_in (List.mem_of_getElem? (i := 189) rfl)) rfl, lw_g_in (t1_in (List.mem_of_getElem? (i := 13) rfl)) rfl, ⟨by decide +kernel, by decide +kernel, by decide +kernel⟩, by decide +kernel, fun h => absurd h (by decide)⟩
theorem inX5_isFullBefore : Cond.instanceMethod mX5_isFullBefore.1 ∈ lw_g := lw_g_in (t3_in (List.mem_of_getElem? (i := 188) rfl)) rfl
theorem seX5_isFullBefore : Cond.selects mX5_isFullBefore.1.cls mX5_isFullBefore.1 mX5_isFullBefore.1 ∈ lw_g := lw_g_in (sels_in (List.mem_of_getElem? (i := 51) rfl)) rfl
def mX8_tear : MD := (yX8_tear, cX8_tear, 6, (some .int), false)
theorem okX8_tear : MOk mX8_tear 2 := ⟨by decide +kernel, lw_g_in (t3_in (List.mem_of_getElem? (i := 193) rfl)) rfl, lw_g_in (t1_in (List.mem_of_getElem? (i := 1) rfl)) rfl, ⟨by decide +kernel, by decide +kernel, by decide +kernel⟩, by decide +kernel, fun h => absurd h (by decide)⟩
theorem inX8_tear : Cond.instanceMethod mX8_tear.1 ∈ lw_g := lw_g_in (t3_in (List.mem_of_getElem? (i := 191) rfl)) rfl
theorem seX8_tear : Cond.selects mX8_tear.1.cls mX8_tear.1 mX8_tear.1 ∈ lw_g := lw_g_in (t3_in (List.mem_of_getElem? (i := 192) rfl)) rfl
def mX8_loseOpenOnes : MD := (yX8_loseOpenOnes, cX8_loseOpenOnes, 3, (some .int), false)
theorem okX8_loseOpenOnes : MOk mX8_loseOpenOnes 0 := ⟨by decide +kernel, lw_g_in (t3_in (List.mem_of_getElem? (i := 197) rfl)) rfl, lw_g_in (t1_in (List.mem_of_getElem? (i := 1) rfl)) rfl, ⟨by decide +kernel, by decide +kernel, by decide +kernel⟩, by decide +kernel, fun h => absurd h (by decide)⟩
theorem inX8_loseOpenOnes : Cond.instanceMethod mX8_loseOpenOnes.1 ∈ lw_g := lw_g_in (t3_in (List.mem_of_getElem? (i := 196) rfl)) rfl
theorem seX8_loseOpenOnes : Cond.selects mX8_loseOpenOnes.1.cls mX8_loseOpenOnes.1 mX8_loseOpenOnes.1 ∈ lw_g := lw_g_in (sels_in (List.mem_of_getElem? (i := 52) rfl)) rfl
def mX8_abort : MD := (yX8_abort, cX8_abort, 3, (some .boolean), false)
theorem okX8_abort : MOk mX8_abort 1 := ⟨by decide +kernel, lw_g_in (t3_in (List.mem_of_getElem? (i := 201) rfl)) rfl, lw_g_in (t1_in (List.mem_of_getElem? (i := 1) rfl)) rfl, ⟨by decide +kernel, by decide +kernel, by decide +kernel⟩, by decide +kernel, fun h => absurd h (by decide)⟩
theorem inX8_abort : Cond.instanceMethod mX8_abort.1 ∈ lw_g := lw_g_in (t3_in (List.mem_of_getElem? (i := 199) rfl)) rfl
theorem seX8_abort : Cond.selects mX8_abort.1.cls mX8_abort.1 mX8_abort.1 ∈ lw_g := lw_g_in (t3_in (List.mem_of_getElem? (i := 200) rfl)) rfl
def mX8_flush : MD := (yX8_flush, cX8_flush, 1, (some .int), false)
theorem okX8_flush : MOk mX8_flush 0 := ⟨by decide +kernel, lw_g_in (t3_in (List.mem_of_getElem? (i := 205) rfl)) rfl, lw_g_in (t1_in (List.mem_of_getElem? (i := 1) rfl)) rfl, ⟨by decide +kernel, by decide +kernel, by decide +kernel⟩, by decide +kernel, fun h => absurd h (by decide)⟩
theorem inX8_flush : Cond.instanceMethod mX8_flush.1 ∈ lw_g := lw_g_in (t3_in (List.mem_of_getElem? (i := 203) rfl)) rfl
theorem seX8_flush : Cond.selects mX8_flush.1.cls mX8_flush.1 mX8_flush.1 ∈ lw_g := lw_g_in (t3_in (List.mem_of_getElem? (i := 204) rfl)) rfl
def mX8_compact : MD := (yX8_compact, cX8_compact, 2, (some .int), false)
theorem okX8_compact : MOk mX8_compact 0 := ⟨by decide +kernel, lw_g_in (t3_in (List.mem_of_getElem? (i := 209) rfl)) rfl, lw_g_in (t1_in (List.mem_of_getElem? (i := 1) rfl)) rfl, ⟨by decide +kernel, by decide +kernel, by decide +kernel⟩, by decide +kernel, fun h => absurd h (by decide)⟩
theorem inX8_compact : Cond.instanceMethod mX8_compact.1 ∈ lw_g := lw_g_in (t3_in (List.mem_of_getElem? (i := 207) rfl)) rfl
theorem seX8_compact : Cond.selects mX8_compact.1.cls mX8_compact.1 mX8_compact.1 ∈ lw_g := lw_g_in (t3_in (List.mem_of_getElem? (i := 208) rfl)) rfl
def mX8_crash : MD := (yX8_crash, cX8_crash, 1, (some .int), false)
theorem okX8_crash : MOk mX8_crash 0 := ⟨by decide +kernel, lw_g_in (t3_in (List.mem_of_getElem? (i := 214) rfl)) rfl, lw_g_in (t1_in (List.mem_of_getElem? (i := 1) rfl)) rfl, ⟨by decide +kernel, by decide +kernel, by decide +kernel⟩, by decide +kernel, fun h => absurd h (by decide)⟩
theorem inX8_crash : Cond.instanceMethod mX8_crash.1 ∈ lw_g := lw_g_in (t3_in (List.mem_of_getElem? (i := 212) rfl)) rfl
theorem seX8_crash : Cond.selects mX8_crash.1.cls mX8_crash.1 mX8_crash.1 ∈ lw_g := lw_g_in (t3_in (List.mem_of_getElem? (i := 213) rfl)) rfl
def mX8_result : MD := (yX8_result, cX8_result, 2, (some .int), false)
theorem okX8_result : MOk mX8_result 1 := ⟨by decide +kernel, lw_g_in (t3_in (List.mem_of_getElem? (i := 218) rfl)) rfl, lw_g_in (t1_in (List.mem_of_getElem? (i := 1) rfl)) rfl, ⟨by decide +kernel, by decide +kernel, by decide +kernel⟩, by decide +kernel, fun h => absurd h (by decide)⟩
theorem inX8_result : Cond.instanceMethod mX8_result.1 ∈ lw_g := lw_g_in (t3_in (List.mem_of_getElem? (i := 216) rfl)) rfl
theorem seX8_result : Cond.selects mX8_result.1.cls mX8_result.1 mX8_result.1 ∈ lw_g := lw_g_in (t3_in (List.mem_of_getElem? (i := 217) rfl)) rfl
def mX8_plan : MD := (yX8_plan, cX8_plan, 2, (some .long), false)
theorem okX8_plan : MOk mX8_plan 1 := ⟨by decide +kernel, lw_g_in (t3_in (List.mem_of_getElem? (i := 222) rfl)) rfl, lw_g_in (t1_in (List.mem_of_getElem? (i := 1) rfl)) rfl, ⟨by decide +kernel, by decide +kernel, by decide +kernel⟩, by decide +kernel, fun h => absurd h (by decide)⟩
theorem inX8_plan : Cond.instanceMethod mX8_plan.1 ∈ lw_g := lw_g_in (t3_in (List.mem_of_getElem? (i := 220) rfl)) rfl
theorem seX8_plan : Cond.selects mX8_plan.1.cls mX8_plan.1 mX8_plan.1 ∈ lw_g := lw_g_in (t3_in (List.mem_of_getElem? (i := 221) rfl)) rfl
def mX8_state : MD := (yX8_state, cX8_state, 3, (some .int), false)
theorem okX8_state : MOk mX8_state 1 := ⟨by decide +kernel, lw_g_in (t3_in (List.mem_of_getElem? (i := 227) rfl)) rfl, lw_g_in (t1_in (List.mem_of_getElem? (i := 1) rfl)) rfl, ⟨by decide +kernel, by decide +kernel, by decide +kernel⟩, by decide +kernel, fun h => absurd h (by decide)⟩
theorem inX8_state : Cond.instanceMethod mX8_state.1 ∈ lw_g := lw_g_in (t3_in (List.mem_of_getElem? (i := 225) rfl)) rfl
theorem seX8_state : Cond.selects mX8_state.1.cls mX8_state.1 mX8_state.1 ∈ lw_g := lw_g_in (t3_in (List.mem_of_getElem? (i := 226) rfl)) rfl
def mX8_about : MD := (yX8_about, cX8_about, 2, (some .int), false)
theorem okX8_about : MOk mX8_about 1 := ⟨by decide +kernel, lw_g_in (t3_in (List.mem_of_getElem? (i := 231) rfl)) rfl, lw_g_in (t1_in (List.mem_of_getElem? (i := 1) rfl)) rfl, ⟨by decide +kernel, by decide +kernel, by decide +kernel⟩, by decide +kernel, fun h => absurd h (by decide)⟩
theorem inX8_about : Cond.instanceMethod mX8_about.1 ∈ lw_g := lw_g_in (t3_in (List.mem_of_getElem? (i := 229) rfl)) rfl
theorem seX8_about : Cond.selects mX8_about.1.cls mX8_about.1 mX8_about.1 ∈ lw_g := lw_g_in (t3_in (List.mem_of_getElem? (i := 230) rfl)) rfl
def mX8_typeOfTop : MD := (yX8_typeOfTop, cX8_typeOfTop, 2, (some .int), false)
theorem okX8_typeOfTop : MOk mX8_typeOfTop 0 := ⟨by decide +kernel, lw_g_in (t3_in (List.mem_of_getElem? (i := 235) rfl)) rfl, lw_g_in (t1_in (List.mem_of_getElem? (i := 1) rfl)) rfl, ⟨by decide +kernel, by decide +kernel, by decide +kernel⟩, by decide +kernel, fun h => absurd h (by decide)⟩
theorem inX8_typeOfTop : Cond.instanceMethod mX8_typeOfTop.1 ∈ lw_g := lw_g_in (t3_in (List.mem_of_getElem? (i := 234) rfl)) rfl
theorem seX8_typeOfTop : Cond.selects mX8_typeOfTop.1.cls mX8_typeOfTop.1 mX8_typeOfTop.1 ∈ lw_g := lw_g_in (sels_in (List.mem_of_getElem? (i := 53) rfl)) rfl
def mX8_files : MD := (yX8_files, cX8_files, 2, (some .int), false)
theorem okX8_files : MOk mX8_files 1 := ⟨by decide +kernel, lw_g_in (t3_in (List.mem_of_getElem? (i := 239) rfl)) rfl, lw_g_in (t1_in (List.mem_of_getElem? (i := 1) rfl)) rfl, ⟨by decide +kernel, by decide +kernel, by decide +kernel⟩, by decide +kernel, fun h => absurd h (by decide)⟩
theorem inX8_files : Cond.instanceMethod mX8_files.1 ∈ lw_g := lw_g_in (t3_in (List.mem_of_getElem? (i := 237) rfl)) rfl
theorem seX8_files : Cond.selects mX8_files.1.cls mX8_files.1 mX8_files.1 ∈ lw_g := lw_g_in (t3_in (List.mem_of_getElem? (i := 238) rfl)) rfl
def mX8_file : MD := (yX8_file, cX8_file, 5, (some .int), false)
theorem okX8_file : MOk mX8_file 3 := ⟨by decide +kernel, lw_g_in (t4_in (List.mem_of_getElem? (i := 3) rfl)) rfl, lw_g_in (t1_in (List.mem_of_getElem? (i := 1) rfl)) rfl, ⟨by decide +kernel, by decide +kernel, by decide +kernel⟩, by decide +kernel, fun h => absurd h (by decide)⟩
theorem inX8_file : Cond.instanceMethod mX8_file.1 ∈ lw_g := lw_g_in (t4_in (List.mem_of_getElem? (i := 1) rfl)) rfl
theorem seX8_file : Cond.selects mX8_file.1.cls mX8_file.1 mX8_file.1 ∈ lw_g := lw_g_in (t4_in (List.mem_of_getElem? (i := 2) rfl)) rfl
def mX5_tell : MD := (yX5_tell, cX5_tell, 2, (some .int), false)
theorem okX5_tell : MOk mX5_tell 1 := ⟨by decide +kernel, lw_g_in (t4_in (List.mem_of_getElem? (i := 8) rfl)) rfl, lw_g_in (t1_in (List.mem_of_getElem? (i := 13) rfl)) rfl, ⟨by decide +kernel, by decide +kernel, by decide +kernel⟩, by decide +kernel, fun h => absurd h (by decide)⟩
theorem inX5_tell : Cond.instanceMethod mX5_tell.1 ∈ lw_g := lw_g_in (t4_in (List.mem_of_getElem? (i := 7) rfl)) rfl
theorem seX5_tell : Cond.selects mX5_tell.1.cls mX5_tell.1 mX5_tell.1 ∈ lw_g := lw_g_in (sels_in (List.mem_of_getElem? (i := 54) rfl)) rfl
def mX9_init : MD := (yX9_init, cX9_init, 1, none, true)
theorem okX9_init : MOk mX9_init 0 := ⟨by decide +kernel, lw_g_in (t4_in (List.mem_of_getElem? (i := 13) rfl)) rfl, lw_g_in (t1_in (List.mem_of_getElem? (i := 6) rfl)) rfl, ⟨by decide +kernel, by decide +kernel, by decide +kernel⟩, by decide +kernel, fun _ => rfl⟩
theorem inX9_init : Cond.instanceMethod mX9_init.1 ∈ lw_g := lw_g_in (t4_in (List.mem_of_getElem? (i := 12) rfl)) rfl
def mX9_say : MD := (yX9_say, cX9_say, 8, (some .boolean), false)
theorem okX9_say : MOk mX9_say 2 := ⟨by decide +kernel, lw_g_in (t4_in (List.mem_of_getElem? (i := 133) rfl)) rfl, lw_g_in (t1_in (List.mem_of_getElem? (i := 6) rfl)) rfl, ⟨by decide +kernel, by decide +kernel, by decide +kernel⟩, by decide +kernel, fun h => absurd h (by decide)⟩
theorem inX9_say : Cond.instanceMethod mX9_say.1 ∈ lw_g := lw_g_in (t4_in (List.mem_of_getElem? (i := 131) rfl)) rfl
theorem seX9_say : Cond.selects mX9_say.1.cls mX9_say.1 mX9_say.1 ∈ lw_g := lw_g_in (t4_in (List.mem_of_getElem? (i := 132) rfl)) rfl
def mX9_isName : MD := (yX9_isName, cX9_isName, 4, (some .boolean), false)
theorem okX9_isName : MOk mX9_isName 1 := ⟨by decide +kernel, lw_g_in (t4_in (List.mem_of_getElem? (i := 136) rfl)) rfl, lw_g_in (t1_in (List.mem_of_getElem? (i := 6) rfl)) rfl, ⟨by decide +kernel, by decide +kernel, by decide +kernel⟩, by decide +kernel, fun h => absurd h (by decide)⟩
theorem stX9_isName : Cond.static mX9_isName.1 ∈ lw_g := lw_g_in (t4_in (List.mem_of_getElem? (i := 135) rfl)) rfl
def mX9_needs : MD := (yX9_needs, cX9_needs, 1, (some .int), false)
theorem okX9_needs : MOk mX9_needs 1 := ⟨by decide +kernel, lw_g_in (t4_in (List.mem_of_getElem? (i := 139) rfl)) rfl, lw_g_in (t1_in (List.mem_of_getElem? (i := 6) rfl)) rfl, ⟨by decide +kernel, by decide +kernel, by decide +kernel⟩, by decide +kernel, fun h => absurd h (by decide)⟩
theorem stX9_needs : Cond.static mX9_needs.1 ∈ lw_g := lw_g_in (t4_in (List.mem_of_getElem? (i := 138) rfl)) rfl
def mX9_index : MD := (yX9_index, cX9_index, 4, (some .int), false)
theorem okX9_index : MOk mX9_index 0 := ⟨by decide +kernel, lw_g_in (t4_in (List.mem_of_getElem? (i := 143) rfl)) rfl, lw_g_in (t1_in (List.mem_of_getElem? (i := 6) rfl)) rfl, ⟨by decide +kernel, by decide +kernel, by decide +kernel⟩, by decide +kernel, fun h => absurd h (by decide)⟩
theorem inX9_index : Cond.instanceMethod mX9_index.1 ∈ lw_g := lw_g_in (t4_in (List.mem_of_getElem? (i := 141) rfl)) rfl
theorem seX9_index : Cond.selects mX9_index.1.cls mX9_index.1 mX9_index.1 ∈ lw_g := lw_g_in (t4_in (List.mem_of_getElem? (i := 142) rfl)) rfl
def mX9_begin : MD := (yX9_begin, cX9_begin, 1, (some .int), false)
theorem okX9_begin : MOk mX9_begin 0 := ⟨by decide +kernel, lw_g_in (t4_in (List.mem_of_getElem? (i := 147) rfl)) rfl, lw_g_in (t1_in (List.mem_of_getElem? (i := 6) rfl)) rfl, ⟨by decide +kernel, by decide +kernel, by decide +kernel⟩, by decide +kernel, fun h => absurd h (by decide)⟩
theorem inX9_begin : Cond.instanceMethod mX9_begin.1 ∈ lw_g := lw_g_in (t4_in (List.mem_of_getElem? (i := 145) rfl)) rfl
theorem seX9_begin : Cond.selects mX9_begin.1.cls mX9_begin.1 mX9_begin.1 ∈ lw_g := lw_g_in (t4_in (List.mem_of_getElem? (i := 146) rfl)) rfl
def mX9_opens : MD := (yX9_opens, cX9_opens, 3, (some .int), false)
theorem okX9_opens : MOk mX9_opens 0 := ⟨by decide +kernel, lw_g_in (t4_in (List.mem_of_getElem? (i := 151) rfl)) rfl, lw_g_in (t1_in (List.mem_of_getElem? (i := 6) rfl)) rfl, ⟨by decide +kernel, by decide +kernel, by decide +kernel⟩, by decide +kernel, fun h => absurd h (by decide)⟩
theorem inX9_opens : Cond.instanceMethod mX9_opens.1 ∈ lw_g := lw_g_in (t4_in (List.mem_of_getElem? (i := 150) rfl)) rfl
theorem seX9_opens : Cond.selects mX9_opens.1.cls mX9_opens.1 mX9_opens.1 ∈ lw_g := lw_g_in (sels_in (List.mem_of_getElem? (i := 55) rfl)) rfl
def mX9_read : MD := (yX9_read, cX9_read, 5, (some .int), false)
theorem okX9_read : MOk mX9_read 3 := ⟨by decide +kernel, lw_g_in (t4_in (List.mem_of_getElem? (i := 155) rfl)) rfl, lw_g_in (t1_in (List.mem_of_getElem? (i := 6) rfl)) rfl, ⟨by decide +kernel, by decide +kernel, by decide +kernel⟩, by decide +kernel, fun h => absurd h (by decide)⟩
theorem inX9_read : Cond.instanceMethod mX9_read.1 ∈ lw_g := lw_g_in (t4_in (List.mem_of_getElem? (i := 153) rfl)) rfl
theorem seX9_read : Cond.selects mX9_read.1.cls mX9_read.1 mX9_read.1 ∈ lw_g := lw_g_in (t4_in (List.mem_of_getElem? (i := 154) rfl)) rfl
def mX9_open : MD := (yX9_open, cX9_open, 2, (some .boolean), false)
theorem okX9_open : MOk mX9_open 1 := ⟨by decide +kernel, lw_g_in (t4_in (List.mem_of_getElem? (i := 159) rfl)) rfl, lw_g_in (t1_in (List.mem_of_getElem? (i := 6) rfl)) rfl, ⟨by decide +kernel, by decide +kernel, by decide +kernel⟩, by decide +kernel, fun h => absurd h (by decide)⟩
theorem inX9_open : Cond.instanceMethod mX9_open.1 ∈ lw_g := lw_g_in (t4_in (List.mem_of_getElem? (i := 158) rfl)) rfl
theorem seX9_open : Cond.selects mX9_open.1.cls mX9_open.1 mX9_open.1 ∈ lw_g := lw_g_in (sels_in (List.mem_of_getElem? (i := 56) rfl)) rfl
def mX9_isKey : MD := (yX9_isKey, cX9_isKey, 1, (some .boolean), false)
theorem okX9_isKey : MOk mX9_isKey 1 := ⟨by decide +kernel, lw_g_in (t4_in (List.mem_of_getElem? (i := 162) rfl)) rfl, lw_g_in (t1_in (List.mem_of_getElem? (i := 6) rfl)) rfl, ⟨by decide +kernel, by decide +kernel, by decide +kernel⟩, by decide +kernel, fun h => absurd h (by decide)⟩
theorem stX9_isKey : Cond.static mX9_isKey.1 ∈ lw_g := lw_g_in (t4_in (List.mem_of_getElem? (i := 161) rfl)) rfl
def mX9_rowFor : MD := (yX9_rowFor, cX9_rowFor, 5, (some .boolean), false)
theorem okX9_rowFor : MOk mX9_rowFor 2 := ⟨by decide +kernel, lw_g_in (t4_in (List.mem_of_getElem? (i := 166) rfl)) rfl, lw_g_in (t1_in (List.mem_of_getElem? (i := 6) rfl)) rfl, ⟨by decide +kernel, by decide +kernel, by decide +kernel⟩, by decide +kernel, fun h => absurd h (by decide)⟩
theorem inX9_rowFor : Cond.instanceMethod mX9_rowFor.1 ∈ lw_g := lw_g_in (t4_in (List.mem_of_getElem? (i := 165) rfl)) rfl
theorem seX9_rowFor : Cond.selects mX9_rowFor.1.cls mX9_rowFor.1 mX9_rowFor.1 ∈ lw_g := lw_g_in (sels_in (List.mem_of_getElem? (i := 57) rfl)) rfl
def mX9_rowAt : MD := (yX9_rowAt, cX9_rowAt, 6, (some .boolean), false)
theorem okX9_rowAt : MOk mX9_rowAt 2 := ⟨by decide +kernel, lw_g_in (t4_in (List.mem_of_getElem? (i := 170) rfl)) rfl, lw_g_in (t1_in (List.mem_of_getElem? (i := 6) rfl)) rfl, ⟨by decide +kernel, by decide +kernel, by decide +kernel⟩, by decide +kernel, fun h => absurd h (by decide)⟩
theorem inX9_rowAt : Cond.instanceMethod mX9_rowAt.1 ∈ lw_g := lw_g_in (t4_in (List.mem_of_getElem? (i := 169) rfl)) rfl
theorem seX9_rowAt : Cond.selects mX9_rowAt.1.cls mX9_rowAt.1 mX9_rowAt.1 ∈ lw_g := lw_g_in (sels_in (List.mem_of_getElem? (i := 58) rfl)) rfl
def mX9_seen : MD := (yX9_seen, cX9_seen, 7, (some .int), false)
theorem okX9_seen : MOk mX9_seen 4 := ⟨by decide +kernel, lw_g_in (t4_in (List.mem_of_getElem? (i := 174) rfl)) rfl, lw_g_in (t1_in (List.mem_of_getElem? (i := 6) rfl)) rfl, ⟨by decide +kernel, by decide +kernel, by decide +kernel⟩, by decide +kernel, fun h => absurd h (by decide)⟩
theorem inX9_seen : Cond.instanceMethod mX9_seen.1 ∈ lw_g := lw_g_in (t4_in (List.mem_of_getElem? (i := 173) rfl)) rfl
theorem seX9_seen : Cond.selects mX9_seen.1.cls mX9_seen.1 mX9_seen.1 ∈ lw_g := lw_g_in (sels_in (List.mem_of_getElem? (i := 59) rfl)) rfl
def mX9_write : MD := (yX9_write, cX9_write, 6, (some .boolean), false)
theorem okX9_write : MOk mX9_write 5 := ⟨by decide +kernel, lw_g_in (t4_in (List.mem_of_getElem? (i := 178) rfl)) rfl, lw_g_in (t1_in (List.mem_of_getElem? (i := 6) rfl)) rfl, ⟨by decide +kernel, by decide +kernel, by decide +kernel⟩, by decide +kernel, fun h => absurd h (by decide)⟩
theorem inX9_write : Cond.instanceMethod mX9_write.1 ∈ lw_g := lw_g_in (t4_in (List.mem_of_getElem? (i := 176) rfl)) rfl
theorem seX9_write : Cond.selects mX9_write.1.cls mX9_write.1 mX9_write.1 ∈ lw_g := lw_g_in (t4_in (List.mem_of_getElem? (i := 177) rfl)) rfl
def mX9_remove : MD := (yX9_remove, cX9_remove, 3, (some .boolean), false)
theorem okX9_remove : MOk mX9_remove 2 := ⟨by decide +kernel, lw_g_in (t4_in (List.mem_of_getElem? (i := 182) rfl)) rfl, lw_g_in (t1_in (List.mem_of_getElem? (i := 6) rfl)) rfl, ⟨by decide +kernel, by decide +kernel, by decide +kernel⟩, by decide +kernel, fun h => absurd h (by decide)⟩
theorem inX9_remove : Cond.instanceMethod mX9_remove.1 ∈ lw_g := lw_g_in (t4_in (List.mem_of_getElem? (i := 180) rfl)) rfl
theorem seX9_remove : Cond.selects mX9_remove.1.cls mX9_remove.1 mX9_remove.1 ∈ lw_g := lw_g_in (t4_in (List.mem_of_getElem? (i := 181) rfl)) rfl
def mX9_commit : MD := (yX9_commit, cX9_commit, 3, (some .int), false)
theorem okX9_commit : MOk mX9_commit 1 := ⟨by decide +kernel, lw_g_in (t4_in (List.mem_of_getElem? (i := 186) rfl)) rfl, lw_g_in (t1_in (List.mem_of_getElem? (i := 6) rfl)) rfl, ⟨by decide +kernel, by decide +kernel, by decide +kernel⟩, by decide +kernel, fun h => absurd h (by decide)⟩
theorem inX9_commit : Cond.instanceMethod mX9_commit.1 ∈ lw_g := lw_g_in (t4_in (List.mem_of_getElem? (i := 184) rfl)) rfl
theorem seX9_commit : Cond.selects mX9_commit.1.cls mX9_commit.1 mX9_commit.1 ∈ lw_g := lw_g_in (t4_in (List.mem_of_getElem? (i := 185) rfl)) rfl
def mX9_beaten : MD := (yX9_beaten, cX9_beaten, 4, (some .boolean), false)
theorem okX9_beaten : MOk mX9_beaten 1 := ⟨by decide +kernel, lw_g_in (t4_in (List.mem_of_getElem? (i := 190) rfl)) rfl, lw_g_in (t1_in (List.mem_of_getElem? (i := 6) rfl)) rfl, ⟨by decide +kernel, by decide +kernel, by decide +kernel⟩, by decide +kernel, fun h => absurd h (by decide)⟩
theorem inX9_beaten : Cond.instanceMethod mX9_beaten.1 ∈ lw_g := lw_g_in (t4_in (List.mem_of_getElem? (i := 189) rfl)) rfl
theorem seX9_beaten : Cond.selects mX9_beaten.1.cls mX9_beaten.1 mX9_beaten.1 ∈ lw_g := lw_g_in (sels_in (List.mem_of_getElem? (i := 60) rfl)) rfl
def mX9_reads : MD := (yX9_reads, cX9_reads, 4, (some .boolean), false)
theorem okX9_reads : MOk mX9_reads 1 := ⟨by decide +kernel, lw_g_in (t4_in (List.mem_of_getElem? (i := 194) rfl)) rfl, lw_g_in (t1_in (List.mem_of_getElem? (i := 6) rfl)) rfl, ⟨by decide +kernel, by decide +kernel, by decide +kernel⟩, by decide +kernel, fun h => absurd h (by decide)⟩
theorem inX9_reads : Cond.instanceMethod mX9_reads.1 ∈ lw_g := lw_g_in (t4_in (List.mem_of_getElem? (i := 193) rfl)) rfl
theorem seX9_reads : Cond.selects mX9_reads.1.cls mX9_reads.1 mX9_reads.1 ∈ lw_g := lw_g_in (sels_in (List.mem_of_getElem? (i := 61) rfl)) rfl
def mX9_batch : MD := (yX9_batch, cX9_batch, 13, (some .int), false)
theorem okX9_batch : MOk mX9_batch 2 := ⟨by decide +kernel, lw_g_in (t4_in (List.mem_of_getElem? (i := 198) rfl)) rfl, lw_g_in (t1_in (List.mem_of_getElem? (i := 6) rfl)) rfl, ⟨by decide +kernel, by decide +kernel, by decide +kernel⟩, by decide +kernel, fun h => absurd h (by decide)⟩
theorem inX9_batch : Cond.instanceMethod mX9_batch.1 ∈ lw_g := lw_g_in (t4_in (List.mem_of_getElem? (i := 197) rfl)) rfl
theorem seX9_batch : Cond.selects mX9_batch.1.cls mX9_batch.1 mX9_batch.1 ∈ lw_g := lw_g_in (sels_in (List.mem_of_getElem? (i := 62) rfl)) rfl
def mX9_value : MD := (yX9_value, cX9_value, 5, (some .int), false)
theorem okX9_value : MOk mX9_value 1 := ⟨by decide +kernel, lw_g_in (t4_in (List.mem_of_getElem? (i := 202) rfl)) rfl, lw_g_in (t1_in (List.mem_of_getElem? (i := 6) rfl)) rfl, ⟨by decide +kernel, by decide +kernel, by decide +kernel⟩, by decide +kernel, fun h => absurd h (by decide)⟩
theorem inX9_value : Cond.instanceMethod mX9_value.1 ∈ lw_g := lw_g_in (t4_in (List.mem_of_getElem? (i := 201) rfl)) rfl
theorem seX9_value : Cond.selects mX9_value.1.cls mX9_value.1 mX9_value.1 ∈ lw_g := lw_g_in (sels_in (List.mem_of_getElem? (i := 63) rfl)) rfl
def mX9_starts : MD := (yX9_starts, cX9_starts, 5, (some .boolean), false)
theorem okX9_starts : MOk mX9_starts 2 := ⟨by decide +kernel, lw_g_in (t4_in (List.mem_of_getElem? (i := 205) rfl)) rfl, lw_g_in (t1_in (List.mem_of_getElem? (i := 6) rfl)) rfl, ⟨by decide +kernel, by decide +kernel, by decide +kernel⟩, by decide +kernel, fun h => absurd h (by decide)⟩
theorem stX9_starts : Cond.static mX9_starts.1 ∈ lw_g := lw_g_in (t4_in (List.mem_of_getElem? (i := 204) rfl)) rfl
def mX9_two : MD := (yX9_two, cX9_two, 4, (some .int), false)
theorem okX9_two : MOk mX9_two 3 := ⟨by decide +kernel, lw_g_in (t4_in (List.mem_of_getElem? (i := 208) rfl)) rfl, lw_g_in (t1_in (List.mem_of_getElem? (i := 6) rfl)) rfl, ⟨by decide +kernel, by decide +kernel, by decide +kernel⟩, by decide +kernel, fun h => absurd h (by decide)⟩
theorem stX9_two : Cond.static mX9_two.1 ∈ lw_g := lw_g_in (t4_in (List.mem_of_getElem? (i := 207) rfl)) rfl
def mX9_entry : MD := (yX9_entry, cX9_entry, 6, none, false)
theorem okX9_entry : MOk mX9_entry 4 := ⟨by decide +kernel, lw_g_in (t4_in (List.mem_of_getElem? (i := 212) rfl)) rfl, lw_g_in (t1_in (List.mem_of_getElem? (i := 6) rfl)) rfl, ⟨by decide +kernel, by decide +kernel, by decide +kernel⟩, by decide +kernel, fun h => absurd h (by decide)⟩
theorem inX9_entry : Cond.instanceMethod mX9_entry.1 ∈ lw_g := lw_g_in (t4_in (List.mem_of_getElem? (i := 211) rfl)) rfl
theorem seX9_entry : Cond.selects mX9_entry.1.cls mX9_entry.1 mX9_entry.1 ∈ lw_g := lw_g_in (sels_in (List.mem_of_getElem? (i := 64) rfl)) rfl
def mX9_comes : MD := (yX9_comes, cX9_comes, 2, none, false)
theorem okX9_comes : MOk mX9_comes 1 := ⟨by decide +kernel, lw_g_in (t4_in (List.mem_of_getElem? (i := 216) rfl)) rfl, lw_g_in (t1_in (List.mem_of_getElem? (i := 6) rfl)) rfl, ⟨by decide +kernel, by decide +kernel, by decide +kernel⟩, by decide +kernel, fun h => absurd h (by decide)⟩
theorem inX9_comes : Cond.instanceMethod mX9_comes.1 ∈ lw_g := lw_g_in (t4_in (List.mem_of_getElem? (i := 215) rfl)) rfl
theorem seX9_comes : Cond.selects mX9_comes.1.cls mX9_comes.1 mX9_comes.1 ∈ lw_g := lw_g_in (sels_in (List.mem_of_getElem? (i := 65) rfl)) rfl
def mX9_inFile : MD := (yX9_inFile, cX9_inFile, 4, (some .int), false)
theorem okX9_inFile : MOk mX9_inFile 1 := ⟨by decide +kernel, lw_g_in (t4_in (List.mem_of_getElem? (i := 220) rfl)) rfl, lw_g_in (t1_in (List.mem_of_getElem? (i := 6) rfl)) rfl, ⟨by decide +kernel, by decide +kernel, by decide +kernel⟩, by decide +kernel, fun h => absurd h (by decide)⟩
theorem inX9_inFile : Cond.instanceMethod mX9_inFile.1 ∈ lw_g := lw_g_in (t4_in (List.mem_of_getElem? (i := 219) rfl)) rfl
theorem seX9_inFile : Cond.selects mX9_inFile.1.cls mX9_inFile.1 mX9_inFile.1 ∈ lw_g := lw_g_in (sels_in (List.mem_of_getElem? (i := 66) rfl)) rfl
def mX9_flush : MD := (yX9_flush, cX9_flush, 3, (some .int), false)
theorem okX9_flush : MOk mX9_flush 0 := ⟨by decide +kernel, lw_g_in (t4_in (List.mem_of_getElem? (i := 224) rfl)) rfl, lw_g_in (t1_in (List.mem_of_getElem? (i := 6) rfl)) rfl, ⟨by decide +kernel, by decide +kernel, by decide +kernel⟩, by decide +kernel, fun h => absurd h (by decide)⟩
theorem inX9_flush : Cond.instanceMethod mX9_flush.1 ∈ lw_g := lw_g_in (t4_in (List.mem_of_getElem? (i := 222) rfl)) rfl
theorem seX9_flush : Cond.selects mX9_flush.1.cls mX9_flush.1 mX9_flush.1 ∈ lw_g := lw_g_in (t4_in (List.mem_of_getElem? (i := 223) rfl)) rfl
def mX9_addFile : MD := (yX9_addFile, cX9_addFile, 2, none, false)
theorem okX9_addFile : MOk mX9_addFile 1 := ⟨by decide +kernel, lw_g_in (t4_in (List.mem_of_getElem? (i := 228) rfl)) rfl, lw_g_in (t1_in (List.mem_of_getElem? (i := 6) rfl)) rfl, ⟨by decide +kernel, by decide +kernel, by decide +kernel⟩, by decide +kernel, fun h => absurd h (by decide)⟩
theorem inX9_addFile : Cond.instanceMethod mX9_addFile.1 ∈ lw_g := lw_g_in (t4_in (List.mem_of_getElem? (i := 227) rfl)) rfl
theorem seX9_addFile : Cond.selects mX9_addFile.1.cls mX9_addFile.1 mX9_addFile.1 ∈ lw_g := lw_g_in (sels_in (List.mem_of_getElem? (i := 67) rfl)) rfl
def mX9_settle : MD := (yX9_settle, cX9_settle, 3, none, false)
theorem okX9_settle : MOk mX9_settle 0 := ⟨by decide +kernel, lw_g_in (t4_in (List.mem_of_getElem? (i := 232) rfl)) rfl, lw_g_in (t1_in (List.mem_of_getElem? (i := 6) rfl)) rfl, ⟨by decide +kernel, by decide +kernel, by decide +kernel⟩, by decide +kernel, fun h => absurd h (by decide)⟩
theorem inX9_settle : Cond.instanceMethod mX9_settle.1 ∈ lw_g := lw_g_in (t4_in (List.mem_of_getElem? (i := 231) rfl)) rfl
theorem seX9_settle : Cond.selects mX9_settle.1.cls mX9_settle.1 mX9_settle.1 ∈ lw_g := lw_g_in (sels_in (List.mem_of_getElem? (i := 68) rfl)) rfl
def mX9_files : MD := (yX9_files, cX9_files, 4, (some .int), false)
theorem okX9_files : MOk mX9_files 1 := ⟨by decide +kernel, lw_g_in (t4_in (List.mem_of_getElem? (i := 236) rfl)) rfl, lw_g_in (t1_in (List.mem_of_getElem? (i := 6) rfl)) rfl, ⟨by decide +kernel, by decide +kernel, by decide +kernel⟩, by decide +kernel, fun h => absurd h (by decide)⟩
theorem inX9_files : Cond.instanceMethod mX9_files.1 ∈ lw_g := lw_g_in (t4_in (List.mem_of_getElem? (i := 234) rfl)) rfl
theorem seX9_files : Cond.selects mX9_files.1.cls mX9_files.1 mX9_files.1 ∈ lw_g := lw_g_in (t4_in (List.mem_of_getElem? (i := 235) rfl)) rfl
def mX9_compacts : MD := (yX9_compacts, cX9_compacts, 7, (some .int), false)
theorem okX9_compacts : MOk mX9_compacts 1 := ⟨by decide +kernel, lw_g_in (t5_in (List.mem_of_getElem? (i := 0) rfl)) rfl, lw_g_in (t1_in (List.mem_of_getElem? (i := 6) rfl)) rfl, ⟨by decide +kernel, by decide +kernel, by decide +kernel⟩, by decide +kernel, fun h => absurd h (by decide)⟩
theorem inX9_compacts : Cond.instanceMethod mX9_compacts.1 ∈ lw_g := lw_g_in (t4_in (List.mem_of_getElem? (i := 239) rfl)) rfl
theorem seX9_compacts : Cond.selects mX9_compacts.1.cls mX9_compacts.1 mX9_compacts.1 ∈ lw_g := lw_g_in (sels_in (List.mem_of_getElem? (i := 69) rfl)) rfl
def mX9_meet : MD := (yX9_meet, cX9_meet, 7, (some .boolean), false)
theorem okX9_meet : MOk mX9_meet 2 := ⟨by decide +kernel, lw_g_in (t5_in (List.mem_of_getElem? (i := 4) rfl)) rfl, lw_g_in (t1_in (List.mem_of_getElem? (i := 6) rfl)) rfl, ⟨by decide +kernel, by decide +kernel, by decide +kernel⟩, by decide +kernel, fun h => absurd h (by decide)⟩
theorem inX9_meet : Cond.instanceMethod mX9_meet.1 ∈ lw_g := lw_g_in (t5_in (List.mem_of_getElem? (i := 3) rfl)) rfl
theorem seX9_meet : Cond.selects mX9_meet.1.cls mX9_meet.1 mX9_meet.1 ∈ lw_g := lw_g_in (sels_in (List.mem_of_getElem? (i := 70) rfl)) rfl
def mX9_end : MD := (yX9_end, cX9_end, 5, (some .int), false)
theorem okX9_end : MOk mX9_end 2 := ⟨by decide +kernel, lw_g_in (t5_in (List.mem_of_getElem? (i := 8) rfl)) rfl, lw_g_in (t1_in (List.mem_of_getElem? (i := 6) rfl)) rfl, ⟨by decide +kernel, by decide +kernel, by decide +kernel⟩, by decide +kernel, fun h => absurd h (by decide)⟩
theorem inX9_end : Cond.instanceMethod mX9_end.1 ∈ lw_g := lw_g_in (t5_in (List.mem_of_getElem? (i := 7) rfl)) rfl
theorem seX9_end : Cond.selects mX9_end.1.cls mX9_end.1 mX9_end.1 ∈ lw_g := lw_g_in (sels_in (List.mem_of_getElem? (i := 71) rfl)) rfl
def mX9_before : MD := (yX9_before, cX9_before, 4, (some .boolean), false)
theorem okX9_before : MOk mX9_before 2 := ⟨by decide +kernel, lw_g_in (t5_in (List.mem_of_getElem? (i := 12) rfl)) rfl, lw_g_in (t1_in (List.mem_of_getElem? (i := 6) rfl)) rfl, ⟨by decide +kernel, by decide +kernel, by decide +kernel⟩, by decide +kernel, fun h => absurd h (by decide)⟩
theorem inX9_before : Cond.instanceMethod mX9_before.1 ∈ lw_g := lw_g_in (t5_in (List.mem_of_getElem? (i := 11) rfl)) rfl
theorem seX9_before : Cond.selects mX9_before.1.cls mX9_before.1 mX9_before.1 ∈ lw_g := lw_g_in (sels_in (List.mem_of_getElem? (i := 72) rfl)) rfl
def mX9_places : MD := (yX9_places, cX9_places, 3, (some .int), false)
theorem okX9_places : MOk mX9_places 2 := ⟨by decide +kernel, lw_g_in (t5_in (List.mem_of_getElem? (i := 16) rfl)) rfl, lw_g_in (t1_in (List.mem_of_getElem? (i := 6) rfl)) rfl, ⟨by decide +kernel, by decide +kernel, by decide +kernel⟩, by decide +kernel, fun h => absurd h (by decide)⟩
theorem inX9_places : Cond.instanceMethod mX9_places.1 ∈ lw_g := lw_g_in (t5_in (List.mem_of_getElem? (i := 15) rfl)) rfl
theorem seX9_places : Cond.selects mX9_places.1.cls mX9_places.1 mX9_places.1 ∈ lw_g := lw_g_in (sels_in (List.mem_of_getElem? (i := 73) rfl)) rfl
def mX9_dropFile : MD := (yX9_dropFile, cX9_dropFile, 3, none, false)
theorem okX9_dropFile : MOk mX9_dropFile 1 := ⟨by decide +kernel, lw_g_in (t5_in (List.mem_of_getElem? (i := 20) rfl)) rfl, lw_g_in (t1_in (List.mem_of_getElem? (i := 6) rfl)) rfl, ⟨by decide +kernel, by decide +kernel, by decide +kernel⟩, by decide +kernel, fun h => absurd h (by decide)⟩
theorem inX9_dropFile : Cond.instanceMethod mX9_dropFile.1 ∈ lw_g := lw_g_in (t5_in (List.mem_of_getElem? (i := 19) rfl)) rfl
theorem seX9_dropFile : Cond.selects mX9_dropFile.1.cls mX9_dropFile.1 mX9_dropFile.1 ∈ lw_g := lw_g_in (sels_in (List.mem_of_getElem? (i := 74) rfl)) rfl
def mX9_sort : MD := (yX9_sort, cX9_sort, 3, none, false)
theorem okX9_sort : MOk mX9_sort 0 := ⟨by decide +kernel, lw_g_in (t5_in (List.mem_of_getElem? (i := 24) rfl)) rfl, lw_g_in (t1_in (List.mem_of_getElem? (i := 6) rfl)) rfl, ⟨by decide +kernel, by decide +kernel, by decide +kernel⟩, by decide +kernel, fun h => absurd h (by decide)⟩
theorem inX9_sort : Cond.instanceMethod mX9_sort.1 ∈ lw_g := lw_g_in (t5_in (List.mem_of_getElem? (i := 23) rfl)) rfl
theorem seX9_sort : Cond.selects mX9_sort.1.cls mX9_sort.1 mX9_sort.1 ∈ lw_g := lw_g_in (sels_in (List.mem_of_getElem? (i := 75) rfl)) rfl
def mX9_merge : MD := (yX9_merge, cX9_merge, 11, (some .int), false)
theorem okX9_merge : MOk mX9_merge 1 := ⟨by decide +kernel, lw_g_in (t5_in (List.mem_of_getElem? (i := 28) rfl)) rfl, lw_g_in (t1_in (List.mem_of_getElem? (i := 6) rfl)) rfl, ⟨by decide +kernel, by decide +kernel, by decide +kernel⟩, by decide +kernel, fun h => absurd h (by decide)⟩
theorem inX9_merge : Cond.instanceMethod mX9_merge.1 ∈ lw_g := lw_g_in (t5_in (List.mem_of_getElem? (i := 27) rfl)) rfl
theorem seX9_merge : Cond.selects mX9_merge.1.cls mX9_merge.1 mX9_merge.1 ∈ lw_g := lw_g_in (sels_in (List.mem_of_getElem? (i := 76) rfl)) rfl
def mX9_horizon : MD := (yX9_horizon, cX9_horizon, 3, (some .int), false)
theorem okX9_horizon : MOk mX9_horizon 0 := ⟨by decide +kernel, lw_g_in (t5_in (List.mem_of_getElem? (i := 32) rfl)) rfl, lw_g_in (t1_in (List.mem_of_getElem? (i := 6) rfl)) rfl, ⟨by decide +kernel, by decide +kernel, by decide +kernel⟩, by decide +kernel, fun h => absurd h (by decide)⟩
theorem inX9_horizon : Cond.instanceMethod mX9_horizon.1 ∈ lw_g := lw_g_in (t5_in (List.mem_of_getElem? (i := 31) rfl)) rfl
theorem seX9_horizon : Cond.selects mX9_horizon.1.cls mX9_horizon.1 mX9_horizon.1 ∈ lw_g := lw_g_in (sels_in (List.mem_of_getElem? (i := 77) rfl)) rfl
def mX9_clean : MD := (yX9_clean, cX9_clean, 4, none, false)
theorem okX9_clean : MOk mX9_clean 0 := ⟨by decide +kernel, lw_g_in (t5_in (List.mem_of_getElem? (i := 36) rfl)) rfl, lw_g_in (t1_in (List.mem_of_getElem? (i := 6) rfl)) rfl, ⟨by decide +kernel, by decide +kernel, by decide +kernel⟩, by decide +kernel, fun h => absurd h (by decide)⟩
theorem inX9_clean : Cond.instanceMethod mX9_clean.1 ∈ lw_g := lw_g_in (t5_in (List.mem_of_getElem? (i := 35) rfl)) rfl
theorem seX9_clean : Cond.selects mX9_clean.1.cls mX9_clean.1 mX9_clean.1 ∈ lw_g := lw_g_in (sels_in (List.mem_of_getElem? (i := 78) rfl)) rfl
def mX9_tear : MD := (yX9_tear, cX9_tear, 6, (some .int), false)
theorem okX9_tear : MOk mX9_tear 2 := ⟨by decide +kernel, lw_g_in (t5_in (List.mem_of_getElem? (i := 40) rfl)) rfl, lw_g_in (t1_in (List.mem_of_getElem? (i := 6) rfl)) rfl, ⟨by decide +kernel, by decide +kernel, by decide +kernel⟩, by decide +kernel, fun h => absurd h (by decide)⟩
theorem inX9_tear : Cond.instanceMethod mX9_tear.1 ∈ lw_g := lw_g_in (t5_in (List.mem_of_getElem? (i := 38) rfl)) rfl
theorem seX9_tear : Cond.selects mX9_tear.1.cls mX9_tear.1 mX9_tear.1 ∈ lw_g := lw_g_in (t5_in (List.mem_of_getElem? (i := 39) rfl)) rfl
def mX9_crash : MD := (yX9_crash, cX9_crash, 3, (some .int), false)
theorem okX9_crash : MOk mX9_crash 0 := ⟨by decide +kernel, lw_g_in (t5_in (List.mem_of_getElem? (i := 44) rfl)) rfl, lw_g_in (t1_in (List.mem_of_getElem? (i := 6) rfl)) rfl, ⟨by decide +kernel, by decide +kernel, by decide +kernel⟩, by decide +kernel, fun h => absurd h (by decide)⟩
theorem inX9_crash : Cond.instanceMethod mX9_crash.1 ∈ lw_g := lw_g_in (t5_in (List.mem_of_getElem? (i := 42) rfl)) rfl
theorem seX9_crash : Cond.selects mX9_crash.1.cls mX9_crash.1 mX9_crash.1 ∈ lw_g := lw_g_in (t5_in (List.mem_of_getElem? (i := 43) rfl)) rfl
def mX9_abort : MD := (yX9_abort, cX9_abort, 2, (some .boolean), false)
theorem okX9_abort : MOk mX9_abort 1 := ⟨by decide +kernel, lw_g_in (t5_in (List.mem_of_getElem? (i := 48) rfl)) rfl, lw_g_in (t1_in (List.mem_of_getElem? (i := 6) rfl)) rfl, ⟨by decide +kernel, by decide +kernel, by decide +kernel⟩, by decide +kernel, fun h => absurd h (by decide)⟩
theorem inX9_abort : Cond.instanceMethod mX9_abort.1 ∈ lw_g := lw_g_in (t5_in (List.mem_of_getElem? (i := 46) rfl)) rfl
theorem seX9_abort : Cond.selects mX9_abort.1.cls mX9_abort.1 mX9_abort.1 ∈ lw_g := lw_g_in (t5_in (List.mem_of_getElem? (i := 47) rfl)) rfl
def mX9_compact : MD := (yX9_compact, cX9_compact, 1, (some .int), false)
theorem okX9_compact : MOk mX9_compact 0 := ⟨by decide +kernel, lw_g_in (t5_in (List.mem_of_getElem? (i := 55) rfl)) rfl, lw_g_in (t1_in (List.mem_of_getElem? (i := 6) rfl)) rfl, ⟨by decide +kernel, by decide +kernel, by decide +kernel⟩, by decide +kernel, fun h => absurd h (by decide)⟩
theorem inX9_compact : Cond.instanceMethod mX9_compact.1 ∈ lw_g := lw_g_in (t5_in (List.mem_of_getElem? (i := 53) rfl)) rfl
theorem seX9_compact : Cond.selects mX9_compact.1.cls mX9_compact.1 mX9_compact.1 ∈ lw_g := lw_g_in (t5_in (List.mem_of_getElem? (i := 54) rfl)) rfl
def mX9_query : MD := (yX9_query, cX9_query, 5, (some .int), false)
theorem okX9_query : MOk mX9_query 1 := ⟨by decide +kernel, lw_g_in (t5_in (List.mem_of_getElem? (i := 59) rfl)) rfl, lw_g_in (t1_in (List.mem_of_getElem? (i := 6) rfl)) rfl, ⟨by decide +kernel, by decide +kernel, by decide +kernel⟩, by decide +kernel, fun h => absurd h (by decide)⟩
theorem inX9_query : Cond.instanceMethod mX9_query.1 ∈ lw_g := lw_g_in (t5_in (List.mem_of_getElem? (i := 57) rfl)) rfl
theorem seX9_query : Cond.selects mX9_query.1.cls mX9_query.1 mX9_query.1 ∈ lw_g := lw_g_in (t5_in (List.mem_of_getElem? (i := 58) rfl)) rfl
def mX9_conjuncts : MD := (yX9_conjuncts, cX9_conjuncts, 5, none, false)
theorem okX9_conjuncts : MOk mX9_conjuncts 2 := ⟨by decide +kernel, lw_g_in (t5_in (List.mem_of_getElem? (i := 63) rfl)) rfl, lw_g_in (t1_in (List.mem_of_getElem? (i := 6) rfl)) rfl, ⟨by decide +kernel, by decide +kernel, by decide +kernel⟩, by decide +kernel, fun h => absurd h (by decide)⟩
theorem inX9_conjuncts : Cond.instanceMethod mX9_conjuncts.1 ∈ lw_g := lw_g_in (t5_in (List.mem_of_getElem? (i := 62) rfl)) rfl
theorem seX9_conjuncts : Cond.selects mX9_conjuncts.1.cls mX9_conjuncts.1 mX9_conjuncts.1 ∈ lw_g := lw_g_in (sels_in (List.mem_of_getElem? (i := 79) rfl)) rfl
def mX9_from : MD := (yX9_from, cX9_from, 5, (some .int), false)
theorem okX9_from : MOk mX9_from 2 := ⟨by decide +kernel, lw_g_in (t5_in (List.mem_of_getElem? (i := 69) rfl)) rfl, lw_g_in (t1_in (List.mem_of_getElem? (i := 6) rfl)) rfl, ⟨by decide +kernel, by decide +kernel, by decide +kernel⟩, by decide +kernel, fun h => absurd h (by decide)⟩
theorem inX9_from : Cond.instanceMethod mX9_from.1 ∈ lw_g := lw_g_in (t5_in (List.mem_of_getElem? (i := 68) rfl)) rfl
theorem seX9_from : Cond.selects mX9_from.1.cls mX9_from.1 mX9_from.1 ∈ lw_g := lw_g_in (sels_in (List.mem_of_getElem? (i := 80) rfl)) rfl
def mX9_conjunct : MD := (yX9_conjunct, cX9_conjunct, 9, none, false)
theorem okX9_conjunct : MOk mX9_conjunct 3 := ⟨by decide +kernel, lw_g_in (t5_in (List.mem_of_getElem? (i := 73) rfl)) rfl, lw_g_in (t1_in (List.mem_of_getElem? (i := 6) rfl)) rfl, ⟨by decide +kernel, by decide +kernel, by decide +kernel⟩, by decide +kernel, fun h => absurd h (by decide)⟩
theorem inX9_conjunct : Cond.instanceMethod mX9_conjunct.1 ∈ lw_g := lw_g_in (t5_in (List.mem_of_getElem? (i := 72) rfl)) rfl
theorem seX9_conjunct : Cond.selects mX9_conjunct.1.cls mX9_conjunct.1 mX9_conjunct.1 ∈ lw_g := lw_g_in (sels_in (List.mem_of_getElem? (i := 81) rfl)) rfl
def mX9_same : MD := (yX9_same, cX9_same, 8, (some .boolean), false)
theorem okX9_same : MOk mX9_same 4 := ⟨by decide +kernel, lw_g_in (t5_in (List.mem_of_getElem? (i := 77) rfl)) rfl, lw_g_in (t1_in (List.mem_of_getElem? (i := 6) rfl)) rfl, ⟨by decide +kernel, by decide +kernel, by decide +kernel⟩, by decide +kernel, fun h => absurd h (by decide)⟩
theorem inX9_same : Cond.instanceMethod mX9_same.1 ∈ lw_g := lw_g_in (t5_in (List.mem_of_getElem? (i := 76) rfl)) rfl
theorem seX9_same : Cond.selects mX9_same.1.cls mX9_same.1 mX9_same.1 ∈ lw_g := lw_g_in (sels_in (List.mem_of_getElem? (i := 82) rfl)) rfl
def mX9_bound : MD := (yX9_bound, cX9_bound, 5, none, false)
theorem okX9_bound : MOk mX9_bound 2 := ⟨by decide +kernel, lw_g_in (t5_in (List.mem_of_getElem? (i := 81) rfl)) rfl, lw_g_in (t1_in (List.mem_of_getElem? (i := 6) rfl)) rfl, ⟨by decide +kernel, by decide +kernel, by decide +kernel⟩, by decide +kernel, fun h => absurd h (by decide)⟩
theorem inX9_bound : Cond.instanceMethod mX9_bound.1 ∈ lw_g := lw_g_in (t5_in (List.mem_of_getElem? (i := 80) rfl)) rfl
theorem seX9_bound : Cond.selects mX9_bound.1.cls mX9_bound.1 mX9_bound.1 ∈ lw_g := lw_g_in (sels_in (List.mem_of_getElem? (i := 83) rfl)) rfl
def mX9_result : MD := (yX9_result, cX9_result, 2, (some .int), false)
theorem okX9_result : MOk mX9_result 1 := ⟨by decide +kernel, lw_g_in (t5_in (List.mem_of_getElem? (i := 85) rfl)) rfl, lw_g_in (t1_in (List.mem_of_getElem? (i := 6) rfl)) rfl, ⟨by decide +kernel, by decide +kernel, by decide +kernel⟩, by decide +kernel, fun h => absurd h (by decide)⟩
theorem inX9_result : Cond.instanceMethod mX9_result.1 ∈ lw_g := lw_g_in (t5_in (List.mem_of_getElem? (i := 83) rfl)) rfl
theorem seX9_result : Cond.selects mX9_result.1.cls mX9_result.1 mX9_result.1 ∈ lw_g := lw_g_in (t5_in (List.mem_of_getElem? (i := 84) rfl)) rfl
def mX9_plan : MD := (yX9_plan, cX9_plan, 2, (some .long), false)
theorem okX9_plan : MOk mX9_plan 1 := ⟨by decide +kernel, lw_g_in (t5_in (List.mem_of_getElem? (i := 89) rfl)) rfl, lw_g_in (t1_in (List.mem_of_getElem? (i := 6) rfl)) rfl, ⟨by decide +kernel, by decide +kernel, by decide +kernel⟩, by decide +kernel, fun h => absurd h (by decide)⟩
theorem inX9_plan : Cond.instanceMethod mX9_plan.1 ∈ lw_g := lw_g_in (t5_in (List.mem_of_getElem? (i := 87) rfl)) rfl
theorem seX9_plan : Cond.selects mX9_plan.1.cls mX9_plan.1 mX9_plan.1 ∈ lw_g := lw_g_in (t5_in (List.mem_of_getElem? (i := 88) rfl)) rfl
def mX9_state : MD := (yX9_state, cX9_state, 2, (some .int), false)
theorem okX9_state : MOk mX9_state 1 := ⟨by decide +kernel, lw_g_in (t5_in (List.mem_of_getElem? (i := 94) rfl)) rfl, lw_g_in (t1_in (List.mem_of_getElem? (i := 6) rfl)) rfl, ⟨by decide +kernel, by decide +kernel, by decide +kernel⟩, by decide +kernel, fun h => absurd h (by decide)⟩
theorem inX9_state : Cond.instanceMethod mX9_state.1 ∈ lw_g := lw_g_in (t5_in (List.mem_of_getElem? (i := 92) rfl)) rfl
theorem seX9_state : Cond.selects mX9_state.1.cls mX9_state.1 mX9_state.1 ∈ lw_g := lw_g_in (t5_in (List.mem_of_getElem? (i := 93) rfl)) rfl
def mX9_about : MD := (yX9_about, cX9_about, 2, (some .int), false)
theorem okX9_about : MOk mX9_about 1 := ⟨by decide +kernel, lw_g_in (t5_in (List.mem_of_getElem? (i := 98) rfl)) rfl, lw_g_in (t1_in (List.mem_of_getElem? (i := 6) rfl)) rfl, ⟨by decide +kernel, by decide +kernel, by decide +kernel⟩, by decide +kernel, fun h => absurd h (by decide)⟩
theorem inX9_about : Cond.instanceMethod mX9_about.1 ∈ lw_g := lw_g_in (t5_in (List.mem_of_getElem? (i := 96) rfl)) rfl
theorem seX9_about : Cond.selects mX9_about.1.cls mX9_about.1 mX9_about.1 ∈ lw_g := lw_g_in (t5_in (List.mem_of_getElem? (i := 97) rfl)) rfl
def mX9_file : MD := (yX9_file, cX9_file, 6, (some .int), false)
theorem okX9_file : MOk mX9_file 3 := ⟨by decide +kernel, lw_g_in (t5_in (List.mem_of_getElem? (i := 102) rfl)) rfl, lw_g_in (t1_in (List.mem_of_getElem? (i := 6) rfl)) rfl, ⟨by decide +kernel, by decide +kernel, by decide +kernel⟩, by decide +kernel, fun h => absurd h (by decide)⟩
theorem inX9_file : Cond.instanceMethod mX9_file.1 ∈ lw_g := lw_g_in (t5_in (List.mem_of_getElem? (i := 100) rfl)) rfl
theorem seX9_file : Cond.selects mX9_file.1.cls mX9_file.1 mX9_file.1 ∈ lw_g := lw_g_in (t5_in (List.mem_of_getElem? (i := 101) rfl)) rfl
def mX9_aboutFile : MD := (yX9_aboutFile, cX9_aboutFile, 5, (some .int), false)
theorem okX9_aboutFile : MOk mX9_aboutFile 2 := ⟨by decide +kernel, lw_g_in (t5_in (List.mem_of_getElem? (i := 106) rfl)) rfl, lw_g_in (t1_in (List.mem_of_getElem? (i := 6) rfl)) rfl, ⟨by decide +kernel, by decide +kernel, by decide +kernel⟩, by decide +kernel, fun h => absurd h (by decide)⟩
theorem inX9_aboutFile : Cond.instanceMethod mX9_aboutFile.1 ∈ lw_g := lw_g_in (t5_in (List.mem_of_getElem? (i := 105) rfl)) rfl
theorem seX9_aboutFile : Cond.selects mX9_aboutFile.1.cls mX9_aboutFile.1 mX9_aboutFile.1 ∈ lw_g := lw_g_in (sels_in (List.mem_of_getElem? (i := 84) rfl)) rfl
theorem clL_7 : Cond.classLink RL 7 RX8 ∈ lw_g := lw_g_in (t1_in (List.mem_of_getElem? (i := 20) rfl)) rfl
theorem nwL_7 : NewL RL 7 8 := ⟨clL_7, lw_g_in (t1_in (List.mem_of_getElem? (i := 21) rfl)) rfl, lw_g_in (t1_in (List.mem_of_getElem? (i := 1) rfl)) rfl, by decide⟩
theorem mlL_9 : MLk RL 9 mX8_init.1 := Or.inl (lw_g_in (t1_in (List.mem_of_getElem? (i := 22) rfl)) rfl)
theorem oiX8_1 : Cond.methodLink RX8 1 objectInit ∈ lw_g := lw_g_in (t1_in (List.mem_of_getElem? (i := 25) rfl)) rfl
theorem clX8_9 : Cond.classLink RX8 9 RX1 ∈ lw_g := lw_g_in (t1_in (List.mem_of_getElem? (i := 28) rfl)) rfl
theorem nwX8_9 : NewL RX8 9 1 := ⟨clX8_9, lw_g_in (t1_in (List.mem_of_getElem? (i := 141) rfl)) rfl, lw_g_in (t1_in (List.mem_of_getElem? (i := 7) rfl)) rfl, by decide⟩
theorem clX8_18 : Cond.classLink RX8 18 RX7 ∈ lw_g := lw_g_in (t1_in (List.mem_of_getElem? (i := 30) rfl)) rfl
theorem nwX8_18 : NewL RX8 18 7 := ⟨clX8_18, lw_g_in (t1_in (List.mem_of_getElem? (i := 196) rfl)) rfl, lw_g_in (t1_in (List.mem_of_getElem? (i := 8) rfl)) rfl, by decide⟩
theorem clX8_24 : Cond.classLink RX8 24 RX6 ∈ lw_g := lw_g_in (t1_in (List.mem_of_getElem? (i := 32) rfl)) rfl
theorem nwX8_24 : NewL RX8 24 6 := ⟨clX8_24, lw_g_in (t1_in (List.mem_of_getElem? (i := 33) rfl)) rfl, lw_g_in (t1_in (List.mem_of_getElem? (i := 2) rfl)) rfl, by decide⟩
theorem mlX8_26 : MLk RX8 26 mX6_init.1 := Or.inr ⟨"VersionedRows", lw_n_in (t1_in (List.mem_of_getElem? (i := 34) rfl)) rfl⟩
theorem oiX6_3 : Cond.methodLink RX6 3 objectInit ∈ lw_g := lw_g_in (t1_in (List.mem_of_getElem? (i := 37) rfl)) rfl
theorem clX6_9 : Cond.classLink RX6 9 RX0 ∈ lw_g := lw_g_in (t1_in (List.mem_of_getElem? (i := 38) rfl)) rfl
theorem nwX6_9 : NewL RX6 9 0 := ⟨clX6_9, lw_g_in (t2_in (List.mem_of_getElem? (i := 24) rfl)) rfl, lw_g_in (t1_in (List.mem_of_getElem? (i := 9) rfl)) rfl, by decide⟩
theorem clX6_17 : Cond.classLink RX6 17 RJx4a65c ∈ lw_g := lw_g_in (t1_in (List.mem_of_getElem? (i := 40) rfl)) rfl
theorem nwX6_17 : NewL RX6 17 10 := ⟨clX6_17, lw_g_in (t1_in (List.mem_of_getElem? (i := 41) rfl)) rfl, lw_g_in (t1_in (List.mem_of_getElem? (i := 5) rfl)) rfl, by decide⟩
theorem mlX6_19 : MLk RX6 19 mJx4a65c_init_da8c8.1 := Or.inl (lw_g_in (t1_in (List.mem_of_getElem? (i := 42) rfl)) rfl)
theorem mlJx4a65c_1 : MLk RJx4a65c 1 mJxc12de_init_da8c8.1 := Or.inl (lw_g_in (t1_in (List.mem_of_getElem? (i := 45) rfl)) rfl)
theorem mlJxc12de_1 : MLk RJxc12de 1 mJxa1e45_init_da8c8.1 := Or.inl (lw_g_in (t1_in (List.mem_of_getElem? (i := 48) rfl)) rfl)
theorem oiJxa1e45_1 : Cond.methodLink RJxa1e45 1 objectInit ∈ lw_g := lw_g_in (t1_in (List.mem_of_getElem? (i := 51) rfl)) rfl
theorem mlL_13 : MLk RL 13 mX8_say.1 := Or.inl (lw_g_in (t1_in (List.mem_of_getElem? (i := 125) rfl)) rfl)
theorem mlX8_39 : MLk RX8 39 mX8_isName.1 := Or.inl (lw_g_in (t1_in (List.mem_of_getElem? (i := 129) rfl)) rfl)
theorem mlX8_43 : MLk RX8 43 mX8_partsOf.1 := Or.inl (lw_g_in (t1_in (List.mem_of_getElem? (i := 132) rfl)) rfl)
theorem mlX8_50 : MLk RX8 50 mX8_fits.1 := Or.inl (lw_g_in (t1_in (List.mem_of_getElem? (i := 135) rfl)) rfl)
theorem mlX8_68 : MLk RX8 68 mX1_isBool.1 := Or.inr ⟨"VersionedRows", lw_n_in (t1_in (List.mem_of_getElem? (i := 138) rfl)) rfl⟩
theorem mlX8_214 : MLk RX8 214 mX8_takesBools.1 := Or.inl (lw_g_in (t1_in (List.mem_of_getElem? (i := 143) rfl)) rfl)
theorem mlX8_54 : MLk RX8 54 mX1_nodesOf.1 := Or.inr ⟨"VersionedRows", lw_n_in (t1_in (List.mem_of_getElem? (i := 146) rfl)) rfl⟩
theorem mlX8_58 : MLk RX8 58 mX8_countsN.1 := Or.inl (lw_g_in (t1_in (List.mem_of_getElem? (i := 149) rfl)) rfl)
theorem mlX8_61 : MLk RX8 61 mX1_init.1 := Or.inr ⟨"VersionedRows", lw_n_in (t1_in (List.mem_of_getElem? (i := 152) rfl)) rfl⟩
theorem oiX1_3 : Cond.methodLink RX1 3 objectInit ∈ lw_g := lw_g_in (t1_in (List.mem_of_getElem? (i := 155) rfl)) rfl
theorem mlX1_25 : MLk RX1 25 mX1_nodesOf.1 := Or.inl (lw_g_in (t1_in (List.mem_of_getElem? (i := 156) rfl)) rfl)
theorem mlL_18 : MLk RL 18 mX8_index.1 := Or.inl (lw_g_in (t1_in (List.mem_of_getElem? (i := 177) rfl)) rfl)
theorem mlX8_64 : MLk RX8 64 mX8_topOfPile.1 := Or.inl (lw_g_in (t1_in (List.mem_of_getElem? (i := 181) rfl)) rfl)
theorem mlL_23 : MLk RL 23 mX8_begin.1 := Or.inl (lw_g_in (t1_in (List.mem_of_getElem? (i := 185) rfl)) rfl)
theorem mlX8_81 : MLk RX8 81 mX8_countOpen.1 := Or.inl (lw_g_in (t1_in (List.mem_of_getElem? (i := 189) rfl)) rfl)
theorem mlX8_217 : MLk RX8 217 mX7_isOpen.1 := Or.inr ⟨"VersionedRows", lw_n_in (t1_in (List.mem_of_getElem? (i := 193) rfl)) rfl⟩
theorem mlX8_85 : MLk RX8 85 mX7_init.1 := Or.inr ⟨"VersionedRows", lw_n_in (t1_in (List.mem_of_getElem? (i := 198) rfl)) rfl⟩
theorem oiX7_3 : Cond.methodLink RX7 3 objectInit ∈ lw_g := lw_g_in (t1_in (List.mem_of_getElem? (i := 201) rfl)) rfl
theorem clX7_19 : Cond.classLink RX7 19 RX3 ∈ lw_g := lw_g_in (t1_in (List.mem_of_getElem? (i := 202) rfl)) rfl
theorem nwX7_19 : NewL RX7 19 3 := ⟨clX7_19, lw_g_in (t2_in (List.mem_of_getElem? (i := 31) rfl)) rfl, lw_g_in (t1_in (List.mem_of_getElem? (i := 10) rfl)) rfl, by decide⟩
theorem mlL_27 : MLk RL 27 mX8_read.1 := Or.inl (lw_g_in (t1_in (List.mem_of_getElem? (i := 226) rfl)) rfl)
theorem mlX8_88 : MLk RX8 88 mX8_openOne.1 := Or.inl (lw_g_in (t1_in (List.mem_of_getElem? (i := 230) rfl)) rfl)
theorem mlX8_196 : MLk RX8 196 mX8_transactionOf.1 := Or.inl (lw_g_in (t1_in (List.mem_of_getElem? (i := 234) rfl)) rfl)
theorem mlX8_92 : MLk RX8 92 mX8_isKey.1 := Or.inl (lw_g_in (t1_in (List.mem_of_getElem? (i := 238) rfl)) rfl)
theorem mlX8_95 : MLk RX8 95 mX8_rowFor.1 := Or.inl (lw_g_in (t2_in (List.mem_of_getElem? (i := 1) rfl)) rfl)
theorem mlX8_233 : MLk RX8 233 mX6_rowAt.1 := Or.inr ⟨"VersionedRows", lw_n_in (t2_in (List.mem_of_getElem? (i := 5) rfl)) rfl⟩
theorem mlX6_54 : MLk RX6 54 mX6_seenRow.1 := Or.inl (lw_g_in (t2_in (List.mem_of_getElem? (i := 9) rfl)) rfl)
theorem mlX6_50 : MLk RX6 50 mX0_placeOf.1 := Or.inr ⟨"VersionedRows", lw_n_in (t2_in (List.mem_of_getElem? (i := 13) rfl)) rfl⟩
theorem coX0_36 : Cond.constantLong RX0 36 (-2147483648) ∈ lw_g := lw_g_in (t2_in (List.mem_of_getElem? (i := 16) rfl)) rfl
theorem mlX6_39 : MLk RX6 39 mX6_countBefore.1 := Or.inl (lw_g_in (t2_in (List.mem_of_getElem? (i := 17) rfl)) rfl)
theorem mlX6_46 : MLk RX6 46 mX0_isBefore.1 := Or.inr ⟨"VersionedRows", lw_n_in (t2_in (List.mem_of_getElem? (i := 21) rfl)) rfl⟩
theorem mlL_32 : MLk RL 32 mX8_write.1 := Or.inl (lw_g_in (t2_in (List.mem_of_getElem? (i := 26) rfl)) rfl)
theorem clX8_100 : Cond.classLink RX8 100 RX3 ∈ lw_g := lw_g_in (t2_in (List.mem_of_getElem? (i := 30) rfl)) rfl
theorem nwX8_100 : NewL RX8 100 3 := ⟨clX8_100, lw_g_in (t2_in (List.mem_of_getElem? (i := 31) rfl)) rfl, lw_g_in (t1_in (List.mem_of_getElem? (i := 10) rfl)) rfl, by decide⟩
theorem mlX8_110 : MLk RX8 110 mX3_init.1 := Or.inr ⟨"VersionedRows", lw_n_in (t2_in (List.mem_of_getElem? (i := 32) rfl)) rfl⟩
theorem oiX3_3 : Cond.methodLink RX3 3 objectInit ∈ lw_g := lw_g_in (t2_in (List.mem_of_getElem? (i := 35) rfl)) rfl
theorem mlX8_113 : MLk RX8 113 mX7_put.1 := Or.inr ⟨"VersionedRows", lw_n_in (t2_in (List.mem_of_getElem? (i := 52) rfl)) rfl⟩
theorem mlL_37 : MLk RL 37 mX8_remove.1 := Or.inl (lw_g_in (t2_in (List.mem_of_getElem? (i := 56) rfl)) rfl)
theorem mlL_41 : MLk RL 41 mX8_query.1 := Or.inl (lw_g_in (t2_in (List.mem_of_getElem? (i := 60) rfl)) rfl)
theorem mlX8_117 : MLk RX8 117 mX8_choosePlan.1 := Or.inl (lw_g_in (t2_in (List.mem_of_getElem? (i := 64) rfl)) rfl)
theorem clX8_186 : Cond.classLink RX8 186 RX2 ∈ lw_g := lw_g_in (t2_in (List.mem_of_getElem? (i := 68) rfl)) rfl
theorem nwX8_186 : NewL RX8 186 2 := ⟨clX8_186, lw_g_in (t2_in (List.mem_of_getElem? (i := 69) rfl)) rfl, lw_g_in (t1_in (List.mem_of_getElem? (i := 11) rfl)) rfl, by decide⟩
theorem mlX8_273 : MLk RX8 273 mX2_init.1 := Or.inr ⟨"VersionedRows", lw_n_in (t2_in (List.mem_of_getElem? (i := 70) rfl)) rfl⟩
theorem oiX2_3 : Cond.methodLink RX2 3 objectInit ∈ lw_g := lw_g_in (t2_in (List.mem_of_getElem? (i := 73) rfl)) rfl
theorem coX2_11 : Cond.constantLong RX2 11 (-2147483648) ∈ lw_g := lw_g_in (t2_in (List.mem_of_getElem? (i := 74) rfl)) rfl
theorem coX2_19 : Cond.constantLong RX2 19 (2147483647) ∈ lw_g := lw_g_in (t2_in (List.mem_of_getElem? (i := 75) rfl)) rfl
theorem mlX8_275 : MLk RX8 275 mX2_hear.1 := Or.inr ⟨"VersionedRows", lw_n_in (t2_in (List.mem_of_getElem? (i := 92) rfl)) rfl⟩
theorem mlX2_37 : MLk RX2 37 mX2_hear.1 := Or.inl (lw_g_in (t2_in (List.mem_of_getElem? (i := 96) rfl)) rfl)
theorem mlX2_44 : MLk RX2 44 mX2_hearComparison.1 := Or.inl (lw_g_in (t2_in (List.mem_of_getElem? (i := 97) rfl)) rfl)
theorem mlX2_48 : MLk RX2 48 mX1_isConst.1 := Or.inr ⟨"VersionedRows", lw_n_in (t2_in (List.mem_of_getElem? (i := 101) rfl)) rfl⟩
theorem mlX2_52 : MLk RX2 52 mX1_areSame.1 := Or.inr ⟨"VersionedRows", lw_n_in (t2_in (List.mem_of_getElem? (i := 105) rfl)) rfl⟩
theorem mlX1_32 : MLk RX1 32 mX1_areSame.1 := Or.inl (lw_g_in (t2_in (List.mem_of_getElem? (i := 108) rfl)) rfl)
theorem mlX2_59 : MLk RX2 59 mX2_narrow.1 := Or.inl (lw_g_in (t2_in (List.mem_of_getElem? (i := 109) rfl)) rfl)
theorem mlX2_63 : MLk RX2 63 mJ9_max_f86c9.1 := Or.inl (lw_g_in (t2_in (List.mem_of_getElem? (i := 113) rfl)) rfl)
theorem mpX2_63 : Cond.methodLink RX2 63 mJ9_max_f86c9.1 ∈ lw_g := lw_g_in (t2_in (List.mem_of_getElem? (i := 113) rfl)) rfl
theorem mlX2_69 : MLk RX2 69 mJ9_min_f86c9.1 := Or.inl (lw_g_in (t2_in (List.mem_of_getElem? (i := 116) rfl)) rfl)
theorem mpX2_69 : Cond.methodLink RX2 69 mJ9_min_f86c9.1 ∈ lw_g := lw_g_in (t2_in (List.mem_of_getElem? (i := 116) rfl)) rfl
theorem mlX8_281 : MLk RX8 281 mX2_width.1 := Or.inr ⟨"VersionedRows", lw_n_in (t2_in (List.mem_of_getElem? (i := 119) rfl)) rfl⟩
theorem mlX8_124 : MLk RX8 124 mX8_countCandidates.1 := Or.inl (lw_g_in (t2_in (List.mem_of_getElem? (i := 123) rfl)) rfl)
theorem mlX8_285 : MLk RX8 285 mX6_countThere.1 := Or.inr ⟨"VersionedRows", lw_n_in (t2_in (List.mem_of_getElem? (i := 127) rfl)) rfl⟩
theorem mlX6_65 : MLk RX6 65 mX0_isWithin.1 := Or.inr ⟨"VersionedRows", lw_n_in (t2_in (List.mem_of_getElem? (i := 131) rfl)) rfl⟩
theorem mlX8_127 : MLk RX8 127 mX8_fillResult.1 := Or.inl (lw_g_in (t2_in (List.mem_of_getElem? (i := 135) rfl)) rfl)
theorem mlX8_289 : MLk RX8 289 mX1_isTrueOf.1 := Or.inr ⟨"VersionedRows", lw_n_in (t2_in (List.mem_of_getElem? (i := 139) rfl)) rfl⟩
theorem mlX1_47 : MLk RX1 47 mX1_numberOf.1 := Or.inl (lw_g_in (t2_in (List.mem_of_getElem? (i := 142) rfl)) rfl)
theorem mlX1_51 : MLk RX1 51 mX1_isTrueOf.1 := Or.inl (lw_g_in (t2_in (List.mem_of_getElem? (i := 145) rfl)) rfl)
theorem mlX1_55 : MLk RX1 55 mX3_startsWith.1 := Or.inr ⟨"VersionedRows", lw_n_in (t2_in (List.mem_of_getElem? (i := 146) rfl)) rfl⟩
theorem mlL_46 : MLk RL 46 mX8_commit.1 := Or.inl (lw_g_in (t2_in (List.mem_of_getElem? (i := 150) rfl)) rfl)
theorem mlX8_134 : MLk RX8 134 mX8_isTooLate.1 := Or.inl (lw_g_in (t2_in (List.mem_of_getElem? (i := 154) rfl)) rfl)
theorem mlX8_237 : MLk RX8 237 mX6_lastStampOf.1 := Or.inr ⟨"VersionedRows", lw_n_in (t2_in (List.mem_of_getElem? (i := 158) rfl)) rfl⟩
theorem coX6_64 : Cond.constant RX6 64 (2147483647) ∈ lw_g := lw_g_in (t2_in (List.mem_of_getElem? (i := 162) rfl)) rfl
theorem mlX8_145 : MLk RX8 145 mX8_batchSize.1 := Or.inl (lw_g_in (t2_in (List.mem_of_getElem? (i := 163) rfl)) rfl)
theorem mlX8_240 : MLk RX8 240 mX8_countIndexEntries.1 := Or.inl (lw_g_in (t2_in (List.mem_of_getElem? (i := 167) rfl)) rfl)
theorem mlX8_244 : MLk RX8 244 mX8_hasOwnValue.1 := Or.inl (lw_g_in (t2_in (List.mem_of_getElem? (i := 171) rfl)) rfl)
theorem mlX8_248 : MLk RX8 248 mX8_valueIn.1 := Or.inl (lw_g_in (t2_in (List.mem_of_getElem? (i := 175) rfl)) rfl)
theorem mlX8_252 : MLk RX8 252 mX1_numberOf.1 := Or.inr ⟨"VersionedRows", lw_n_in (t2_in (List.mem_of_getElem? (i := 179) rfl)) rfl⟩
theorem mlX8_149 : MLk RX8 149 mX6_hasRoomFor.1 := Or.inr ⟨"VersionedRows", lw_n_in (t2_in (List.mem_of_getElem? (i := 180) rfl)) rfl⟩
theorem mlX8_152 : MLk RX8 152 mX8_takeBatch.1 := Or.inl (lw_g_in (t2_in (List.mem_of_getElem? (i := 184) rfl)) rfl)
theorem clX8_256 : Cond.classLink RX8 256 RX0 ∈ lw_g := lw_g_in (t2_in (List.mem_of_getElem? (i := 188) rfl)) rfl
theorem nwX8_256 : NewL RX8 256 0 := ⟨clX8_256, lw_g_in (t2_in (List.mem_of_getElem? (i := 24) rfl)) rfl, lw_g_in (t1_in (List.mem_of_getElem? (i := 9) rfl)) rfl, by decide⟩
theorem mlX8_258 : MLk RX8 258 mX0_init.1 := Or.inr ⟨"VersionedRows", lw_n_in (t2_in (List.mem_of_getElem? (i := 189) rfl)) rfl⟩
theorem oiX0_1 : Cond.methodLink RX0 1 objectInit ∈ lw_g := lw_g_in (t2_in (List.mem_of_getElem? (i := 192) rfl)) rfl
theorem mlX0_19 : MLk RX0 19 mX0_placeOf.1 := Or.inl (lw_g_in (t2_in (List.mem_of_getElem? (i := 193) rfl)) rfl)
theorem mlX8_261 : MLk RX8 261 mX6_add.1 := Or.inr ⟨"VersionedRows", lw_n_in (t2_in (List.mem_of_getElem? (i := 228) rfl)) rfl⟩
theorem mlX6_28 : MLk RX6 28 mX6_hasRoomFor.1 := Or.inl (lw_g_in (t2_in (List.mem_of_getElem? (i := 232) rfl)) rfl)
theorem mlX8_265 : MLk RX8 265 mX8_addIndexEntries.1 := Or.inl (lw_g_in (t2_in (List.mem_of_getElem? (i := 233) rfl)) rfl)
theorem mlX8_159 : MLk RX8 159 mX8_flushAndMerge.1 := Or.inl (lw_g_in (t2_in (List.mem_of_getElem? (i := 237) rfl)) rfl)
theorem mlX8_165 : MLk RX8 165 mX6_writeMemoryOut.1 := Or.inr ⟨"VersionedRows", lw_n_in (t3_in (List.mem_of_getElem? (i := 1) rfl)) rfl⟩
theorem mlX6_73 : MLk RX6 73 mX6_newFile.1 := Or.inl (lw_g_in (t3_in (List.mem_of_getElem? (i := 5) rfl)) rfl)
theorem clX6_78 : Cond.classLink RX6 78 RX5 ∈ lw_g := lw_g_in (t3_in (List.mem_of_getElem? (i := 9) rfl)) rfl
theorem nwX6_78 : NewL RX6 78 5 := ⟨clX6_78, lw_g_in (t3_in (List.mem_of_getElem? (i := 10) rfl)) rfl, lw_g_in (t1_in (List.mem_of_getElem? (i := 13) rfl)) rfl, by decide⟩
theorem mlX6_86 : MLk RX6 86 mX5_init.1 := Or.inr ⟨"VersionedRows", lw_n_in (t3_in (List.mem_of_getElem? (i := 11) rfl)) rfl⟩
theorem oiX5_3 : Cond.methodLink RX5 3 objectInit ∈ lw_g := lw_g_in (t3_in (List.mem_of_getElem? (i := 14) rfl)) rfl
theorem mlX6_89 : MLk RX6 89 mJx4a65c_add_9ea2d.1 := Or.inl (lw_g_in (t3_in (List.mem_of_getElem? (i := 36) rfl)) rfl)
theorem mlJx4a65c_131 : MLk RJx4a65c 131 mJx4a65c_add_72be8.1 := Or.inl (lw_g_in (t3_in (List.mem_of_getElem? (i := 40) rfl)) rfl)
theorem mlJx4a65c_129 : MLk RJx4a65c 129 mJx4a65c_grow_d5877.1 := Or.inl (lw_g_in (t3_in (List.mem_of_getElem? (i := 44) rfl)) rfl)
theorem mlJx4a65c_69 : MLk RJx4a65c 69 mJx4a65c_grow_92f84.1 := Or.inl (lw_g_in (t3_in (List.mem_of_getElem? (i := 48) rfl)) rfl)
theorem mlJx4a65c_73 : MLk RJx4a65c 73 mJ8_newLength_cabcc.1 := Or.inl (lw_g_in (t3_in (List.mem_of_getElem? (i := 52) rfl)) rfl)
theorem mlJ8_194 : MLk RJ8 194 mJ9_max_7cf53.1 := Or.inl (lw_g_in (t3_in (List.mem_of_getElem? (i := 55) rfl)) rfl)
theorem mpJ8_194 : Cond.methodLink RJ8 194 mJ9_max_7cf53.1 ∈ lw_g := lw_g_in (t3_in (List.mem_of_getElem? (i := 55) rfl)) rfl
theorem coJ8_200 : Cond.constant RJ8 200 (2147483639) ∈ lw_g := lw_g_in (t3_in (List.mem_of_getElem? (i := 58) rfl)) rfl
theorem mlJ8_201 : MLk RJ8 201 mJ8_hugeLength_7cf53.1 := Or.inl (lw_g_in (t3_in (List.mem_of_getElem? (i := 59) rfl)) rfl)
theorem mlJx4a65c_66 : MLk RJx4a65c 66 mJ7_copyOf_1904c.1 := Or.inl (lw_g_in (t3_in (List.mem_of_getElem? (i := 62) rfl)) rfl)
theorem mlJ7_300 : MLk RJ7 300 mJ7_copyOf_6403c.1 := Or.inl (lw_g_in (t3_in (List.mem_of_getElem? (i := 80) rfl)) rfl)
theorem clJ7_110 : Cond.classLink RJ7 110 "[Ljava/lang/Object;" ∈ lw_g := lw_g_in (t3_in (List.mem_of_getElem? (i := 83) rfl)) rfl
theorem clJ7_2 : Cond.classLink RJ7 2 "java/lang/Object" ∈ lw_g := lw_g_in (t3_in (List.mem_of_getElem? (i := 85) rfl)) rfl
theorem mlJ7_304 : MLk RJ7 304 mJ9_min_7cf53.1 := Or.inl (lw_g_in (t3_in (List.mem_of_getElem? (i := 86) rfl)) rfl)
theorem mpJ7_304 : Cond.methodLink RJ7 304 mJ9_min_7cf53.1 ∈ lw_g := lw_g_in (t3_in (List.mem_of_getElem? (i := 86) rfl)) rfl
theorem mlJx4a65c_79 : MLk RJx4a65c 79 mJ9_max_7cf53.1 := Or.inl (lw_g_in (t3_in (List.mem_of_getElem? (i := 92) rfl)) rfl)
theorem mpJx4a65c_79 : Cond.methodLink RJx4a65c 79 mJ9_max_7cf53.1 ∈ lw_g := lw_g_in (t3_in (List.mem_of_getElem? (i := 92) rfl)) rfl
theorem clJx4a65c_7 : Cond.classLink RJx4a65c 7 "java/lang/Object" ∈ lw_g := lw_g_in (t3_in (List.mem_of_getElem? (i := 93) rfl)) rfl
theorem mlX6_77 : MLk RX6 77 mX5_append.1 := Or.inr ⟨"VersionedRows", lw_n_in (t3_in (List.mem_of_getElem? (i := 94) rfl)) rfl⟩
theorem mlX8_171 : MLk RX8 171 mX8_horizon.1 := Or.inl (lw_g_in (t3_in (List.mem_of_getElem? (i := 98) rfl)) rfl)
theorem mlX8_220 : MLk RX8 220 mJ9_min_7cf53.1 := Or.inl (lw_g_in (t3_in (List.mem_of_getElem? (i := 102) rfl)) rfl)
theorem mpX8_220 : Cond.methodLink RX8 220 mJ9_min_7cf53.1 ∈ lw_g := lw_g_in (t3_in (List.mem_of_getElem? (i := 102) rfl)) rfl
theorem coX8_269 : Cond.constant RX8 269 (1000000) ∈ lw_g := lw_g_in (t3_in (List.mem_of_getElem? (i := 103) rfl)) rfl
theorem mlX8_270 : MLk RX8 270 mX6_overfullLevel.1 := Or.inr ⟨"VersionedRows", lw_n_in (t3_in (List.mem_of_getElem? (i := 104) rfl)) rfl⟩
theorem mlX6_104 : MLk RX6 104 mX6_countFiles.1 := Or.inl (lw_g_in (t3_in (List.mem_of_getElem? (i := 108) rfl)) rfl)
theorem mlX6_93 : MLk RX6 93 mJx4a65c_size_8abf5.1 := Or.inl (lw_g_in (t3_in (List.mem_of_getElem? (i := 112) rfl)) rfl)
theorem mlX6_97 : MLk RX6 97 mJx4a65c_get_915e3.1 := Or.inl (lw_g_in (t3_in (List.mem_of_getElem? (i := 116) rfl)) rfl)
theorem mlJx4a65c_118 : MLk RJx4a65c 118 mJ15_checkIndex_7cf53.1 := Or.inl (lw_g_in (t3_in (List.mem_of_getElem? (i := 120) rfl)) rfl)
theorem mlJ15_105 : MLk RJ15 105 mJ3_checkIndex_8e157.1 := Or.inl (lw_g_in (t3_in (List.mem_of_getElem? (i := 123) rfl)) rfl)
theorem mlJx4a65c_123 : MLk RJx4a65c 123 mJx4a65c_elementData_915e3.1 := Or.inl (lw_g_in (t3_in (List.mem_of_getElem? (i := 126) rfl)) rfl)
theorem mlX8_174 : MLk RX8 174 mX6_mergeDown.1 := Or.inr ⟨"VersionedRows", lw_n_in (t3_in (List.mem_of_getElem? (i := 130) rfl)) rfl⟩
theorem mlX6_108 : MLk RX6 108 mX6_fileOn.1 := Or.inl (lw_g_in (t3_in (List.mem_of_getElem? (i := 134) rfl)) rfl)
theorem mlX6_112 : MLk RX6 112 mX6_retire.1 := Or.inl (lw_g_in (t3_in (List.mem_of_getElem? (i := 138) rfl)) rfl)
theorem mlX6_120 : MLk RX6 120 mX5_meets.1 := Or.inr ⟨"VersionedRows", lw_n_in (t3_in (List.mem_of_getElem? (i := 142) rfl)) rfl⟩
theorem mlX6_128 : MLk RX6 128 mJx4a65c_remove_915e3.1 := Or.inl (lw_g_in (t3_in (List.mem_of_getElem? (i := 146) rfl)) rfl)
theorem mlJx4a65c_144 : MLk RJx4a65c 144 mJx4a65c_fastRemove_b59b0.1 := Or.inl (lw_g_in (t3_in (List.mem_of_getElem? (i := 150) rfl)) rfl)
theorem mlX6_116 : MLk RX6 116 mX6_moveRetired.1 := Or.inl (lw_g_in (t3_in (List.mem_of_getElem? (i := 155) rfl)) rfl)
theorem clX6_131 : Cond.classLink RX6 131 RX4 ∈ lw_g := lw_g_in (t3_in (List.mem_of_getElem? (i := 159) rfl)) rfl
theorem nwX6_131 : NewL RX6 131 4 := ⟨clX6_131, lw_g_in (t3_in (List.mem_of_getElem? (i := 160) rfl)) rfl, lw_g_in (t1_in (List.mem_of_getElem? (i := 19) rfl)) rfl, by decide⟩
theorem mlX6_133 : MLk RX6 133 mX4_init.1 := Or.inr ⟨"VersionedRows", lw_n_in (t3_in (List.mem_of_getElem? (i := 161) rfl)) rfl⟩
theorem oiX4_1 : Cond.methodLink RX4 1 objectInit ∈ lw_g := lw_g_in (t3_in (List.mem_of_getElem? (i := 164) rfl)) rfl
theorem mlX6_136 : MLk RX6 136 mX0_isInRetiredFile.1 := Or.inr ⟨"VersionedRows", lw_n_in (t3_in (List.mem_of_getElem? (i := 178) rfl)) rfl⟩
theorem mlX6_140 : MLk RX6 140 mX4_keeps.1 := Or.inr ⟨"VersionedRows", lw_n_in (t3_in (List.mem_of_getElem? (i := 182) rfl)) rfl⟩
theorem mlX6_144 : MLk RX6 144 mX5_isFullBefore.1 := Or.inr ⟨"VersionedRows", lw_n_in (t3_in (List.mem_of_getElem? (i := 186) rfl)) rfl⟩
theorem mlL_50 : MLk RL 50 mX8_tear.1 := Or.inl (lw_g_in (t3_in (List.mem_of_getElem? (i := 190) rfl)) rfl)
theorem mlX8_162 : MLk RX8 162 mX8_loseOpenOnes.1 := Or.inl (lw_g_in (t3_in (List.mem_of_getElem? (i := 194) rfl)) rfl)
theorem mlL_55 : MLk RL 55 mX8_abort.1 := Or.inl (lw_g_in (t3_in (List.mem_of_getElem? (i := 198) rfl)) rfl)
theorem mlL_60 : MLk RL 60 mX8_flush.1 := Or.inl (lw_g_in (t3_in (List.mem_of_getElem? (i := 202) rfl)) rfl)
theorem mlL_64 : MLk RL 64 mX8_compact.1 := Or.inl (lw_g_in (t3_in (List.mem_of_getElem? (i := 206) rfl)) rfl)
theorem mlX8_168 : MLk RX8 168 mX6_countFiles.1 := Or.inr ⟨"VersionedRows", lw_n_in (t3_in (List.mem_of_getElem? (i := 210) rfl)) rfl⟩
theorem mlL_68 : MLk RL 68 mX8_crash.1 := Or.inl (lw_g_in (t3_in (List.mem_of_getElem? (i := 211) rfl)) rfl)
theorem mlL_72 : MLk RL 72 mX8_result.1 := Or.inl (lw_g_in (t3_in (List.mem_of_getElem? (i := 215) rfl)) rfl)
theorem mlL_76 : MLk RL 76 mX8_plan.1 := Or.inl (lw_g_in (t3_in (List.mem_of_getElem? (i := 219) rfl)) rfl)
theorem coX8_194 : Cond.constantLong RX8 194 (-1) ∈ lw_g := lw_g_in (t3_in (List.mem_of_getElem? (i := 223) rfl)) rfl
theorem mlL_81 : MLk RL 81 mX8_state.1 := Or.inl (lw_g_in (t3_in (List.mem_of_getElem? (i := 224) rfl)) rfl)
theorem mlL_85 : MLk RL 85 mX8_about.1 := Or.inl (lw_g_in (t3_in (List.mem_of_getElem? (i := 228) rfl)) rfl)
theorem mlX8_202 : MLk RX8 202 mX8_typeOfTop.1 := Or.inl (lw_g_in (t3_in (List.mem_of_getElem? (i := 232) rfl)) rfl)
theorem mlL_89 : MLk RL 89 mX8_files.1 := Or.inl (lw_g_in (t3_in (List.mem_of_getElem? (i := 236) rfl)) rfl)
theorem mlL_93 : MLk RL 93 mX8_file.1 := Or.inl (lw_g_in (t4_in (List.mem_of_getElem? (i := 0) rfl)) rfl)
theorem mlX8_205 : MLk RX8 205 mX6_fileOn.1 := Or.inr ⟨"VersionedRows", lw_n_in (t4_in (List.mem_of_getElem? (i := 4) rfl)) rfl⟩
theorem mlX8_209 : MLk RX8 209 mX5_tell.1 := Or.inr ⟨"VersionedRows", lw_n_in (t4_in (List.mem_of_getElem? (i := 5) rfl)) rfl⟩
theorem clL_10 : Cond.classLink RL 10 RX9 ∈ lw_g := lw_g_in (t4_in (List.mem_of_getElem? (i := 9) rfl)) rfl
theorem nwL_10 : NewL RL 10 9 := ⟨clL_10, lw_g_in (t4_in (List.mem_of_getElem? (i := 10) rfl)) rfl, lw_g_in (t1_in (List.mem_of_getElem? (i := 6) rfl)) rfl, by decide⟩
theorem mlL_12 : MLk RL 12 mX9_init.1 := Or.inl (lw_g_in (t4_in (List.mem_of_getElem? (i := 11) rfl)) rfl)
theorem oiX9_1 : Cond.methodLink RX9 1 objectInit ∈ lw_g := lw_g_in (t4_in (List.mem_of_getElem? (i := 14) rfl)) rfl
theorem mlL_17 : MLk RL 17 mX9_say.1 := Or.inl (lw_g_in (t4_in (List.mem_of_getElem? (i := 130) rfl)) rfl)
theorem mlX9_81 : MLk RX9 81 mX9_isName.1 := Or.inl (lw_g_in (t4_in (List.mem_of_getElem? (i := 134) rfl)) rfl)
theorem mlX9_88 : MLk RX9 88 mX9_needs.1 := Or.inl (lw_g_in (t4_in (List.mem_of_getElem? (i := 137) rfl)) rfl)
theorem mlL_22 : MLk RL 22 mX9_index.1 := Or.inl (lw_g_in (t4_in (List.mem_of_getElem? (i := 140) rfl)) rfl)
theorem mlL_26 : MLk RL 26 mX9_begin.1 := Or.inl (lw_g_in (t4_in (List.mem_of_getElem? (i := 144) rfl)) rfl)
theorem mlX9_119 : MLk RX9 119 mX9_opens.1 := Or.inl (lw_g_in (t4_in (List.mem_of_getElem? (i := 148) rfl)) rfl)
theorem mlL_31 : MLk RL 31 mX9_read.1 := Or.inl (lw_g_in (t4_in (List.mem_of_getElem? (i := 152) rfl)) rfl)
theorem mlX9_123 : MLk RX9 123 mX9_open.1 := Or.inl (lw_g_in (t4_in (List.mem_of_getElem? (i := 156) rfl)) rfl)
theorem mlX9_126 : MLk RX9 126 mX9_isKey.1 := Or.inl (lw_g_in (t4_in (List.mem_of_getElem? (i := 160) rfl)) rfl)
theorem mlX9_129 : MLk RX9 129 mX9_rowFor.1 := Or.inl (lw_g_in (t4_in (List.mem_of_getElem? (i := 163) rfl)) rfl)
theorem mlX9_113 : MLk RX9 113 mX9_rowAt.1 := Or.inl (lw_g_in (t4_in (List.mem_of_getElem? (i := 167) rfl)) rfl)
theorem mlX9_109 : MLk RX9 109 mX9_seen.1 := Or.inl (lw_g_in (t4_in (List.mem_of_getElem? (i := 171) rfl)) rfl)
theorem mlL_36 : MLk RL 36 mX9_write.1 := Or.inl (lw_g_in (t4_in (List.mem_of_getElem? (i := 175) rfl)) rfl)
theorem mlL_40 : MLk RL 40 mX9_remove.1 := Or.inl (lw_g_in (t4_in (List.mem_of_getElem? (i := 179) rfl)) rfl)
theorem mlL_49 : MLk RL 49 mX9_commit.1 := Or.inl (lw_g_in (t4_in (List.mem_of_getElem? (i := 183) rfl)) rfl)
theorem mlX9_142 : MLk RX9 142 mX9_beaten.1 := Or.inl (lw_g_in (t4_in (List.mem_of_getElem? (i := 187) rfl)) rfl)
theorem mlX9_145 : MLk RX9 145 mX9_reads.1 := Or.inl (lw_g_in (t4_in (List.mem_of_getElem? (i := 191) rfl)) rfl)
theorem mlX9_138 : MLk RX9 138 mX9_batch.1 := Or.inl (lw_g_in (t4_in (List.mem_of_getElem? (i := 195) rfl)) rfl)
theorem mlX9_132 : MLk RX9 132 mX9_value.1 := Or.inl (lw_g_in (t4_in (List.mem_of_getElem? (i := 199) rfl)) rfl)
theorem mlX9_92 : MLk RX9 92 mX9_starts.1 := Or.inl (lw_g_in (t4_in (List.mem_of_getElem? (i := 203) rfl)) rfl)
theorem mlX9_96 : MLk RX9 96 mX9_two.1 := Or.inl (lw_g_in (t4_in (List.mem_of_getElem? (i := 206) rfl)) rfl)
theorem mlX9_134 : MLk RX9 134 mX9_entry.1 := Or.inl (lw_g_in (t4_in (List.mem_of_getElem? (i := 209) rfl)) rfl)
theorem mlX9_148 : MLk RX9 148 mX9_comes.1 := Or.inl (lw_g_in (t4_in (List.mem_of_getElem? (i := 213) rfl)) rfl)
theorem mlX9_152 : MLk RX9 152 mX9_inFile.1 := Or.inl (lw_g_in (t4_in (List.mem_of_getElem? (i := 217) rfl)) rfl)
theorem mlX9_155 : MLk RX9 155 mX9_flush.1 := Or.inl (lw_g_in (t4_in (List.mem_of_getElem? (i := 221) rfl)) rfl)
theorem mlX9_170 : MLk RX9 170 mX9_addFile.1 := Or.inl (lw_g_in (t4_in (List.mem_of_getElem? (i := 225) rfl)) rfl)
theorem mlX9_158 : MLk RX9 158 mX9_settle.1 := Or.inl (lw_g_in (t4_in (List.mem_of_getElem? (i := 229) rfl)) rfl)
theorem mlX9_173 : MLk RX9 173 mX9_files.1 := Or.inl (lw_g_in (t4_in (List.mem_of_getElem? (i := 233) rfl)) rfl)
theorem mlX9_175 : MLk RX9 175 mX9_compacts.1 := Or.inl (lw_g_in (t4_in (List.mem_of_getElem? (i := 237) rfl)) rfl)
theorem mlX9_191 : MLk RX9 191 mX9_meet.1 := Or.inl (lw_g_in (t5_in (List.mem_of_getElem? (i := 1) rfl)) rfl)
theorem mlX9_185 : MLk RX9 185 mX9_end.1 := Or.inl (lw_g_in (t5_in (List.mem_of_getElem? (i := 5) rfl)) rfl)
theorem mlX9_182 : MLk RX9 182 mX9_before.1 := Or.inl (lw_g_in (t5_in (List.mem_of_getElem? (i := 9) rfl)) rfl)
theorem mlX9_178 : MLk RX9 178 mX9_places.1 := Or.inl (lw_g_in (t5_in (List.mem_of_getElem? (i := 13) rfl)) rfl)
theorem mlX9_194 : MLk RX9 194 mX9_dropFile.1 := Or.inl (lw_g_in (t5_in (List.mem_of_getElem? (i := 17) rfl)) rfl)
theorem mlX9_197 : MLk RX9 197 mX9_sort.1 := Or.inl (lw_g_in (t5_in (List.mem_of_getElem? (i := 21) rfl)) rfl)
theorem mlX9_200 : MLk RX9 200 mX9_merge.1 := Or.inl (lw_g_in (t5_in (List.mem_of_getElem? (i := 25) rfl)) rfl)
theorem mlX9_203 : MLk RX9 203 mX9_horizon.1 := Or.inl (lw_g_in (t5_in (List.mem_of_getElem? (i := 29) rfl)) rfl)
theorem mlX9_206 : MLk RX9 206 mX9_clean.1 := Or.inl (lw_g_in (t5_in (List.mem_of_getElem? (i := 33) rfl)) rfl)
theorem mlL_54 : MLk RL 54 mX9_tear.1 := Or.inl (lw_g_in (t5_in (List.mem_of_getElem? (i := 37) rfl)) rfl)
theorem mlX9_161 : MLk RX9 161 mX9_crash.1 := Or.inl (lw_g_in (t5_in (List.mem_of_getElem? (i := 41) rfl)) rfl)
theorem mlL_59 : MLk RL 59 mX9_abort.1 := Or.inl (lw_g_in (t5_in (List.mem_of_getElem? (i := 45) rfl)) rfl)
theorem mlL_71 : MLk RL 71 mX9_crash.1 := Or.inl (lw_g_in (t5_in (List.mem_of_getElem? (i := 49) rfl)) rfl)
theorem mlL_63 : MLk RL 63 mX9_flush.1 := Or.inl (lw_g_in (t5_in (List.mem_of_getElem? (i := 50) rfl)) rfl)
theorem mlL_92 : MLk RL 92 mX9_files.1 := Or.inl (lw_g_in (t5_in (List.mem_of_getElem? (i := 51) rfl)) rfl)
theorem mlL_67 : MLk RL 67 mX9_compact.1 := Or.inl (lw_g_in (t5_in (List.mem_of_getElem? (i := 52) rfl)) rfl)
theorem mlL_45 : MLk RL 45 mX9_query.1 := Or.inl (lw_g_in (t5_in (List.mem_of_getElem? (i := 56) rfl)) rfl)
theorem mlX9_245 : MLk RX9 245 mX9_conjuncts.1 := Or.inl (lw_g_in (t5_in (List.mem_of_getElem? (i := 60) rfl)) rfl)
theorem coX9_227 : Cond.constantLong RX9 227 (-2147483648) ∈ lw_g := lw_g_in (t5_in (List.mem_of_getElem? (i := 64) rfl)) rfl
theorem coX9_233 : Cond.constantLong RX9 233 (2147483647) ∈ lw_g := lw_g_in (t5_in (List.mem_of_getElem? (i := 65) rfl)) rfl
theorem mlX9_220 : MLk RX9 220 mX9_from.1 := Or.inl (lw_g_in (t5_in (List.mem_of_getElem? (i := 66) rfl)) rfl)
theorem mlX9_235 : MLk RX9 235 mX9_conjunct.1 := Or.inl (lw_g_in (t5_in (List.mem_of_getElem? (i := 70) rfl)) rfl)
theorem mlX9_223 : MLk RX9 223 mX9_same.1 := Or.inl (lw_g_in (t5_in (List.mem_of_getElem? (i := 74) rfl)) rfl)
theorem mlX9_229 : MLk RX9 229 mX9_bound.1 := Or.inl (lw_g_in (t5_in (List.mem_of_getElem? (i := 78) rfl)) rfl)
theorem mlL_75 : MLk RL 75 mX9_result.1 := Or.inl (lw_g_in (t5_in (List.mem_of_getElem? (i := 82) rfl)) rfl)
theorem mlL_80 : MLk RL 80 mX9_plan.1 := Or.inl (lw_g_in (t5_in (List.mem_of_getElem? (i := 86) rfl)) rfl)
theorem coX9_255 : Cond.constantLong RX9 255 (-1) ∈ lw_g := lw_g_in (t5_in (List.mem_of_getElem? (i := 90) rfl)) rfl
theorem mlL_84 : MLk RL 84 mX9_state.1 := Or.inl (lw_g_in (t5_in (List.mem_of_getElem? (i := 91) rfl)) rfl)
theorem mlL_88 : MLk RL 88 mX9_about.1 := Or.inl (lw_g_in (t5_in (List.mem_of_getElem? (i := 95) rfl)) rfl)
theorem mlL_96 : MLk RL 96 mX9_file.1 := Or.inl (lw_g_in (t5_in (List.mem_of_getElem? (i := 99) rfl)) rfl)
theorem mlX9_257 : MLk RX9 257 mX9_aboutFile.1 := Or.inl (lw_g_in (t5_in (List.mem_of_getElem? (i := 103) rfl)) rfl)
theorem math_ini : Cond.initialized "java/lang/Math" ∈ lw_g := lw_g_in (t1_in (List.mem_of_getElem? (i := 12) rfl)) rfl
theorem oi_in : Cond.instanceMethod objectInit ∈ lw_g := lw_g_in (t1_in (List.mem_of_getElem? (i := 26) rfl)) rfl
theorem oi_code : Cond.code objectInit ⟨#[0xb1]⟩ 1 none ∈ lw_g := lw_g_in (t1_in (List.mem_of_getElem? (i := 27) rfl)) rfl
end
section
section MATH
variable {X : CX} {M : MD} {d pc pc' : Nat} {L : List (Option LV)} {S S' : List LV} {G : GH} {Q : Option LV → GH → Prop}
theorem Ev.psr (hp : ∀ (p : Program) (e : Env) (R : Room) (s : State) (m : MethodId) (args : Array Value) (below : List Frame) (meth : Method) (c : Code), MCx X M d p R s m args meth c →
    ∀ (H : Heap) (locs : List Loc) (cells slots : Nat) (ls : Array Slot) (Z : State → Prop), va_S (cx_A X) s.heap H locs → lvOK X ls M.2.2.1 L → cells ≤ R.cells → slots ≤ R.slots →
    W p X.1 e R s m args below meth c H locs cells slots Z (F0 m pc' ls (S'.map (cx_v X))) → W p X.1 e R s m args below meth c H locs cells slots Z (F0 m pc ls (S.map (cx_v X))))
    (h : Ev X M d pc' L S' G Q) : Ev X M d pc L S G Q := by
  obtain ⟨r, G', h1, h2, h3, h4⟩ := h
  refine ⟨r, G', h1, h2, ?_, h4⟩
  intro p e R s m args below meth c C H locs cells slots ls Z hR hS hl hc hs k
  exact hp p e R s m args below meth c C H locs cells slots ls Z hS hl (Nat.le_trans (Nat.le_add_right _ _) hc) (Nat.le_trans (Nat.le_add_right _ _) hs) (h3 p e R s m args below meth c C H locs cells slots ls Z hR hS hl hc hs k)
theorem mcat {S : List LV} {R : Room} (h : 64 * (d + 1) ≤ R.locals) (hW : catS X S ≤ 8) : ((S.map (cx_v X)).map fun v => v.category).sum ≤ 8 ∧ 64 ≤ R.locals := by
  have e : ((S.map (cx_v X)).map fun v => v.category).sum = catS X S := by unfold catS; rw [List.map_map]; rfl
  exact ⟨by rw [e]; exact hW, by omega⟩
def MLp (own : String) (idx : Nat) (y : MethodName) : Prop := Cond.methodLink own idx y ∈ lw_g
theorem ev_maxI {idx : Nat} {x y : Int32} (hd : decode M.2.1 pc = .ok (.invokestatic idx, 3)) (hm : MLp M.1.cls idx mJ9_max_7cf53.1) (hW : catS X S ≤ 8) (k : Ev X M (d + 1) (pc + 3) L (iV (if x < y then y else x) :: S) G Q) : Ev X M (d + 1) pc L (iV y :: iV x :: S) G Q := by
  refine Ev.psr ?_ k
  intro p e R s m args below meth c C H locs cells slots ls Z hS hl' hc1 hc2 kk
  obtain ⟨hx, hb, hr, hml, hown, hts, hlk, hin, hK, hfr, hlo⟩ := C
  have hc := mcat hlo hW
  exact va_mmax hx hb (by rw [hml]; exact hl'.1.symm) hown (hts _ hm) (hts _ stJ9_max_7cf53) (hts _ math_ini) (hts _ cdJ9_max_7cf53) (by omega) (by omega) hc1 hc2 hd kk
theorem ev_minI {idx : Nat} {x y : Int32} (hd : decode M.2.1 pc = .ok (.invokestatic idx, 3)) (hm : MLp M.1.cls idx mJ9_min_7cf53.1) (hW : catS X S ≤ 8) (k : Ev X M (d + 1) (pc + 3) L (iV (if y < x then y else x) :: S) G Q) : Ev X M (d + 1) pc L (iV y :: iV x :: S) G Q := by
  refine Ev.psr ?_ k
  intro p e R s m args below meth c C H locs cells slots ls Z hS hl' hc1 hc2 kk
  obtain ⟨hx, hb, hr, hml, hown, hts, hlk, hin, hK, hfr, hlo⟩ := C
  have hc := mcat hlo hW
  exact va_mmin hx hb (by rw [hml]; exact hl'.1.symm) hown (hts _ hm) (hts _ stJ9_min_7cf53) (hts _ math_ini) (hts _ cdJ9_min_7cf53) (by omega) (by omega) hc1 hc2 hd kk
theorem ev_maxL {idx : Nat} {x y : Int64} (hd : decode M.2.1 pc = .ok (.invokestatic idx, 3)) (hm : MLp M.1.cls idx mJ9_max_f86c9.1) (hW : catS X S ≤ 8) (k : Ev X M (d + 1) (pc + 3) L (lV (if y < x then x else y) :: S) G Q) : Ev X M (d + 1) pc L (lV y :: lV x :: S) G Q := by
  refine Ev.psr ?_ k
  intro p e R s m args below meth c C H locs cells slots ls Z hS hl' hc1 hc2 kk
  obtain ⟨hx, hb, hr, hml, hown, hts, hlk, hin, hK, hfr, hlo⟩ := C
  have hc := mcat hlo hW
  exact va_mmax_long hx hb (by rw [hml]; exact hl'.1.symm) hown (hts _ hm) (hts _ stJ9_max_f86c9) (hts _ math_ini) (hts _ cdJ9_max_f86c9) (by omega) (by omega) hc1 hc2 hd kk
theorem ev_minL {idx : Nat} {x y : Int64} (hd : decode M.2.1 pc = .ok (.invokestatic idx, 3)) (hm : MLp M.1.cls idx mJ9_min_f86c9.1) (hW : catS X S ≤ 8) (k : Ev X M (d + 1) (pc + 3) L (lV (if y < x then y else x) :: S) G Q) : Ev X M (d + 1) pc L (lV y :: lV x :: S) G Q := by
  refine Ev.psr ?_ k
  intro p e R s m args below meth c C H locs cells slots ls Z hS hl' hc1 hc2 kk
  obtain ⟨hx, hb, hr, hml, hown, hts, hlk, hin, hK, hfr, hlo⟩ := C
  have hc := mcat hlo hW
  exact va_mmin_long hx hb (by rw [hml]; exact hl'.1.symm) hown (hts _ hm) (hts _ stJ9_min_f86c9) (hts _ math_ini) (hts _ cdJ9_min_f86c9) (by omega) (by omega) hc1 hc2 hd kk
end MATH
end
section
section NAT
variable {X : CX} {M : MD} {d pc : Nat} {L : List (Option LV)} {S : List LV} {G : GH} {Q : Option LV → GH → Prop} {a b : Nat}
theorem ev_iconstN {n : Int} (v : Nat) (hd : decode M.2.1 pc = .ok (.iconst n, 1)) (hv : Int32.ofInt n = nI v) (k : Ev X M d (pc + 1) L (iV (nI v) :: S) G Q) : Ev X M d pc L S G Q := ev_iconst _ hd hv k
theorem ev_bipushN {n : Int} (v : Nat) (hd : decode M.2.1 pc = .ok (.bipush n, 2)) (hv : (Int8.ofInt n).toInt32 = nI v) (k : Ev X M d (pc + 2) L (iV (nI v) :: S) G Q) : Ev X M d pc L S G Q := ev_bipush _ hd hv k
theorem ev_sipushN {n : Int} (v : Nat) (hd : decode M.2.1 pc = .ok (.sipush n, 3)) (hv : (Int16.ofInt n).toInt32 = nI v) (k : Ev X M d (pc + 3) L (iV (nI v) :: S) G Q) : Ev X M d pc L S G Q := ev_sipush _ hd hv k
theorem ev_iaddN (hd : decode M.2.1 pc = .ok (.iadd, 1)) (k : Ev X M d (pc + 1) L (iV (nI (a + b)) :: S) G Q) : Ev X M d pc L (iV (nI b) :: iV (nI a) :: S) G Q := ev_iadd hd (by rw [nI_add]; exact k)
theorem ev_isubN (hd : decode M.2.1 pc = .ok (.isub, 1)) (h : b ≤ a) (k : Ev X M d (pc + 1) L (iV (nI (a - b)) :: S) G Q) : Ev X M d pc L (iV (nI b) :: iV (nI a) :: S) G Q := ev_isub hd (by rw [pk_sub h]; exact k)
theorem ev_imulN (hd : decode M.2.1 pc = .ok (.imul, 1)) (k : Ev X M d (pc + 1) L (iV (nI (a * b)) :: S) G Q) : Ev X M d pc L (iV (nI b) :: iV (nI a) :: S) G Q := ev_imul hd (by rw [pk_mul]; exact k)
theorem ev_idivN (hd : decode M.2.1 pc = .ok (.idiv, 1)) (ha : a < 2147483648) (hb : b < 2147483648) (h0 : 0 < b) (k : Ev X M d (pc + 1) L (iV (nI (a / b)) :: S) G Q) : Ev X M d pc L (iV (nI b) :: iV (nI a) :: S) G Q := ev_idiv hd (nI_ne0 h0 hb) (by rw [pk_div ha h0 hb]; exact k)
theorem ev_iremN (hd : decode M.2.1 pc = .ok (.irem, 1)) (ha : a < 2147483648) (hb : b < 2147483648) (h0 : 0 < b) (k : Ev X M d (pc + 1) L (iV (nI (a % b)) :: S) G Q) : Ev X M d pc L (iV (nI b) :: iV (nI a) :: S) G Q := ev_irem hd (nI_ne0 h0 hb) (by rw [pk_rem ha h0 hb]; exact k)
theorem ev_icmp_eqN {o : Int} (t : Nat) (hd : decode M.2.1 pc = .ok (.if_icmp .eq o, 3)) (ht : (pc : Int) + o = (t : Int)) (ha : a < 2147483648) (hb : b < 2147483648) (kt : a = b → Ev X M d t L S G Q) (kf : ¬ a = b → Ev X M d (pc + 3) L S G Q) : Ev X M d pc L (iV (nI b) :: iV (nI a) :: S) G Q := ev_icmp_eq t hd ht (fun h => kt ((nI_eq ha hb).mp h)) (fun h => kf (fun z => h ((nI_eq ha hb).mpr z)))
theorem ev_icmp_neN {o : Int} (t : Nat) (hd : decode M.2.1 pc = .ok (.if_icmp .ne o, 3)) (ht : (pc : Int) + o = (t : Int)) (ha : a < 2147483648) (hb : b < 2147483648) (kt : ¬ a = b → Ev X M d t L S G Q) (kf : a = b → Ev X M d (pc + 3) L S G Q) : Ev X M d pc L (iV (nI b) :: iV (nI a) :: S) G Q := ev_icmp_ne t hd ht (fun h => kt (fun z => h ((nI_eq ha hb).mpr z))) (fun h => kf ((nI_eq ha hb).mp h))
theorem ev_icmp_ltN {o : Int} (t : Nat) (hd : decode M.2.1 pc = .ok (.if_icmp .lt o, 3)) (ht : (pc : Int) + o = (t : Int)) (ha : a < 2147483648) (hb : b < 2147483648) (kt : a < b → Ev X M d t L S G Q) (kf : b ≤ a → Ev X M d (pc + 3) L S G Q) : Ev X M d pc L (iV (nI b) :: iV (nI a) :: S) G Q := ev_icmp_lt t hd ht (fun h => kt ((nI_ltI ha hb).mp h)) (fun h => kf (Nat.not_lt.mp (fun z => h ((nI_ltI ha hb).mpr z))))
theorem ev_icmp_geN {o : Int} (t : Nat) (hd : decode M.2.1 pc = .ok (.if_icmp .ge o, 3)) (ht : (pc : Int) + o = (t : Int)) (ha : a < 2147483648) (hb : b < 2147483648) (kt : b ≤ a → Ev X M d t L S G Q) (kf : a < b → Ev X M d (pc + 3) L S G Q) : Ev X M d pc L (iV (nI b) :: iV (nI a) :: S) G Q := ev_icmp_ge t hd ht (fun h => kt ((nI_leI hb ha).mp h)) (fun h => kf (Nat.not_le.mp (fun z => h ((nI_leI hb ha).mpr z))))
theorem ev_icmp_gtN {o : Int} (t : Nat) (hd : decode M.2.1 pc = .ok (.if_icmp .gt o, 3)) (ht : (pc : Int) + o = (t : Int)) (ha : a < 2147483648) (hb : b < 2147483648) (kt : b < a → Ev X M d t L S G Q) (kf : a ≤ b → Ev X M d (pc + 3) L S G Q) : Ev X M d pc L (iV (nI b) :: iV (nI a) :: S) G Q := ev_icmp_gt t hd ht (fun h => kt ((nI_ltI hb ha).mp h)) (fun h => kf (Nat.not_lt.mp (fun z => h ((nI_ltI hb ha).mpr z))))
theorem ev_icmp_leN {o : Int} (t : Nat) (hd : decode M.2.1 pc = .ok (.if_icmp .le o, 3)) (ht : (pc : Int) + o = (t : Int)) (ha : a < 2147483648) (hb : b < 2147483648) (kt : a ≤ b → Ev X M d t L S G Q) (kf : b < a → Ev X M d (pc + 3) L S G Q) : Ev X M d pc L (iV (nI b) :: iV (nI a) :: S) G Q := ev_icmp_le t hd ht (fun h => kt ((nI_leI ha hb).mp h)) (fun h => kf (Nat.not_le.mp (fun z => h ((nI_leI ha hb).mpr z))))
theorem ev_if_eqN {o : Int} (t : Nat) (hd : decode M.2.1 pc = .ok (.ifCond .eq o, 3)) (ht : (pc : Int) + o = (t : Int)) (ha : a < 2147483648) (kt : a = 0 → Ev X M d t L S G Q) (kf : 0 < a → Ev X M d (pc + 3) L S G Q) : Ev X M d pc L (iV (nI a) :: S) G Q := ev_if_eq t hd ht (fun h => kt ((nI_eq (b := 0) ha (by decide)).mp h)) (fun h => kf (Nat.pos_of_ne_zero (fun z => h ((nI_eq (b := 0) ha (by decide)).mpr z))))
theorem ev_if_neN {o : Int} (t : Nat) (hd : decode M.2.1 pc = .ok (.ifCond .ne o, 3)) (ht : (pc : Int) + o = (t : Int)) (ha : a < 2147483648) (kt : 0 < a → Ev X M d t L S G Q) (kf : a = 0 → Ev X M d (pc + 3) L S G Q) : Ev X M d pc L (iV (nI a) :: S) G Q := ev_if_ne t hd ht (fun h => kt (Nat.pos_of_ne_zero (fun z => h ((nI_eq (b := 0) ha (by decide)).mpr z)))) (fun h => kf ((nI_eq (b := 0) ha (by decide)).mp h))
theorem ev_if_ltN {o : Int} (t : Nat) (hd : decode M.2.1 pc = .ok (.ifCond .lt o, 3)) (ht : (pc : Int) + o = (t : Int)) (ha : a < 2147483648) (k : Ev X M d (pc + 3) L S G Q) : Ev X M d pc L (iV (nI a) :: S) G Q := ev_if_lt t hd ht (fun h => absurd h (nI_pos ha)) (fun _ => k)
theorem ev_if_geN {o : Int} (t : Nat) (hd : decode M.2.1 pc = .ok (.ifCond .ge o, 3)) (ht : (pc : Int) + o = (t : Int)) (ha : a < 2147483648) (k : Ev X M d t L S G Q) : Ev X M d pc L (iV (nI a) :: S) G Q := ev_if_ge t hd ht (fun _ => k) (fun h => absurd (nI_pos' ha) h)
theorem ev_if_gtN {o : Int} (t : Nat) (hd : decode M.2.1 pc = .ok (.ifCond .gt o, 3)) (ht : (pc : Int) + o = (t : Int)) (ha : a < 2147483648) (kt : 0 < a → Ev X M d t L S G Q) (kf : a = 0 → Ev X M d (pc + 3) L S G Q) : Ev X M d pc L (iV (nI a) :: S) G Q := ev_if_gt t hd ht (fun h => kt ((nI_ltI (a := 0) (by decide) ha).mp h)) (fun h => kf (Nat.eq_zero_of_not_pos (fun z => h ((nI_ltI (a := 0) (by decide) ha).mpr z))))
theorem ev_if_leN {o : Int} (t : Nat) (hd : decode M.2.1 pc = .ok (.ifCond .le o, 3)) (ht : (pc : Int) + o = (t : Int)) (ha : a < 2147483648) (kt : a = 0 → Ev X M d t L S G Q) (kf : 0 < a → Ev X M d (pc + 3) L S G Q) : Ev X M d pc L (iV (nI a) :: S) G Q := ev_if_le t hd ht (fun h => kt (Nat.eq_zero_of_not_pos (fun z => nI_nle z ha h))) (fun h => kf (Nat.pos_of_ne_zero (fun z => h (by rw [z]; exact nI_leI (a := 0) (b := 0) (by decide) (by decide) |>.mpr (Nat.le_refl 0)))))
theorem ev_iincN {j : Nat} {n : Int} (L' : List (Option LV)) (hd : decode M.2.1 pc = .ok (.iinc j n, 3)) (hx : L[j]? = some (some (iV (nI a)))) (hv : Int32.ofInt n = nI b) (hn : j < M.2.2.1) (hL : stL L j (iV (nI (a + b))) = L') (k : Ev X M d (pc + 3) L' S G Q) : Ev X M d pc L S G Q := ev_iinc (nI (a + b)) L' hd hx (by rw [hv, nI_add]) hn hL k
theorem ev_iincM {j : Nat} {n : Int} (L' : List (Option LV)) (hd : decode M.2.1 pc = .ok (.iinc j n, 3)) (hx : L[j]? = some (some (iV (nI (a + 1))))) (hv : Int32.ofInt n = -1) (hn : j < M.2.2.1) (hL : stL L j (iV (nI a)) = L') (k : Ev X M d (pc + 3) L' S G Q) : Ev X M d pc L S G Q := ev_iinc (nI a) L' hd hx (by rw [hv, pk_m1]) hn hL k
end NAT
section GETV
variable {X : CX} {M : MD} {d pc : Nat} {L : List (Option LV)} {S : List LV} {Q : Option LV → GH → Prop} {K : Nat → Nat} {I : Nat → Nat → Int32} {J : Nat → Nat → Int64} {R : Nat → Nat → Option Nat} {A : Nat → Nat → Int32} {B : Nat → Nat → Option Nat} {Ln : Nat → Nat} {n sl : Nat}
theorem ev_getIv {i f idx : Nat} {v : Int32} (hd : decode M.2.1 pc = .ok (.getfield idx, 3)) (hf : FLi M.1.cls idx f) (hk : K i = f / 64) (hv : I f i = v) (k : Ev X M d (pc + 3) L (iV v :: S) (K, I, J, R, A, B, Ln, n, sl) Q) : Ev X M d pc L (rV (some i) :: S) (K, I, J, R, A, B, Ln, n, sl) Q := by
  subst hv
  exact ev_getI hd hf hk k
theorem ev_getJv {i f idx : Nat} {v : Int64} (hd : decode M.2.1 pc = .ok (.getfield idx, 3)) (hf : FLj M.1.cls idx f) (hk : K i = f / 64) (hv : J f i = v) (k : Ev X M d (pc + 3) L (lV v :: S) (K, I, J, R, A, B, Ln, n, sl) Q) : Ev X M d pc L (rV (some i) :: S) (K, I, J, R, A, B, Ln, n, sl) Q := by
  subst hv
  exact ev_getJ hd hf hk k
theorem ev_ialdv {i j m : Nat} {v : Int32} (hd : decode M.2.1 pc = .ok (.iaload, 1)) (hk : K i = 100) (hm : Ln i = m) (hb : m < 2147483648) (hj : j < m) (hv : A i j = v) (k : Ev X M d (pc + 1) L (iV v :: S) (K, I, J, R, A, B, Ln, n, sl) Q) : Ev X M d pc L (iV (nI j) :: rV (some i) :: S) (K, I, J, R, A, B, Ln, n, sl) Q := by
  subst hv
  exact ev_iald hd hk hm hb hj k
theorem ev_zaldv {i j m : Nat} {v : Int32} (hd : decode M.2.1 pc = .ok (.baload, 1)) (hk : K i = 101) (hm : Ln i = m) (hb : m < 2147483648) (hj : j < m) (hv : A i j = v) (k : Ev X M d (pc + 1) L (iV v :: S) (K, I, J, R, A, B, Ln, n, sl) Q) : Ev X M d pc L (iV (nI j) :: rV (some i) :: S) (K, I, J, R, A, B, Ln, n, sl) Q := by
  subst hv
  exact ev_zald hd hk hm hb hj k
end GETV
end
section
theorem dX9_init_0 : decode cX9_init 0 = .ok (.aload_n 0, 1) := by decide +kernel
theorem dX9_init_1 : decode cX9_init 1 = .ok (.invokespecial 1, 3) := by decide +kernel
theorem dX9_init_4 : decode cX9_init 4 = .ok (.aload_n 0, 1) := by decide +kernel
theorem dX9_init_5 : decode cX9_init 5 = .ok (.bipush 11, 2) := by decide +kernel
theorem dX9_init_7 : decode cX9_init 7 = .ok (.newarray .int, 2) := by decide +kernel
theorem dX9_init_9 : decode cX9_init 9 = .ok (.putfield 7, 3) := by decide +kernel
theorem dX9_init_12 : decode cX9_init 12 = .ok (.aload_n 0, 1) := by decide +kernel
theorem dX9_init_13 : decode cX9_init 13 = .ok (.sipush 165, 3) := by decide +kernel
theorem dX9_init_16 : decode cX9_init 16 = .ok (.newarray .int, 2) := by decide +kernel
theorem dX9_init_18 : decode cX9_init 18 = .ok (.putfield 13, 3) := by decide +kernel
theorem dX9_init_21 : decode cX9_init 21 = .ok (.aload_n 0, 1) := by decide +kernel
theorem dX9_init_22 : decode cX9_init 22 = .ok (.sipush 165, 3) := by decide +kernel
theorem dX9_init_25 : decode cX9_init 25 = .ok (.newarray .int, 2) := by decide +kernel
theorem dX9_init_27 : decode cX9_init 27 = .ok (.putfield 16, 3) := by decide +kernel
theorem dX9_init_30 : decode cX9_init 30 = .ok (.aload_n 0, 1) := by decide +kernel
theorem dX9_init_31 : decode cX9_init 31 = .ok (.bipush 11, 2) := by decide +kernel
theorem dX9_init_33 : decode cX9_init 33 = .ok (.newarray .boolean, 2) := by decide +kernel
theorem dX9_init_35 : decode cX9_init 35 = .ok (.putfield 19, 3) := by decide +kernel
theorem dX9_init_38 : decode cX9_init 38 = .ok (.aload_n 0, 1) := by decide +kernel
theorem dX9_init_39 : decode cX9_init 39 = .ok (.sipush 520, 3) := by decide +kernel
theorem dX9_init_42 : decode cX9_init 42 = .ok (.newarray .int, 2) := by decide +kernel
theorem dX9_init_44 : decode cX9_init 44 = .ok (.putfield 23, 3) := by decide +kernel
theorem dX9_init_47 : decode cX9_init 47 = .ok (.aload_n 0, 1) := by decide +kernel
theorem dX9_init_48 : decode cX9_init 48 = .ok (.sipush 520, 3) := by decide +kernel
theorem dX9_init_51 : decode cX9_init 51 = .ok (.newarray .int, 2) := by decide +kernel
theorem dX9_init_53 : decode cX9_init 53 = .ok (.putfield 26, 3) := by decide +kernel
theorem dX9_init_56 : decode cX9_init 56 = .ok (.aload_n 0, 1) := by decide +kernel
theorem dX9_init_57 : decode cX9_init 57 = .ok (.sipush 520, 3) := by decide +kernel
theorem dX9_init_60 : decode cX9_init 60 = .ok (.newarray .int, 2) := by decide +kernel
theorem dX9_init_62 : decode cX9_init 62 = .ok (.putfield 29, 3) := by decide +kernel
theorem dX9_init_65 : decode cX9_init 65 = .ok (.aload_n 0, 1) := by decide +kernel
theorem dX9_init_66 : decode cX9_init 66 = .ok (.sipush 520, 3) := by decide +kernel
theorem dX9_init_69 : decode cX9_init 69 = .ok (.newarray .int, 2) := by decide +kernel
theorem dX9_init_71 : decode cX9_init 71 = .ok (.putfield 32, 3) := by decide +kernel
theorem dX9_init_74 : decode cX9_init 74 = .ok (.aload_n 0, 1) := by decide +kernel
theorem dX9_init_75 : decode cX9_init 75 = .ok (.sipush 520, 3) := by decide +kernel
theorem dX9_init_78 : decode cX9_init 78 = .ok (.newarray .boolean, 2) := by decide +kernel
theorem dX9_init_80 : decode cX9_init 80 = .ok (.putfield 35, 3) := by decide +kernel
theorem dX9_init_83 : decode cX9_init 83 = .ok (.aload_n 0, 1) := by decide +kernel
theorem dX9_init_84 : decode cX9_init 84 = .ok (.sipush 1560, 3) := by decide +kernel
theorem dX9_init_87 : decode cX9_init 87 = .ok (.newarray .int, 2) := by decide +kernel
theorem dX9_init_89 : decode cX9_init 89 = .ok (.putfield 38, 3) := by decide +kernel
theorem dX9_init_92 : decode cX9_init 92 = .ok (.aload_n 0, 1) := by decide +kernel
theorem dX9_init_93 : decode cX9_init 93 = .ok (.sipush 520, 3) := by decide +kernel
theorem dX9_init_96 : decode cX9_init 96 = .ok (.newarray .int, 2) := by decide +kernel
theorem dX9_init_98 : decode cX9_init 98 = .ok (.putfield 41, 3) := by decide +kernel
theorem dX9_init_101 : decode cX9_init 101 = .ok (.aload_n 0, 1) := by decide +kernel
theorem dX9_init_102 : decode cX9_init 102 = .ok (.sipush 520, 3) := by decide +kernel
theorem dX9_init_105 : decode cX9_init 105 = .ok (.newarray .int, 2) := by decide +kernel
theorem dX9_init_107 : decode cX9_init 107 = .ok (.putfield 44, 3) := by decide +kernel
theorem dX9_init_110 : decode cX9_init 110 = .ok (.aload_n 0, 1) := by decide +kernel
theorem dX9_init_111 : decode cX9_init 111 = .ok (.sipush 520, 3) := by decide +kernel
theorem dX9_init_114 : decode cX9_init 114 = .ok (.newarray .int, 2) := by decide +kernel
theorem dX9_init_116 : decode cX9_init 116 = .ok (.putfield 47, 3) := by decide +kernel
theorem dX9_init_119 : decode cX9_init 119 = .ok (.aload_n 0, 1) := by decide +kernel
theorem dX9_init_120 : decode cX9_init 120 = .ok (.bipush 60, 2) := by decide +kernel
theorem dX9_init_122 : decode cX9_init 122 = .ok (.newarray .int, 2) := by decide +kernel
theorem dX9_init_124 : decode cX9_init 124 = .ok (.putfield 50, 3) := by decide +kernel
theorem dX9_init_127 : decode cX9_init 127 = .ok (.aload_n 0, 1) := by decide +kernel
theorem dX9_init_128 : decode cX9_init 128 = .ok (.bipush 60, 2) := by decide +kernel
theorem dX9_init_130 : decode cX9_init 130 = .ok (.newarray .int, 2) := by decide +kernel
theorem dX9_init_132 : decode cX9_init 132 = .ok (.putfield 53, 3) := by decide +kernel
theorem dX9_init_135 : decode cX9_init 135 = .ok (.aload_n 0, 1) := by decide +kernel
theorem dX9_init_136 : decode cX9_init 136 = .ok (.sipush 1920, 3) := by decide +kernel
theorem dX9_init_139 : decode cX9_init 139 = .ok (.newarray .int, 2) := by decide +kernel
theorem dX9_init_141 : decode cX9_init 141 = .ok (.putfield 56, 3) := by decide +kernel
theorem dX9_init_144 : decode cX9_init 144 = .ok (.aload_n 0, 1) := by decide +kernel
theorem dX9_init_145 : decode cX9_init 145 = .ok (.sipush 5760, 3) := by decide +kernel
theorem dX9_init_148 : decode cX9_init 148 = .ok (.newarray .int, 2) := by decide +kernel
theorem dX9_init_150 : decode cX9_init 150 = .ok (.putfield 59, 3) := by decide +kernel
theorem dX9_init_153 : decode cX9_init 153 = .ok (.aload_n 0, 1) := by decide +kernel
theorem dX9_init_154 : decode cX9_init 154 = .ok (.iconst 3, 1) := by decide +kernel
theorem dX9_init_155 : decode cX9_init 155 = .ok (.newarray .int, 2) := by decide +kernel
theorem dX9_init_157 : decode cX9_init 157 = .ok (.putfield 62, 3) := by decide +kernel
theorem dX9_init_160 : decode cX9_init 160 = .ok (.aload_n 0, 1) := by decide +kernel
theorem dX9_init_161 : decode cX9_init 161 = .ok (.bipush 16, 2) := by decide +kernel
theorem dX9_init_163 : decode cX9_init 163 = .ok (.newarray .int, 2) := by decide +kernel
theorem dX9_init_165 : decode cX9_init 165 = .ok (.putfield 65, 3) := by decide +kernel
theorem dX9_init_168 : decode cX9_init 168 = .ok (.aload_n 0, 1) := by decide +kernel
theorem dX9_init_169 : decode cX9_init 169 = .ok (.bipush 32, 2) := by decide +kernel
theorem dX9_init_171 : decode cX9_init 171 = .ok (.newarray .int, 2) := by decide +kernel
theorem dX9_init_173 : decode cX9_init 173 = .ok (.putfield 68, 3) := by decide +kernel
theorem dX9_init_176 : decode cX9_init 176 = .ok (.aload_n 0, 1) := by decide +kernel
theorem dX9_init_177 : decode cX9_init 177 = .ok (.iconst (-1), 1) := by decide +kernel
theorem dX9_init_178 : decode cX9_init 178 = .ok (.putfield 71, 3) := by decide +kernel
theorem dX9_init_181 : decode cX9_init 181 = .ok (.aload_n 0, 1) := by decide +kernel
theorem dX9_init_182 : decode cX9_init 182 = .ok (.sipush 520, 3) := by decide +kernel
theorem dX9_init_185 : decode cX9_init 185 = .ok (.newarray .int, 2) := by decide +kernel
theorem dX9_init_187 : decode cX9_init 187 = .ok (.putfield 75, 3) := by decide +kernel
theorem dX9_init_190 : decode cX9_init 190 = .ok (.aload_n 0, 1) := by decide +kernel
theorem dX9_init_191 : decode cX9_init 191 = .ok (.sipush 520, 3) := by decide +kernel
theorem dX9_init_194 : decode cX9_init 194 = .ok (.newarray .boolean, 2) := by decide +kernel
theorem dX9_init_196 : decode cX9_init 196 = .ok (.putfield 78, 3) := by decide +kernel
theorem dX9_init_199 : decode cX9_init 199 = .ok (.return_, 1) := by decide +kernel
theorem dX9_isKey_0 : decode cX9_isKey 0 = .ok (.iload_n 0, 1) := by decide +kernel
theorem dX9_isKey_1 : decode cX9_isKey 1 = .ok (.ifCond .lt 13, 3) := by decide +kernel
theorem dX9_isKey_4 : decode cX9_isKey 4 = .ok (.iload_n 0, 1) := by decide +kernel
theorem dX9_isKey_5 : decode cX9_isKey 5 = .ok (.bipush 31, 2) := by decide +kernel
theorem dX9_isKey_7 : decode cX9_isKey 7 = .ok (.if_icmp .gt 7, 3) := by decide +kernel
theorem dX9_isKey_10 : decode cX9_isKey 10 = .ok (.iconst 1, 1) := by decide +kernel
theorem dX9_isKey_11 : decode cX9_isKey 11 = .ok (.goto 4, 3) := by decide +kernel
theorem dX9_isKey_14 : decode cX9_isKey 14 = .ok (.iconst 0, 1) := by decide +kernel
theorem dX9_isKey_15 : decode cX9_isKey 15 = .ok (.ireturn, 1) := by decide +kernel
theorem dX9_isName_0 : decode cX9_isName 0 = .ok (.iload_n 0, 1) := by decide +kernel
theorem dX9_isName_1 : decode cX9_isName 1 = .ok (.sipush 729, 3) := by decide +kernel
theorem dX9_isName_4 : decode cX9_isName 4 = .ok (.idiv, 1) := by decide +kernel
theorem dX9_isName_5 : decode cX9_isName 5 = .ok (.istore_n 1, 1) := by decide +kernel
theorem dX9_isName_6 : decode cX9_isName 6 = .ok (.iload_n 0, 1) := by decide +kernel
theorem dX9_isName_7 : decode cX9_isName 7 = .ok (.bipush 27, 2) := by decide +kernel
theorem dX9_isName_9 : decode cX9_isName 9 = .ok (.idiv, 1) := by decide +kernel
theorem dX9_isName_10 : decode cX9_isName 10 = .ok (.bipush 27, 2) := by decide +kernel
theorem dX9_isName_12 : decode cX9_isName 12 = .ok (.irem, 1) := by decide +kernel
theorem dX9_isName_13 : decode cX9_isName 13 = .ok (.istore_n 2, 1) := by decide +kernel
theorem dX9_isName_14 : decode cX9_isName 14 = .ok (.iload_n 0, 1) := by decide +kernel
theorem dX9_isName_15 : decode cX9_isName 15 = .ok (.bipush 27, 2) := by decide +kernel
theorem dX9_isName_17 : decode cX9_isName 17 = .ok (.irem, 1) := by decide +kernel
theorem dX9_isName_18 : decode cX9_isName 18 = .ok (.istore_n 3, 1) := by decide +kernel
theorem dX9_isName_19 : decode cX9_isName 19 = .ok (.iload_n 0, 1) := by decide +kernel
theorem dX9_isName_20 : decode cX9_isName 20 = .ok (.ifCond .lt 34, 3) := by decide +kernel
theorem dX9_isName_23 : decode cX9_isName 23 = .ok (.iload_n 0, 1) := by decide +kernel
theorem dX9_isName_24 : decode cX9_isName 24 = .ok (.sipush 19682, 3) := by decide +kernel
theorem dX9_isName_27 : decode cX9_isName 27 = .ok (.if_icmp .gt 27, 3) := by decide +kernel
theorem dX9_isName_30 : decode cX9_isName 30 = .ok (.iload_n 1, 1) := by decide +kernel
theorem dX9_isName_31 : decode cX9_isName 31 = .ok (.ifCond .gt 11, 3) := by decide +kernel
theorem dX9_isName_34 : decode cX9_isName 34 = .ok (.iload_n 2, 1) := by decide +kernel
theorem dX9_isName_35 : decode cX9_isName 35 = .ok (.ifCond .ne 19, 3) := by decide +kernel
theorem dX9_isName_38 : decode cX9_isName 38 = .ok (.iload_n 3, 1) := by decide +kernel
theorem dX9_isName_39 : decode cX9_isName 39 = .ok (.ifCond .ne 15, 3) := by decide +kernel
theorem dX9_isName_42 : decode cX9_isName 42 = .ok (.iload_n 2, 1) := by decide +kernel
theorem dX9_isName_43 : decode cX9_isName 43 = .ok (.ifCond .gt 7, 3) := by decide +kernel
theorem dX9_isName_46 : decode cX9_isName 46 = .ok (.iload_n 3, 1) := by decide +kernel
theorem dX9_isName_47 : decode cX9_isName 47 = .ok (.ifCond .ne 7, 3) := by decide +kernel
theorem dX9_isName_50 : decode cX9_isName 50 = .ok (.iconst 1, 1) := by decide +kernel
theorem dX9_isName_51 : decode cX9_isName 51 = .ok (.goto 4, 3) := by decide +kernel
theorem dX9_isName_54 : decode cX9_isName 54 = .ok (.iconst 0, 1) := by decide +kernel
theorem dX9_isName_55 : decode cX9_isName 55 = .ok (.ireturn, 1) := by decide +kernel
theorem dX9_needs_0 : decode cX9_needs 0 = .ok (.iload_n 0, 1) := by decide +kernel
theorem dX9_needs_1 : decode cX9_needs 1 = .ok (.iconst 4, 1) := by decide +kernel
theorem dX9_needs_2 : decode cX9_needs 2 = .ok (.if_icmp .lt 9, 3) := by decide +kernel
theorem dX9_needs_5 : decode cX9_needs 5 = .ok (.iload_n 0, 1) := by decide +kernel
theorem dX9_needs_6 : decode cX9_needs 6 = .ok (.bipush 12, 2) := by decide +kernel
theorem dX9_needs_8 : decode cX9_needs 8 = .ok (.if_icmp .ne 7, 3) := by decide +kernel
theorem dX9_needs_11 : decode cX9_needs 11 = .ok (.iconst 0, 1) := by decide +kernel
theorem dX9_needs_12 : decode cX9_needs 12 = .ok (.goto 14, 3) := by decide +kernel
theorem dX9_needs_15 : decode cX9_needs 15 = .ok (.iload_n 0, 1) := by decide +kernel
theorem dX9_needs_16 : decode cX9_needs 16 = .ok (.bipush 11, 2) := by decide +kernel
theorem dX9_needs_18 : decode cX9_needs 18 = .ok (.if_icmp .ne 7, 3) := by decide +kernel
theorem dX9_needs_21 : decode cX9_needs 21 = .ok (.iconst 1, 1) := by decide +kernel
theorem dX9_needs_22 : decode cX9_needs 22 = .ok (.goto 4, 3) := by decide +kernel
theorem dX9_needs_25 : decode cX9_needs 25 = .ok (.iconst 2, 1) := by decide +kernel
theorem dX9_needs_26 : decode cX9_needs 26 = .ok (.ireturn, 1) := by decide +kernel
theorem dX9_say_0 : decode cX9_say 0 = .ok (.iload_n 1, 1) := by decide +kernel
theorem dX9_say_1 : decode cX9_say 1 = .ok (.ifCond .lt 33, 3) := by decide +kernel
theorem dX9_say_4 : decode cX9_say 4 = .ok (.iload_n 1, 1) := by decide +kernel
theorem dX9_say_5 : decode cX9_say 5 = .ok (.bipush 12, 2) := by decide +kernel
theorem dX9_say_7 : decode cX9_say 7 = .ok (.if_icmp .gt 27, 3) := by decide +kernel
theorem dX9_say_10 : decode cX9_say 10 = .ok (.iload_n 1, 1) := by decide +kernel
theorem dX9_say_11 : decode cX9_say 11 = .ok (.bipush 12, 2) := by decide +kernel
theorem dX9_say_13 : decode cX9_say 13 = .ok (.if_icmp .ne 10, 3) := by decide +kernel
theorem dX9_say_16 : decode cX9_say 16 = .ok (.iload_n 2, 1) := by decide +kernel
theorem dX9_say_17 : decode cX9_say 17 = .ok (.invokestatic 81, 3) := by decide +kernel
theorem dX9_say_20 : decode cX9_say 20 = .ok (.ifCond .eq 14, 3) := by decide +kernel
theorem dX9_say_23 : decode cX9_say 23 = .ok (.aload_n 0, 1) := by decide +kernel
theorem dX9_say_24 : decode cX9_say 24 = .ok (.getfield 85, 3) := by decide +kernel
theorem dX9_say_27 : decode cX9_say 27 = .ok (.iload_n 1, 1) := by decide +kernel
theorem dX9_say_28 : decode cX9_say 28 = .ok (.invokestatic 88, 3) := by decide +kernel
theorem dX9_say_31 : decode cX9_say 31 = .ok (.if_icmp .ge 5, 3) := by decide +kernel
theorem dX9_say_34 : decode cX9_say 34 = .ok (.iconst 0, 1) := by decide +kernel
theorem dX9_say_35 : decode cX9_say 35 = .ok (.ireturn, 1) := by decide +kernel
theorem dX9_say_36 : decode cX9_say 36 = .ok (.iload_n 1, 1) := by decide +kernel
theorem dX9_say_37 : decode cX9_say 37 = .ok (.bipush 9, 2) := by decide +kernel
theorem dX9_say_39 : decode cX9_say 39 = .ok (.if_icmp .lt 13, 3) := by decide +kernel
theorem dX9_say_42 : decode cX9_say 42 = .ok (.iload_n 1, 1) := by decide +kernel
theorem dX9_say_43 : decode cX9_say 43 = .ok (.bipush 11, 2) := by decide +kernel
theorem dX9_say_45 : decode cX9_say 45 = .ok (.if_icmp .gt 7, 3) := by decide +kernel
theorem dX9_say_48 : decode cX9_say 48 = .ok (.iconst 1, 1) := by decide +kernel
theorem dX9_say_49 : decode cX9_say 49 = .ok (.goto 4, 3) := by decide +kernel
theorem dX9_say_52 : decode cX9_say 52 = .ok (.iconst 0, 1) := by decide +kernel
theorem dX9_say_53 : decode cX9_say 53 = .ok (.istore_n 3, 1) := by decide +kernel
theorem dX9_say_54 : decode cX9_say 54 = .ok (.iconst 1, 1) := by decide +kernel
theorem dX9_say_55 : decode cX9_say 55 = .ok (.istore 4, 2) := by decide +kernel
theorem dX9_say_57 : decode cX9_say 57 = .ok (.aload_n 0, 1) := by decide +kernel
theorem dX9_say_58 : decode cX9_say 58 = .ok (.getfield 85, 3) := by decide +kernel
theorem dX9_say_61 : decode cX9_say 61 = .ok (.iload_n 1, 1) := by decide +kernel
theorem dX9_say_62 : decode cX9_say 62 = .ok (.invokestatic 88, 3) := by decide +kernel
theorem dX9_say_65 : decode cX9_say 65 = .ok (.isub, 1) := by decide +kernel
theorem dX9_say_66 : decode cX9_say 66 = .ok (.istore 5, 2) := by decide +kernel
theorem dX9_say_68 : decode cX9_say 68 = .ok (.iload 5, 2) := by decide +kernel
theorem dX9_say_70 : decode cX9_say 70 = .ok (.aload_n 0, 1) := by decide +kernel
theorem dX9_say_71 : decode cX9_say 71 = .ok (.getfield 85, 3) := by decide +kernel
theorem dX9_say_74 : decode cX9_say 74 = .ok (.if_icmp .ge 34, 3) := by decide +kernel
theorem dX9_say_77 : decode cX9_say 77 = .ok (.aload_n 0, 1) := by decide +kernel
theorem dX9_say_78 : decode cX9_say 78 = .ok (.getfield 19, 3) := by decide +kernel
theorem dX9_say_81 : decode cX9_say 81 = .ok (.iload 5, 2) := by decide +kernel
theorem dX9_say_83 : decode cX9_say 83 = .ok (.baload, 1) := by decide +kernel
theorem dX9_say_84 : decode cX9_say 84 = .ok (.iload_n 3, 1) := by decide +kernel
theorem dX9_say_85 : decode cX9_say 85 = .ok (.if_icmp .eq 5, 3) := by decide +kernel
theorem dX9_say_88 : decode cX9_say 88 = .ok (.iconst 0, 1) := by decide +kernel
theorem dX9_say_89 : decode cX9_say 89 = .ok (.ireturn, 1) := by decide +kernel
theorem dX9_say_90 : decode cX9_say 90 = .ok (.iload 4, 2) := by decide +kernel
theorem dX9_say_92 : decode cX9_say 92 = .ok (.aload_n 0, 1) := by decide +kernel
theorem dX9_say_93 : decode cX9_say 93 = .ok (.getfield 7, 3) := by decide +kernel
theorem dX9_say_96 : decode cX9_say 96 = .ok (.iload 5, 2) := by decide +kernel
theorem dX9_say_98 : decode cX9_say 98 = .ok (.iaload, 1) := by decide +kernel
theorem dX9_say_99 : decode cX9_say 99 = .ok (.iadd, 1) := by decide +kernel
theorem dX9_say_100 : decode cX9_say 100 = .ok (.istore 4, 2) := by decide +kernel
theorem dX9_say_102 : decode cX9_say 102 = .ok (.iinc 5 1, 3) := by decide +kernel
theorem dX9_say_105 : decode cX9_say 105 = .ok (.goto (-37), 3) := by decide +kernel
theorem dX9_say_108 : decode cX9_say 108 = .ok (.aload_n 0, 1) := by decide +kernel
theorem dX9_say_109 : decode cX9_say 109 = .ok (.getfield 85, 3) := by decide +kernel
theorem dX9_say_112 : decode cX9_say 112 = .ok (.iload_n 1, 1) := by decide +kernel
theorem dX9_say_113 : decode cX9_say 113 = .ok (.invokestatic 88, 3) := by decide +kernel
theorem dX9_say_116 : decode cX9_say 116 = .ok (.isub, 1) := by decide +kernel
theorem dX9_say_117 : decode cX9_say 117 = .ok (.istore 5, 2) := by decide +kernel
theorem dX9_say_119 : decode cX9_say 119 = .ok (.iload 5, 2) := by decide +kernel
theorem dX9_say_121 : decode cX9_say 121 = .ok (.bipush 8, 2) := by decide +kernel
theorem dX9_say_123 : decode cX9_say 123 = .ok (.if_icmp .eq 10, 3) := by decide +kernel
theorem dX9_say_126 : decode cX9_say 126 = .ok (.iload 4, 2) := by decide +kernel
theorem dX9_say_128 : decode cX9_say 128 = .ok (.bipush 15, 2) := by decide +kernel
theorem dX9_say_130 : decode cX9_say 130 = .ok (.if_icmp .le 5, 3) := by decide +kernel
theorem dX9_say_133 : decode cX9_say 133 = .ok (.iconst 0, 1) := by decide +kernel
theorem dX9_say_134 : decode cX9_say 134 = .ok (.ireturn, 1) := by decide +kernel
theorem dX9_say_135 : decode cX9_say 135 = .ok (.iload_n 1, 1) := by decide +kernel
theorem dX9_say_136 : decode cX9_say 136 = .ok (.invokestatic 88, 3) := by decide +kernel
theorem dX9_say_139 : decode cX9_say 139 = .ok (.ifCond .ne 7, 3) := by decide +kernel
theorem dX9_say_142 : decode cX9_say 142 = .ok (.iconst 0, 1) := by decide +kernel
theorem dX9_say_143 : decode cX9_say 143 = .ok (.goto 10, 3) := by decide +kernel
theorem dX9_say_146 : decode cX9_say 146 = .ok (.aload_n 0, 1) := by decide +kernel
theorem dX9_say_147 : decode cX9_say 147 = .ok (.getfield 7, 3) := by decide +kernel
theorem dX9_say_150 : decode cX9_say 150 = .ok (.iload 5, 2) := by decide +kernel
theorem dX9_say_152 : decode cX9_say 152 = .ok (.iaload, 1) := by decide +kernel
theorem dX9_say_153 : decode cX9_say 153 = .ok (.istore 6, 2) := by decide +kernel
theorem dX9_say_155 : decode cX9_say 155 = .ok (.iconst 0, 1) := by decide +kernel
theorem dX9_say_156 : decode cX9_say 156 = .ok (.istore 7, 2) := by decide +kernel
theorem dX9_say_158 : decode cX9_say 158 = .ok (.iload_n 1, 1) := by decide +kernel
theorem dX9_say_159 : decode cX9_say 159 = .ok (.invokestatic 88, 3) := by decide +kernel
theorem dX9_say_162 : decode cX9_say 162 = .ok (.iconst 2, 1) := by decide +kernel
theorem dX9_say_163 : decode cX9_say 163 = .ok (.if_icmp .ne 85, 3) := by decide +kernel
theorem dX9_say_166 : decode cX9_say 166 = .ok (.iload 7, 2) := by decide +kernel
theorem dX9_say_168 : decode cX9_say 168 = .ok (.aload_n 0, 1) := by decide +kernel
theorem dX9_say_169 : decode cX9_say 169 = .ok (.getfield 7, 3) := by decide +kernel
theorem dX9_say_172 : decode cX9_say 172 = .ok (.iload 5, 2) := by decide +kernel
theorem dX9_say_174 : decode cX9_say 174 = .ok (.iconst 1, 1) := by decide +kernel
theorem dX9_say_175 : decode cX9_say 175 = .ok (.iadd, 1) := by decide +kernel
theorem dX9_say_176 : decode cX9_say 176 = .ok (.iaload, 1) := by decide +kernel
theorem dX9_say_177 : decode cX9_say 177 = .ok (.if_icmp .ge 71, 3) := by decide +kernel
theorem dX9_say_180 : decode cX9_say 180 = .ok (.aload_n 0, 1) := by decide +kernel
theorem dX9_say_181 : decode cX9_say 181 = .ok (.getfield 13, 3) := by decide +kernel
theorem dX9_say_184 : decode cX9_say 184 = .ok (.bipush 15, 2) := by decide +kernel
theorem dX9_say_186 : decode cX9_say 186 = .ok (.iload 5, 2) := by decide +kernel
theorem dX9_say_188 : decode cX9_say 188 = .ok (.imul, 1) := by decide +kernel
theorem dX9_say_189 : decode cX9_say 189 = .ok (.iload 6, 2) := by decide +kernel
theorem dX9_say_191 : decode cX9_say 191 = .ok (.iadd, 1) := by decide +kernel
theorem dX9_say_192 : decode cX9_say 192 = .ok (.iload 7, 2) := by decide +kernel
theorem dX9_say_194 : decode cX9_say 194 = .ok (.iadd, 1) := by decide +kernel
theorem dX9_say_195 : decode cX9_say 195 = .ok (.aload_n 0, 1) := by decide +kernel
theorem dX9_say_196 : decode cX9_say 196 = .ok (.getfield 13, 3) := by decide +kernel
theorem dX9_say_199 : decode cX9_say 199 = .ok (.bipush 15, 2) := by decide +kernel
theorem dX9_say_201 : decode cX9_say 201 = .ok (.iload 5, 2) := by decide +kernel
theorem dX9_say_203 : decode cX9_say 203 = .ok (.iconst 1, 1) := by decide +kernel
theorem dX9_say_204 : decode cX9_say 204 = .ok (.iadd, 1) := by decide +kernel
theorem dX9_say_205 : decode cX9_say 205 = .ok (.imul, 1) := by decide +kernel
theorem dX9_say_206 : decode cX9_say 206 = .ok (.iload 7, 2) := by decide +kernel
theorem dX9_say_208 : decode cX9_say 208 = .ok (.iadd, 1) := by decide +kernel
theorem dX9_say_209 : decode cX9_say 209 = .ok (.iaload, 1) := by decide +kernel
theorem dX9_say_210 : decode cX9_say 210 = .ok (.iastore, 1) := by decide +kernel
theorem dX9_say_211 : decode cX9_say 211 = .ok (.aload_n 0, 1) := by decide +kernel
theorem dX9_say_212 : decode cX9_say 212 = .ok (.getfield 16, 3) := by decide +kernel
theorem dX9_say_215 : decode cX9_say 215 = .ok (.bipush 15, 2) := by decide +kernel
theorem dX9_say_217 : decode cX9_say 217 = .ok (.iload 5, 2) := by decide +kernel
theorem dX9_say_219 : decode cX9_say 219 = .ok (.imul, 1) := by decide +kernel
theorem dX9_say_220 : decode cX9_say 220 = .ok (.iload 6, 2) := by decide +kernel
theorem dX9_say_222 : decode cX9_say 222 = .ok (.iadd, 1) := by decide +kernel
theorem dX9_say_223 : decode cX9_say 223 = .ok (.iload 7, 2) := by decide +kernel
theorem dX9_say_225 : decode cX9_say 225 = .ok (.iadd, 1) := by decide +kernel
theorem dX9_say_226 : decode cX9_say 226 = .ok (.aload_n 0, 1) := by decide +kernel
theorem dX9_say_227 : decode cX9_say 227 = .ok (.getfield 16, 3) := by decide +kernel
theorem dX9_say_230 : decode cX9_say 230 = .ok (.bipush 15, 2) := by decide +kernel
theorem dX9_say_232 : decode cX9_say 232 = .ok (.iload 5, 2) := by decide +kernel
theorem dX9_say_234 : decode cX9_say 234 = .ok (.iconst 1, 1) := by decide +kernel
theorem dX9_say_235 : decode cX9_say 235 = .ok (.iadd, 1) := by decide +kernel
theorem dX9_say_236 : decode cX9_say 236 = .ok (.imul, 1) := by decide +kernel
theorem dX9_say_237 : decode cX9_say 237 = .ok (.iload 7, 2) := by decide +kernel
theorem dX9_say_239 : decode cX9_say 239 = .ok (.iadd, 1) := by decide +kernel
theorem dX9_say_240 : decode cX9_say 240 = .ok (.iaload, 1) := by decide +kernel
theorem dX9_say_241 : decode cX9_say 241 = .ok (.iastore, 1) := by decide +kernel
theorem dX9_say_242 : decode cX9_say 242 = .ok (.iinc 7 1, 3) := by decide +kernel
theorem dX9_say_245 : decode cX9_say 245 = .ok (.goto (-87), 3) := by decide +kernel
theorem dX9_say_248 : decode cX9_say 248 = .ok (.aload_n 0, 1) := by decide +kernel
theorem dX9_say_249 : decode cX9_say 249 = .ok (.getfield 13, 3) := by decide +kernel
theorem dX9_say_252 : decode cX9_say 252 = .ok (.bipush 15, 2) := by decide +kernel
theorem dX9_say_254 : decode cX9_say 254 = .ok (.iload 5, 2) := by decide +kernel
theorem dX9_say_256 : decode cX9_say 256 = .ok (.imul, 1) := by decide +kernel
theorem dX9_say_257 : decode cX9_say 257 = .ok (.iload 4, 2) := by decide +kernel
theorem dX9_say_259 : decode cX9_say 259 = .ok (.iadd, 1) := by decide +kernel
theorem dX9_say_260 : decode cX9_say 260 = .ok (.iconst 1, 1) := by decide +kernel
theorem dX9_say_261 : decode cX9_say 261 = .ok (.isub, 1) := by decide +kernel
theorem dX9_say_262 : decode cX9_say 262 = .ok (.iload_n 1, 1) := by decide +kernel
theorem dX9_say_263 : decode cX9_say 263 = .ok (.iastore, 1) := by decide +kernel
theorem dX9_say_264 : decode cX9_say 264 = .ok (.aload_n 0, 1) := by decide +kernel
theorem dX9_say_265 : decode cX9_say 265 = .ok (.getfield 16, 3) := by decide +kernel
theorem dX9_say_268 : decode cX9_say 268 = .ok (.bipush 15, 2) := by decide +kernel
theorem dX9_say_270 : decode cX9_say 270 = .ok (.iload 5, 2) := by decide +kernel
theorem dX9_say_272 : decode cX9_say 272 = .ok (.imul, 1) := by decide +kernel
theorem dX9_say_273 : decode cX9_say 273 = .ok (.iload 4, 2) := by decide +kernel
theorem dX9_say_275 : decode cX9_say 275 = .ok (.iadd, 1) := by decide +kernel
theorem dX9_say_276 : decode cX9_say 276 = .ok (.iconst 1, 1) := by decide +kernel
theorem dX9_say_277 : decode cX9_say 277 = .ok (.isub, 1) := by decide +kernel
theorem dX9_say_278 : decode cX9_say 278 = .ok (.iload_n 1, 1) := by decide +kernel
theorem dX9_say_279 : decode cX9_say 279 = .ok (.iconst 3, 1) := by decide +kernel
theorem dX9_say_280 : decode cX9_say 280 = .ok (.if_icmp .eq 9, 3) := by decide +kernel
theorem dX9_say_283 : decode cX9_say 283 = .ok (.iload_n 1, 1) := by decide +kernel
theorem dX9_say_284 : decode cX9_say 284 = .ok (.bipush 12, 2) := by decide +kernel
theorem dX9_say_286 : decode cX9_say 286 = .ok (.if_icmp .ne 7, 3) := by decide +kernel
theorem dX9_say_289 : decode cX9_say 289 = .ok (.iload_n 2, 1) := by decide +kernel
theorem dX9_say_290 : decode cX9_say 290 = .ok (.goto 4, 3) := by decide +kernel
theorem dX9_say_293 : decode cX9_say 293 = .ok (.iconst 0, 1) := by decide +kernel
theorem dX9_say_294 : decode cX9_say 294 = .ok (.iastore, 1) := by decide +kernel
theorem dX9_say_295 : decode cX9_say 295 = .ok (.aload_n 0, 1) := by decide +kernel
theorem dX9_say_296 : decode cX9_say 296 = .ok (.getfield 7, 3) := by decide +kernel
theorem dX9_say_299 : decode cX9_say 299 = .ok (.iload 5, 2) := by decide +kernel
theorem dX9_say_301 : decode cX9_say 301 = .ok (.iload 4, 2) := by decide +kernel
theorem dX9_say_303 : decode cX9_say 303 = .ok (.iastore, 1) := by decide +kernel
theorem dX9_say_304 : decode cX9_say 304 = .ok (.aload_n 0, 1) := by decide +kernel
theorem dX9_say_305 : decode cX9_say 305 = .ok (.getfield 19, 3) := by decide +kernel
theorem dX9_say_308 : decode cX9_say 308 = .ok (.iload 5, 2) := by decide +kernel
theorem dX9_say_310 : decode cX9_say 310 = .ok (.iload_n 1, 1) := by decide +kernel
theorem dX9_say_311 : decode cX9_say 311 = .ok (.bipush 7, 2) := by decide +kernel
theorem dX9_say_313 : decode cX9_say 313 = .ok (.if_icmp .lt 7, 3) := by decide +kernel
theorem dX9_say_316 : decode cX9_say 316 = .ok (.iconst 1, 1) := by decide +kernel
theorem dX9_say_317 : decode cX9_say 317 = .ok (.goto 4, 3) := by decide +kernel
theorem dX9_say_320 : decode cX9_say 320 = .ok (.iconst 0, 1) := by decide +kernel
theorem dX9_say_321 : decode cX9_say 321 = .ok (.bastore, 1) := by decide +kernel
theorem dX9_say_322 : decode cX9_say 322 = .ok (.aload_n 0, 1) := by decide +kernel
theorem dX9_say_323 : decode cX9_say 323 = .ok (.iload 5, 2) := by decide +kernel
theorem dX9_say_325 : decode cX9_say 325 = .ok (.iconst 1, 1) := by decide +kernel
theorem dX9_say_326 : decode cX9_say 326 = .ok (.iadd, 1) := by decide +kernel
theorem dX9_say_327 : decode cX9_say 327 = .ok (.putfield 85, 3) := by decide +kernel
theorem dX9_say_330 : decode cX9_say 330 = .ok (.iconst 1, 1) := by decide +kernel
theorem dX9_say_331 : decode cX9_say 331 = .ok (.ireturn, 1) := by decide +kernel
theorem dX9_starts_0 : decode cX9_starts 0 = .ok (.iload_n 1, 1) := by decide +kernel
theorem dX9_starts_1 : decode cX9_starts 1 = .ok (.sipush 729, 3) := by decide +kernel
theorem dX9_starts_4 : decode cX9_starts 4 = .ok (.idiv, 1) := by decide +kernel
theorem dX9_starts_5 : decode cX9_starts 5 = .ok (.istore_n 2, 1) := by decide +kernel
theorem dX9_starts_6 : decode cX9_starts 6 = .ok (.iload_n 1, 1) := by decide +kernel
theorem dX9_starts_7 : decode cX9_starts 7 = .ok (.bipush 27, 2) := by decide +kernel
theorem dX9_starts_9 : decode cX9_starts 9 = .ok (.idiv, 1) := by decide +kernel
theorem dX9_starts_10 : decode cX9_starts 10 = .ok (.bipush 27, 2) := by decide +kernel
theorem dX9_starts_12 : decode cX9_starts 12 = .ok (.irem, 1) := by decide +kernel
theorem dX9_starts_13 : decode cX9_starts 13 = .ok (.istore_n 3, 1) := by decide +kernel
theorem dX9_starts_14 : decode cX9_starts 14 = .ok (.iload_n 1, 1) := by decide +kernel
theorem dX9_starts_15 : decode cX9_starts 15 = .ok (.bipush 27, 2) := by decide +kernel
theorem dX9_starts_17 : decode cX9_starts 17 = .ok (.irem, 1) := by decide +kernel
theorem dX9_starts_18 : decode cX9_starts 18 = .ok (.istore 4, 2) := by decide +kernel
theorem dX9_starts_20 : decode cX9_starts 20 = .ok (.iload_n 2, 1) := by decide +kernel
theorem dX9_starts_21 : decode cX9_starts 21 = .ok (.ifCond .eq 12, 3) := by decide +kernel
theorem dX9_starts_24 : decode cX9_starts 24 = .ok (.iload_n 0, 1) := by decide +kernel
theorem dX9_starts_25 : decode cX9_starts 25 = .ok (.sipush 729, 3) := by decide +kernel
theorem dX9_starts_28 : decode cX9_starts 28 = .ok (.idiv, 1) := by decide +kernel
theorem dX9_starts_29 : decode cX9_starts 29 = .ok (.iload_n 2, 1) := by decide +kernel
theorem dX9_starts_30 : decode cX9_starts 30 = .ok (.if_icmp .ne 36, 3) := by decide +kernel
theorem dX9_starts_33 : decode cX9_starts 33 = .ok (.iload_n 3, 1) := by decide +kernel
theorem dX9_starts_34 : decode cX9_starts 34 = .ok (.ifCond .eq 14, 3) := by decide +kernel
theorem dX9_starts_37 : decode cX9_starts 37 = .ok (.iload_n 0, 1) := by decide +kernel
theorem dX9_starts_38 : decode cX9_starts 38 = .ok (.bipush 27, 2) := by decide +kernel
theorem dX9_starts_40 : decode cX9_starts 40 = .ok (.idiv, 1) := by decide +kernel
theorem dX9_starts_41 : decode cX9_starts 41 = .ok (.bipush 27, 2) := by decide +kernel
theorem dX9_starts_43 : decode cX9_starts 43 = .ok (.irem, 1) := by decide +kernel
theorem dX9_starts_44 : decode cX9_starts 44 = .ok (.iload_n 3, 1) := by decide +kernel
theorem dX9_starts_45 : decode cX9_starts 45 = .ok (.if_icmp .ne 21, 3) := by decide +kernel
theorem dX9_starts_48 : decode cX9_starts 48 = .ok (.iload 4, 2) := by decide +kernel
theorem dX9_starts_50 : decode cX9_starts 50 = .ok (.ifCond .eq 12, 3) := by decide +kernel
theorem dX9_starts_53 : decode cX9_starts 53 = .ok (.iload_n 0, 1) := by decide +kernel
theorem dX9_starts_54 : decode cX9_starts 54 = .ok (.bipush 27, 2) := by decide +kernel
theorem dX9_starts_56 : decode cX9_starts 56 = .ok (.irem, 1) := by decide +kernel
theorem dX9_starts_57 : decode cX9_starts 57 = .ok (.iload 4, 2) := by decide +kernel
theorem dX9_starts_59 : decode cX9_starts 59 = .ok (.if_icmp .ne 7, 3) := by decide +kernel
theorem dX9_starts_62 : decode cX9_starts 62 = .ok (.iconst 1, 1) := by decide +kernel
theorem dX9_starts_63 : decode cX9_starts 63 = .ok (.goto 4, 3) := by decide +kernel
theorem dX9_starts_66 : decode cX9_starts 66 = .ok (.iconst 0, 1) := by decide +kernel
theorem dX9_starts_67 : decode cX9_starts 67 = .ok (.ireturn, 1) := by decide +kernel
theorem dX9_two_0 : decode cX9_two 0 = .ok (.iload_n 0, 1) := by decide +kernel
theorem dX9_two_1 : decode cX9_two 1 = .ok (.bipush 7, 2) := by decide +kernel
theorem dX9_two_3 : decode cX9_two 3 = .ok (.if_icmp .ge 29, 3) := by decide +kernel
theorem dX9_two_6 : decode cX9_two 6 = .ok (.iload_n 0, 1) := by decide +kernel
theorem dX9_two_7 : decode cX9_two 7 = .ok (.iconst 4, 1) := by decide +kernel
theorem dX9_two_8 : decode cX9_two 8 = .ok (.if_icmp .ne 9, 3) := by decide +kernel
theorem dX9_two_11 : decode cX9_two 11 = .ok (.iload_n 1, 1) := by decide +kernel
theorem dX9_two_12 : decode cX9_two 12 = .ok (.iload_n 2, 1) := by decide +kernel
theorem dX9_two_13 : decode cX9_two 13 = .ok (.iadd, 1) := by decide +kernel
theorem dX9_two_14 : decode cX9_two 14 = .ok (.goto 17, 3) := by decide +kernel
theorem dX9_two_17 : decode cX9_two 17 = .ok (.iload_n 0, 1) := by decide +kernel
theorem dX9_two_18 : decode cX9_two 18 = .ok (.iconst 5, 1) := by decide +kernel
theorem dX9_two_19 : decode cX9_two 19 = .ok (.if_icmp .ne 9, 3) := by decide +kernel
theorem dX9_two_22 : decode cX9_two 22 = .ok (.iload_n 1, 1) := by decide +kernel
theorem dX9_two_23 : decode cX9_two 23 = .ok (.iload_n 2, 1) := by decide +kernel
theorem dX9_two_24 : decode cX9_two 24 = .ok (.isub, 1) := by decide +kernel
theorem dX9_two_25 : decode cX9_two 25 = .ok (.goto 6, 3) := by decide +kernel
theorem dX9_two_28 : decode cX9_two 28 = .ok (.iload_n 1, 1) := by decide +kernel
theorem dX9_two_29 : decode cX9_two 29 = .ok (.iload_n 2, 1) := by decide +kernel
theorem dX9_two_30 : decode cX9_two 30 = .ok (.imul, 1) := by decide +kernel
theorem dX9_two_31 : decode cX9_two 31 = .ok (.ireturn, 1) := by decide +kernel
theorem dX9_two_32 : decode cX9_two 32 = .ok (.iload_n 0, 1) := by decide +kernel
theorem dX9_two_33 : decode cX9_two 33 = .ok (.bipush 7, 2) := by decide +kernel
theorem dX9_two_35 : decode cX9_two 35 = .ok (.if_icmp .ne 16, 3) := by decide +kernel
theorem dX9_two_38 : decode cX9_two 38 = .ok (.iload_n 1, 1) := by decide +kernel
theorem dX9_two_39 : decode cX9_two 39 = .ok (.iload_n 2, 1) := by decide +kernel
theorem dX9_two_40 : decode cX9_two 40 = .ok (.if_icmp .ge 7, 3) := by decide +kernel
theorem dX9_two_43 : decode cX9_two 43 = .ok (.iconst 1, 1) := by decide +kernel
theorem dX9_two_44 : decode cX9_two 44 = .ok (.goto 65, 3) := by decide +kernel
theorem dX9_two_47 : decode cX9_two 47 = .ok (.iconst 0, 1) := by decide +kernel
theorem dX9_two_48 : decode cX9_two 48 = .ok (.goto 61, 3) := by decide +kernel
theorem dX9_two_51 : decode cX9_two 51 = .ok (.iload_n 0, 1) := by decide +kernel
theorem dX9_two_52 : decode cX9_two 52 = .ok (.bipush 8, 2) := by decide +kernel
theorem dX9_two_54 : decode cX9_two 54 = .ok (.if_icmp .ne 16, 3) := by decide +kernel
theorem dX9_two_57 : decode cX9_two 57 = .ok (.iload_n 1, 1) := by decide +kernel
theorem dX9_two_58 : decode cX9_two 58 = .ok (.iload_n 2, 1) := by decide +kernel
theorem dX9_two_59 : decode cX9_two 59 = .ok (.if_icmp .ne 7, 3) := by decide +kernel
theorem dX9_two_62 : decode cX9_two 62 = .ok (.iconst 1, 1) := by decide +kernel
theorem dX9_two_63 : decode cX9_two 63 = .ok (.goto 46, 3) := by decide +kernel
theorem dX9_two_66 : decode cX9_two 66 = .ok (.iconst 0, 1) := by decide +kernel
theorem dX9_two_67 : decode cX9_two 67 = .ok (.goto 42, 3) := by decide +kernel
theorem dX9_two_70 : decode cX9_two 70 = .ok (.iload_n 0, 1) := by decide +kernel
theorem dX9_two_71 : decode cX9_two 71 = .ok (.bipush 9, 2) := by decide +kernel
theorem dX9_two_73 : decode cX9_two 73 = .ok (.if_icmp .ne 21, 3) := by decide +kernel
theorem dX9_two_76 : decode cX9_two 76 = .ok (.iload_n 1, 1) := by decide +kernel
theorem dX9_two_77 : decode cX9_two 77 = .ok (.iconst 1, 1) := by decide +kernel
theorem dX9_two_78 : decode cX9_two 78 = .ok (.if_icmp .ne 12, 3) := by decide +kernel
theorem dX9_two_81 : decode cX9_two 81 = .ok (.iload_n 2, 1) := by decide +kernel
theorem dX9_two_82 : decode cX9_two 82 = .ok (.iconst 1, 1) := by decide +kernel
theorem dX9_two_83 : decode cX9_two 83 = .ok (.if_icmp .ne 7, 3) := by decide +kernel
theorem dX9_two_86 : decode cX9_two 86 = .ok (.iconst 1, 1) := by decide +kernel
theorem dX9_two_87 : decode cX9_two 87 = .ok (.goto 22, 3) := by decide +kernel
theorem dX9_two_90 : decode cX9_two 90 = .ok (.iconst 0, 1) := by decide +kernel
theorem dX9_two_91 : decode cX9_two 91 = .ok (.goto 18, 3) := by decide +kernel
theorem dX9_two_94 : decode cX9_two 94 = .ok (.iload_n 1, 1) := by decide +kernel
theorem dX9_two_95 : decode cX9_two 95 = .ok (.iconst 1, 1) := by decide +kernel
theorem dX9_two_96 : decode cX9_two 96 = .ok (.if_icmp .eq 8, 3) := by decide +kernel
theorem dX9_two_99 : decode cX9_two 99 = .ok (.iload_n 2, 1) := by decide +kernel
theorem dX9_two_100 : decode cX9_two 100 = .ok (.iconst 1, 1) := by decide +kernel
theorem dX9_two_101 : decode cX9_two 101 = .ok (.if_icmp .ne 7, 3) := by decide +kernel
theorem dX9_two_104 : decode cX9_two 104 = .ok (.iconst 1, 1) := by decide +kernel
theorem dX9_two_105 : decode cX9_two 105 = .ok (.goto 4, 3) := by decide +kernel
theorem dX9_two_108 : decode cX9_two 108 = .ok (.iconst 0, 1) := by decide +kernel
theorem dX9_two_109 : decode cX9_two 109 = .ok (.istore_n 3, 1) := by decide +kernel
theorem dX9_two_110 : decode cX9_two 110 = .ok (.iload_n 3, 1) := by decide +kernel
theorem dX9_two_111 : decode cX9_two 111 = .ok (.ifCond .eq 7, 3) := by decide +kernel
theorem dX9_two_114 : decode cX9_two 114 = .ok (.iconst 1, 1) := by decide +kernel
theorem dX9_two_115 : decode cX9_two 115 = .ok (.goto 4, 3) := by decide +kernel
theorem dX9_two_118 : decode cX9_two 118 = .ok (.iconst 0, 1) := by decide +kernel
theorem dX9_two_119 : decode cX9_two 119 = .ok (.ireturn, 1) := by decide +kernel
theorem dX9_value_0 : decode cX9_value 0 = .ok (.iconst 0, 1) := by decide +kernel
theorem dX9_value_1 : decode cX9_value 1 = .ok (.istore_n 2, 1) := by decide +kernel
theorem dX9_value_2 : decode cX9_value 2 = .ok (.bipush 15, 2) := by decide +kernel
theorem dX9_value_4 : decode cX9_value 4 = .ok (.iload_n 1, 1) := by decide +kernel
theorem dX9_value_5 : decode cX9_value 5 = .ok (.imul, 1) := by decide +kernel
theorem dX9_value_6 : decode cX9_value 6 = .ok (.istore_n 3, 1) := by decide +kernel
theorem dX9_value_7 : decode cX9_value 7 = .ok (.iload_n 3, 1) := by decide +kernel
theorem dX9_value_8 : decode cX9_value 8 = .ok (.bipush 15, 2) := by decide +kernel
theorem dX9_value_10 : decode cX9_value 10 = .ok (.iload_n 1, 1) := by decide +kernel
theorem dX9_value_11 : decode cX9_value 11 = .ok (.imul, 1) := by decide +kernel
theorem dX9_value_12 : decode cX9_value 12 = .ok (.aload_n 0, 1) := by decide +kernel
theorem dX9_value_13 : decode cX9_value 13 = .ok (.getfield 7, 3) := by decide +kernel
theorem dX9_value_16 : decode cX9_value 16 = .ok (.iload_n 1, 1) := by decide +kernel
theorem dX9_value_17 : decode cX9_value 17 = .ok (.iaload, 1) := by decide +kernel
theorem dX9_value_18 : decode cX9_value 18 = .ok (.iadd, 1) := by decide +kernel
theorem dX9_value_19 : decode cX9_value 19 = .ok (.if_icmp .ge 154, 3) := by decide +kernel
theorem dX9_value_22 : decode cX9_value 22 = .ok (.aload_n 0, 1) := by decide +kernel
theorem dX9_value_23 : decode cX9_value 23 = .ok (.getfield 13, 3) := by decide +kernel
theorem dX9_value_26 : decode cX9_value 26 = .ok (.iload_n 3, 1) := by decide +kernel
theorem dX9_value_27 : decode cX9_value 27 = .ok (.iaload, 1) := by decide +kernel
theorem dX9_value_28 : decode cX9_value 28 = .ok (.istore 4, 2) := by decide +kernel
theorem dX9_value_30 : decode cX9_value 30 = .ok (.iload 4, 2) := by decide +kernel
theorem dX9_value_32 : decode cX9_value 32 = .ok (.iconst 4, 1) := by decide +kernel
theorem dX9_value_33 : decode cX9_value 33 = .ok (.if_icmp .lt 10, 3) := by decide +kernel
theorem dX9_value_36 : decode cX9_value 36 = .ok (.iload 4, 2) := by decide +kernel
theorem dX9_value_38 : decode cX9_value 38 = .ok (.bipush 12, 2) := by decide +kernel
theorem dX9_value_40 : decode cX9_value 40 = .ok (.if_icmp .ne 69, 3) := by decide +kernel
theorem dX9_value_43 : decode cX9_value 43 = .ok (.aload_n 0, 1) := by decide +kernel
theorem dX9_value_44 : decode cX9_value 44 = .ok (.getfield 65, 3) := by decide +kernel
theorem dX9_value_47 : decode cX9_value 47 = .ok (.iload_n 2, 1) := by decide +kernel
theorem dX9_value_48 : decode cX9_value 48 = .ok (.iload 4, 2) := by decide +kernel
theorem dX9_value_50 : decode cX9_value 50 = .ok (.iconst 3, 1) := by decide +kernel
theorem dX9_value_51 : decode cX9_value 51 = .ok (.if_icmp .ge 13, 3) := by decide +kernel
theorem dX9_value_54 : decode cX9_value 54 = .ok (.aload_n 0, 1) := by decide +kernel
theorem dX9_value_55 : decode cX9_value 55 = .ok (.getfield 62, 3) := by decide +kernel
theorem dX9_value_58 : decode cX9_value 58 = .ok (.iload 4, 2) := by decide +kernel
theorem dX9_value_60 : decode cX9_value 60 = .ok (.iaload, 1) := by decide +kernel
theorem dX9_value_61 : decode cX9_value 61 = .ok (.goto 41, 3) := by decide +kernel
theorem dX9_value_64 : decode cX9_value 64 = .ok (.iload 4, 2) := by decide +kernel
theorem dX9_value_66 : decode cX9_value 66 = .ok (.iconst 3, 1) := by decide +kernel
theorem dX9_value_67 : decode cX9_value 67 = .ok (.if_icmp .ne 12, 3) := by decide +kernel
theorem dX9_value_70 : decode cX9_value 70 = .ok (.aload_n 0, 1) := by decide +kernel
theorem dX9_value_71 : decode cX9_value 71 = .ok (.getfield 16, 3) := by decide +kernel
theorem dX9_value_74 : decode cX9_value 74 = .ok (.iload_n 3, 1) := by decide +kernel
theorem dX9_value_75 : decode cX9_value 75 = .ok (.iaload, 1) := by decide +kernel
theorem dX9_value_76 : decode cX9_value 76 = .ok (.goto 26, 3) := by decide +kernel
theorem dX9_value_79 : decode cX9_value 79 = .ok (.aload_n 0, 1) := by decide +kernel
theorem dX9_value_80 : decode cX9_value 80 = .ok (.getfield 62, 3) := by decide +kernel
theorem dX9_value_83 : decode cX9_value 83 = .ok (.iconst 2, 1) := by decide +kernel
theorem dX9_value_84 : decode cX9_value 84 = .ok (.iaload, 1) := by decide +kernel
theorem dX9_value_85 : decode cX9_value 85 = .ok (.aload_n 0, 1) := by decide +kernel
theorem dX9_value_86 : decode cX9_value 86 = .ok (.getfield 16, 3) := by decide +kernel
theorem dX9_value_89 : decode cX9_value 89 = .ok (.iload_n 3, 1) := by decide +kernel
theorem dX9_value_90 : decode cX9_value 90 = .ok (.iaload, 1) := by decide +kernel
theorem dX9_value_91 : decode cX9_value 91 = .ok (.invokestatic 92, 3) := by decide +kernel
theorem dX9_value_94 : decode cX9_value 94 = .ok (.ifCond .eq 7, 3) := by decide +kernel
theorem dX9_value_97 : decode cX9_value 97 = .ok (.iconst 1, 1) := by decide +kernel
theorem dX9_value_98 : decode cX9_value 98 = .ok (.goto 4, 3) := by decide +kernel
theorem dX9_value_101 : decode cX9_value 101 = .ok (.iconst 0, 1) := by decide +kernel
theorem dX9_value_102 : decode cX9_value 102 = .ok (.iastore, 1) := by decide +kernel
theorem dX9_value_103 : decode cX9_value 103 = .ok (.iinc 2 1, 3) := by decide +kernel
theorem dX9_value_106 : decode cX9_value 106 = .ok (.goto 61, 3) := by decide +kernel
theorem dX9_value_109 : decode cX9_value 109 = .ok (.iload 4, 2) := by decide +kernel
theorem dX9_value_111 : decode cX9_value 111 = .ok (.bipush 11, 2) := by decide +kernel
theorem dX9_value_113 : decode cX9_value 113 = .ok (.if_icmp .ne 24, 3) := by decide +kernel
theorem dX9_value_116 : decode cX9_value 116 = .ok (.aload_n 0, 1) := by decide +kernel
theorem dX9_value_117 : decode cX9_value 117 = .ok (.getfield 65, 3) := by decide +kernel
theorem dX9_value_120 : decode cX9_value 120 = .ok (.iload_n 2, 1) := by decide +kernel
theorem dX9_value_121 : decode cX9_value 121 = .ok (.iconst 1, 1) := by decide +kernel
theorem dX9_value_122 : decode cX9_value 122 = .ok (.isub, 1) := by decide +kernel
theorem dX9_value_123 : decode cX9_value 123 = .ok (.iconst 1, 1) := by decide +kernel
theorem dX9_value_124 : decode cX9_value 124 = .ok (.aload_n 0, 1) := by decide +kernel
theorem dX9_value_125 : decode cX9_value 125 = .ok (.getfield 65, 3) := by decide +kernel
theorem dX9_value_128 : decode cX9_value 128 = .ok (.iload_n 2, 1) := by decide +kernel
theorem dX9_value_129 : decode cX9_value 129 = .ok (.iconst 1, 1) := by decide +kernel
theorem dX9_value_130 : decode cX9_value 130 = .ok (.isub, 1) := by decide +kernel
theorem dX9_value_131 : decode cX9_value 131 = .ok (.iaload, 1) := by decide +kernel
theorem dX9_value_132 : decode cX9_value 132 = .ok (.isub, 1) := by decide +kernel
theorem dX9_value_133 : decode cX9_value 133 = .ok (.iastore, 1) := by decide +kernel
theorem dX9_value_134 : decode cX9_value 134 = .ok (.goto 33, 3) := by decide +kernel
theorem dX9_value_137 : decode cX9_value 137 = .ok (.iinc 2 (-1), 3) := by decide +kernel
theorem dX9_value_140 : decode cX9_value 140 = .ok (.aload_n 0, 1) := by decide +kernel
theorem dX9_value_141 : decode cX9_value 141 = .ok (.getfield 65, 3) := by decide +kernel
theorem dX9_value_144 : decode cX9_value 144 = .ok (.iload_n 2, 1) := by decide +kernel
theorem dX9_value_145 : decode cX9_value 145 = .ok (.iconst 1, 1) := by decide +kernel
theorem dX9_value_146 : decode cX9_value 146 = .ok (.isub, 1) := by decide +kernel
theorem dX9_value_147 : decode cX9_value 147 = .ok (.iload 4, 2) := by decide +kernel
theorem dX9_value_149 : decode cX9_value 149 = .ok (.aload_n 0, 1) := by decide +kernel
theorem dX9_value_150 : decode cX9_value 150 = .ok (.getfield 65, 3) := by decide +kernel
theorem dX9_value_153 : decode cX9_value 153 = .ok (.iload_n 2, 1) := by decide +kernel
theorem dX9_value_154 : decode cX9_value 154 = .ok (.iconst 1, 1) := by decide +kernel
theorem dX9_value_155 : decode cX9_value 155 = .ok (.isub, 1) := by decide +kernel
theorem dX9_value_156 : decode cX9_value 156 = .ok (.iaload, 1) := by decide +kernel
theorem dX9_value_157 : decode cX9_value 157 = .ok (.aload_n 0, 1) := by decide +kernel
theorem dX9_value_158 : decode cX9_value 158 = .ok (.getfield 65, 3) := by decide +kernel
theorem dX9_value_161 : decode cX9_value 161 = .ok (.iload_n 2, 1) := by decide +kernel
theorem dX9_value_162 : decode cX9_value 162 = .ok (.iaload, 1) := by decide +kernel
theorem dX9_value_163 : decode cX9_value 163 = .ok (.invokestatic 96, 3) := by decide +kernel
theorem dX9_value_166 : decode cX9_value 166 = .ok (.iastore, 1) := by decide +kernel
theorem dX9_value_167 : decode cX9_value 167 = .ok (.iinc 3 1, 3) := by decide +kernel
theorem dX9_value_170 : decode cX9_value 170 = .ok (.goto (-163), 3) := by decide +kernel
theorem dX9_value_173 : decode cX9_value 173 = .ok (.aload_n 0, 1) := by decide +kernel
theorem dX9_value_174 : decode cX9_value 174 = .ok (.getfield 65, 3) := by decide +kernel
theorem dX9_value_177 : decode cX9_value 177 = .ok (.iconst 0, 1) := by decide +kernel
theorem dX9_value_178 : decode cX9_value 178 = .ok (.iaload, 1) := by decide +kernel
theorem dX9_value_179 : decode cX9_value 179 = .ok (.ireturn, 1) := by decide +kernel
theorem dX9_index_0 : decode cX9_index 0 = .ok (.aload_n 0, 1) := by decide +kernel
theorem dX9_index_1 : decode cX9_index 1 = .ok (.getfield 85, 3) := by decide +kernel
theorem dX9_index_4 : decode cX9_index 4 = .ok (.ifCond .eq 32, 3) := by decide +kernel
theorem dX9_index_7 : decode cX9_index 7 = .ok (.aload_n 0, 1) := by decide +kernel
theorem dX9_index_8 : decode cX9_index 8 = .ok (.getfield 19, 3) := by decide +kernel
theorem dX9_index_11 : decode cX9_index 11 = .ok (.aload_n 0, 1) := by decide +kernel
theorem dX9_index_12 : decode cX9_index 12 = .ok (.getfield 85, 3) := by decide +kernel
theorem dX9_index_15 : decode cX9_index 15 = .ok (.iconst 1, 1) := by decide +kernel
theorem dX9_index_16 : decode cX9_index 16 = .ok (.isub, 1) := by decide +kernel
theorem dX9_index_17 : decode cX9_index 17 = .ok (.baload, 1) := by decide +kernel
theorem dX9_index_18 : decode cX9_index 18 = .ok (.ifCond .ne 18, 3) := by decide +kernel
theorem dX9_index_21 : decode cX9_index 21 = .ok (.aload_n 0, 1) := by decide +kernel
theorem dX9_index_22 : decode cX9_index 22 = .ok (.getfield 100, 3) := by decide +kernel
theorem dX9_index_25 : decode cX9_index 25 = .ok (.iconst 3, 1) := by decide +kernel
theorem dX9_index_26 : decode cX9_index 26 = .ok (.if_icmp .eq 10, 3) := by decide +kernel
theorem dX9_index_29 : decode cX9_index 29 = .ok (.aload_n 0, 1) := by decide +kernel
theorem dX9_index_30 : decode cX9_index 30 = .ok (.getfield 103, 3) := by decide +kernel
theorem dX9_index_33 : decode cX9_index 33 = .ok (.ifCond .le 5, 3) := by decide +kernel
theorem dX9_index_36 : decode cX9_index 36 = .ok (.iconst (-1), 1) := by decide +kernel
theorem dX9_index_37 : decode cX9_index 37 = .ok (.ireturn, 1) := by decide +kernel
theorem dX9_index_38 : decode cX9_index 38 = .ok (.bipush 15, 2) := by decide +kernel
theorem dX9_index_40 : decode cX9_index 40 = .ok (.aload_n 0, 1) := by decide +kernel
theorem dX9_index_41 : decode cX9_index 41 = .ok (.getfield 85, 3) := by decide +kernel
theorem dX9_index_44 : decode cX9_index 44 = .ok (.iconst 1, 1) := by decide +kernel
theorem dX9_index_45 : decode cX9_index 45 = .ok (.isub, 1) := by decide +kernel
theorem dX9_index_46 : decode cX9_index 46 = .ok (.imul, 1) := by decide +kernel
theorem dX9_index_47 : decode cX9_index 47 = .ok (.istore_n 1, 1) := by decide +kernel
theorem dX9_index_48 : decode cX9_index 48 = .ok (.bipush 15, 2) := by decide +kernel
theorem dX9_index_50 : decode cX9_index 50 = .ok (.bipush 8, 2) := by decide +kernel
theorem dX9_index_52 : decode cX9_index 52 = .ok (.aload_n 0, 1) := by decide +kernel
theorem dX9_index_53 : decode cX9_index 53 = .ok (.getfield 100, 3) := by decide +kernel
theorem dX9_index_56 : decode cX9_index 56 = .ok (.iadd, 1) := by decide +kernel
theorem dX9_index_57 : decode cX9_index 57 = .ok (.imul, 1) := by decide +kernel
theorem dX9_index_58 : decode cX9_index 58 = .ok (.istore_n 2, 1) := by decide +kernel
theorem dX9_index_59 : decode cX9_index 59 = .ok (.iconst 0, 1) := by decide +kernel
theorem dX9_index_60 : decode cX9_index 60 = .ok (.istore_n 3, 1) := by decide +kernel
theorem dX9_index_61 : decode cX9_index 61 = .ok (.iload_n 3, 1) := by decide +kernel
theorem dX9_index_62 : decode cX9_index 62 = .ok (.bipush 15, 2) := by decide +kernel
theorem dX9_index_64 : decode cX9_index 64 = .ok (.if_icmp .ge 41, 3) := by decide +kernel
theorem dX9_index_67 : decode cX9_index 67 = .ok (.aload_n 0, 1) := by decide +kernel
theorem dX9_index_68 : decode cX9_index 68 = .ok (.getfield 13, 3) := by decide +kernel
theorem dX9_index_71 : decode cX9_index 71 = .ok (.iload_n 2, 1) := by decide +kernel
theorem dX9_index_72 : decode cX9_index 72 = .ok (.iload_n 3, 1) := by decide +kernel
theorem dX9_index_73 : decode cX9_index 73 = .ok (.iadd, 1) := by decide +kernel
theorem dX9_index_74 : decode cX9_index 74 = .ok (.aload_n 0, 1) := by decide +kernel
theorem dX9_index_75 : decode cX9_index 75 = .ok (.getfield 13, 3) := by decide +kernel
theorem dX9_index_78 : decode cX9_index 78 = .ok (.iload_n 1, 1) := by decide +kernel
theorem dX9_index_79 : decode cX9_index 79 = .ok (.iload_n 3, 1) := by decide +kernel
theorem dX9_index_80 : decode cX9_index 80 = .ok (.iadd, 1) := by decide +kernel
theorem dX9_index_81 : decode cX9_index 81 = .ok (.iaload, 1) := by decide +kernel
theorem dX9_index_82 : decode cX9_index 82 = .ok (.iastore, 1) := by decide +kernel
theorem dX9_index_83 : decode cX9_index 83 = .ok (.aload_n 0, 1) := by decide +kernel
theorem dX9_index_84 : decode cX9_index 84 = .ok (.getfield 16, 3) := by decide +kernel
theorem dX9_index_87 : decode cX9_index 87 = .ok (.iload_n 2, 1) := by decide +kernel
theorem dX9_index_88 : decode cX9_index 88 = .ok (.iload_n 3, 1) := by decide +kernel
theorem dX9_index_89 : decode cX9_index 89 = .ok (.iadd, 1) := by decide +kernel
theorem dX9_index_90 : decode cX9_index 90 = .ok (.aload_n 0, 1) := by decide +kernel
theorem dX9_index_91 : decode cX9_index 91 = .ok (.getfield 16, 3) := by decide +kernel
theorem dX9_index_94 : decode cX9_index 94 = .ok (.iload_n 1, 1) := by decide +kernel
theorem dX9_index_95 : decode cX9_index 95 = .ok (.iload_n 3, 1) := by decide +kernel
theorem dX9_index_96 : decode cX9_index 96 = .ok (.iadd, 1) := by decide +kernel
theorem dX9_index_97 : decode cX9_index 97 = .ok (.iaload, 1) := by decide +kernel
theorem dX9_index_98 : decode cX9_index 98 = .ok (.iastore, 1) := by decide +kernel
theorem dX9_index_99 : decode cX9_index 99 = .ok (.iinc 3 1, 3) := by decide +kernel
theorem dX9_index_102 : decode cX9_index 102 = .ok (.goto (-41), 3) := by decide +kernel
theorem dX9_index_105 : decode cX9_index 105 = .ok (.aload_n 0, 1) := by decide +kernel
theorem dX9_index_106 : decode cX9_index 106 = .ok (.getfield 7, 3) := by decide +kernel
theorem dX9_index_109 : decode cX9_index 109 = .ok (.bipush 8, 2) := by decide +kernel
theorem dX9_index_111 : decode cX9_index 111 = .ok (.aload_n 0, 1) := by decide +kernel
theorem dX9_index_112 : decode cX9_index 112 = .ok (.getfield 100, 3) := by decide +kernel
theorem dX9_index_115 : decode cX9_index 115 = .ok (.iadd, 1) := by decide +kernel
theorem dX9_index_116 : decode cX9_index 116 = .ok (.aload_n 0, 1) := by decide +kernel
theorem dX9_index_117 : decode cX9_index 117 = .ok (.getfield 7, 3) := by decide +kernel
theorem dX9_index_120 : decode cX9_index 120 = .ok (.aload_n 0, 1) := by decide +kernel
theorem dX9_index_121 : decode cX9_index 121 = .ok (.getfield 85, 3) := by decide +kernel
theorem dX9_index_124 : decode cX9_index 124 = .ok (.iconst 1, 1) := by decide +kernel
theorem dX9_index_125 : decode cX9_index 125 = .ok (.isub, 1) := by decide +kernel
theorem dX9_index_126 : decode cX9_index 126 = .ok (.iaload, 1) := by decide +kernel
theorem dX9_index_127 : decode cX9_index 127 = .ok (.iastore, 1) := by decide +kernel
theorem dX9_index_128 : decode cX9_index 128 = .ok (.aload_n 0, 1) := by decide +kernel
theorem dX9_index_129 : decode cX9_index 129 = .ok (.dup, 1) := by decide +kernel
theorem dX9_index_130 : decode cX9_index 130 = .ok (.getfield 85, 3) := by decide +kernel
theorem dX9_index_133 : decode cX9_index 133 = .ok (.iconst 1, 1) := by decide +kernel
theorem dX9_index_134 : decode cX9_index 134 = .ok (.isub, 1) := by decide +kernel
theorem dX9_index_135 : decode cX9_index 135 = .ok (.putfield 85, 3) := by decide +kernel
theorem dX9_index_138 : decode cX9_index 138 = .ok (.aload_n 0, 1) := by decide +kernel
theorem dX9_index_139 : decode cX9_index 139 = .ok (.dup, 1) := by decide +kernel
theorem dX9_index_140 : decode cX9_index 140 = .ok (.getfield 100, 3) := by decide +kernel
theorem dX9_index_143 : decode cX9_index 143 = .ok (.iconst 1, 1) := by decide +kernel
theorem dX9_index_144 : decode cX9_index 144 = .ok (.iadd, 1) := by decide +kernel
theorem dX9_index_145 : decode cX9_index 145 = .ok (.putfield 100, 3) := by decide +kernel
theorem dX9_index_148 : decode cX9_index 148 = .ok (.aload_n 0, 1) := by decide +kernel
theorem dX9_index_149 : decode cX9_index 149 = .ok (.getfield 100, 3) := by decide +kernel
theorem dX9_index_152 : decode cX9_index 152 = .ok (.iconst 1, 1) := by decide +kernel
theorem dX9_index_153 : decode cX9_index 153 = .ok (.isub, 1) := by decide +kernel
theorem dX9_index_154 : decode cX9_index 154 = .ok (.ireturn, 1) := by decide +kernel
theorem dX9_seen_0 : decode cX9_seen 0 = .ok (.iconst (-1), 1) := by decide +kernel
theorem dX9_seen_1 : decode cX9_seen 1 = .ok (.istore 5, 2) := by decide +kernel
theorem dX9_seen_3 : decode cX9_seen 3 = .ok (.iconst 0, 1) := by decide +kernel
theorem dX9_seen_4 : decode cX9_seen 4 = .ok (.istore 6, 2) := by decide +kernel
theorem dX9_seen_6 : decode cX9_seen 6 = .ok (.iload 6, 2) := by decide +kernel
theorem dX9_seen_8 : decode cX9_seen 8 = .ok (.aload_n 0, 1) := by decide +kernel
theorem dX9_seen_9 : decode cX9_seen 9 = .ok (.getfield 106, 3) := by decide +kernel
theorem dX9_seen_12 : decode cX9_seen 12 = .ok (.if_icmp .ge 80, 3) := by decide +kernel
theorem dX9_seen_15 : decode cX9_seen 15 = .ok (.aload_n 0, 1) := by decide +kernel
theorem dX9_seen_16 : decode cX9_seen 16 = .ok (.getfield 23, 3) := by decide +kernel
theorem dX9_seen_19 : decode cX9_seen 19 = .ok (.iload 6, 2) := by decide +kernel
theorem dX9_seen_21 : decode cX9_seen 21 = .ok (.iaload, 1) := by decide +kernel
theorem dX9_seen_22 : decode cX9_seen 22 = .ok (.iload_n 1, 1) := by decide +kernel
theorem dX9_seen_23 : decode cX9_seen 23 = .ok (.if_icmp .ne 63, 3) := by decide +kernel
theorem dX9_seen_26 : decode cX9_seen 26 = .ok (.aload_n 0, 1) := by decide +kernel
theorem dX9_seen_27 : decode cX9_seen 27 = .ok (.getfield 26, 3) := by decide +kernel
theorem dX9_seen_30 : decode cX9_seen 30 = .ok (.iload 6, 2) := by decide +kernel
theorem dX9_seen_32 : decode cX9_seen 32 = .ok (.iaload, 1) := by decide +kernel
theorem dX9_seen_33 : decode cX9_seen 33 = .ok (.iload_n 2, 1) := by decide +kernel
theorem dX9_seen_34 : decode cX9_seen 34 = .ok (.if_icmp .ne 52, 3) := by decide +kernel
theorem dX9_seen_37 : decode cX9_seen 37 = .ok (.aload_n 0, 1) := by decide +kernel
theorem dX9_seen_38 : decode cX9_seen 38 = .ok (.getfield 29, 3) := by decide +kernel
theorem dX9_seen_41 : decode cX9_seen 41 = .ok (.iload 6, 2) := by decide +kernel
theorem dX9_seen_43 : decode cX9_seen 43 = .ok (.iaload, 1) := by decide +kernel
theorem dX9_seen_44 : decode cX9_seen 44 = .ok (.iload_n 3, 1) := by decide +kernel
theorem dX9_seen_45 : decode cX9_seen 45 = .ok (.if_icmp .ne 41, 3) := by decide +kernel
theorem dX9_seen_48 : decode cX9_seen 48 = .ok (.aload_n 0, 1) := by decide +kernel
theorem dX9_seen_49 : decode cX9_seen 49 = .ok (.getfield 32, 3) := by decide +kernel
theorem dX9_seen_52 : decode cX9_seen 52 = .ok (.iload 6, 2) := by decide +kernel
theorem dX9_seen_54 : decode cX9_seen 54 = .ok (.iaload, 1) := by decide +kernel
theorem dX9_seen_55 : decode cX9_seen 55 = .ok (.iload 4, 2) := by decide +kernel
theorem dX9_seen_57 : decode cX9_seen 57 = .ok (.if_icmp .gt 29, 3) := by decide +kernel
theorem dX9_seen_60 : decode cX9_seen 60 = .ok (.iload 5, 2) := by decide +kernel
theorem dX9_seen_62 : decode cX9_seen 62 = .ok (.ifCond .lt 20, 3) := by decide +kernel
theorem dX9_seen_65 : decode cX9_seen 65 = .ok (.aload_n 0, 1) := by decide +kernel
theorem dX9_seen_66 : decode cX9_seen 66 = .ok (.getfield 32, 3) := by decide +kernel
theorem dX9_seen_69 : decode cX9_seen 69 = .ok (.iload 6, 2) := by decide +kernel
theorem dX9_seen_71 : decode cX9_seen 71 = .ok (.iaload, 1) := by decide +kernel
theorem dX9_seen_72 : decode cX9_seen 72 = .ok (.aload_n 0, 1) := by decide +kernel
theorem dX9_seen_73 : decode cX9_seen 73 = .ok (.getfield 32, 3) := by decide +kernel
theorem dX9_seen_76 : decode cX9_seen 76 = .ok (.iload 5, 2) := by decide +kernel
theorem dX9_seen_78 : decode cX9_seen 78 = .ok (.iaload, 1) := by decide +kernel
theorem dX9_seen_79 : decode cX9_seen 79 = .ok (.if_icmp .le 7, 3) := by decide +kernel
theorem dX9_seen_82 : decode cX9_seen 82 = .ok (.iload 6, 2) := by decide +kernel
theorem dX9_seen_84 : decode cX9_seen 84 = .ok (.istore 5, 2) := by decide +kernel
theorem dX9_seen_86 : decode cX9_seen 86 = .ok (.iinc 6 1, 3) := by decide +kernel
theorem dX9_seen_89 : decode cX9_seen 89 = .ok (.goto (-83), 3) := by decide +kernel
theorem dX9_seen_92 : decode cX9_seen 92 = .ok (.iload 5, 2) := by decide +kernel
theorem dX9_seen_94 : decode cX9_seen 94 = .ok (.ireturn, 1) := by decide +kernel
theorem dX9_rowAt_0 : decode cX9_rowAt 0 = .ok (.aload_n 0, 1) := by decide +kernel
theorem dX9_rowAt_1 : decode cX9_rowAt 1 = .ok (.iconst 0, 1) := by decide +kernel
theorem dX9_rowAt_2 : decode cX9_rowAt 2 = .ok (.iconst 0, 1) := by decide +kernel
theorem dX9_rowAt_3 : decode cX9_rowAt 3 = .ok (.iload_n 1, 1) := by decide +kernel
theorem dX9_rowAt_4 : decode cX9_rowAt 4 = .ok (.iload_n 2, 1) := by decide +kernel
theorem dX9_rowAt_5 : decode cX9_rowAt 5 = .ok (.invokevirtual 109, 3) := by decide +kernel
theorem dX9_rowAt_8 : decode cX9_rowAt 8 = .ok (.istore_n 3, 1) := by decide +kernel
theorem dX9_rowAt_9 : decode cX9_rowAt 9 = .ok (.iload_n 3, 1) := by decide +kernel
theorem dX9_rowAt_10 : decode cX9_rowAt 10 = .ok (.ifCond .lt 16, 3) := by decide +kernel
theorem dX9_rowAt_13 : decode cX9_rowAt 13 = .ok (.aload_n 0, 1) := by decide +kernel
theorem dX9_rowAt_14 : decode cX9_rowAt 14 = .ok (.getfield 35, 3) := by decide +kernel
theorem dX9_rowAt_17 : decode cX9_rowAt 17 = .ok (.iload_n 3, 1) := by decide +kernel
theorem dX9_rowAt_18 : decode cX9_rowAt 18 = .ok (.baload, 1) := by decide +kernel
theorem dX9_rowAt_19 : decode cX9_rowAt 19 = .ok (.ifCond .eq 7, 3) := by decide +kernel
theorem dX9_rowAt_22 : decode cX9_rowAt 22 = .ok (.iconst 1, 1) := by decide +kernel
theorem dX9_rowAt_23 : decode cX9_rowAt 23 = .ok (.goto 4, 3) := by decide +kernel
theorem dX9_rowAt_26 : decode cX9_rowAt 26 = .ok (.iconst 0, 1) := by decide +kernel
theorem dX9_rowAt_27 : decode cX9_rowAt 27 = .ok (.istore 4, 2) := by decide +kernel
theorem dX9_rowAt_29 : decode cX9_rowAt 29 = .ok (.iconst 0, 1) := by decide +kernel
theorem dX9_rowAt_30 : decode cX9_rowAt 30 = .ok (.istore 5, 2) := by decide +kernel
theorem dX9_rowAt_32 : decode cX9_rowAt 32 = .ok (.iload 5, 2) := by decide +kernel
theorem dX9_rowAt_34 : decode cX9_rowAt 34 = .ok (.iconst 3, 1) := by decide +kernel
theorem dX9_rowAt_35 : decode cX9_rowAt 35 = .ok (.if_icmp .ge 36, 3) := by decide +kernel
theorem dX9_rowAt_38 : decode cX9_rowAt 38 = .ok (.aload_n 0, 1) := by decide +kernel
theorem dX9_rowAt_39 : decode cX9_rowAt 39 = .ok (.getfield 62, 3) := by decide +kernel
theorem dX9_rowAt_42 : decode cX9_rowAt 42 = .ok (.iload 5, 2) := by decide +kernel
theorem dX9_rowAt_44 : decode cX9_rowAt 44 = .ok (.iload 4, 2) := by decide +kernel
theorem dX9_rowAt_46 : decode cX9_rowAt 46 = .ok (.ifCond .eq 17, 3) := by decide +kernel
theorem dX9_rowAt_49 : decode cX9_rowAt 49 = .ok (.aload_n 0, 1) := by decide +kernel
theorem dX9_rowAt_50 : decode cX9_rowAt 50 = .ok (.getfield 38, 3) := by decide +kernel
theorem dX9_rowAt_53 : decode cX9_rowAt 53 = .ok (.iconst 3, 1) := by decide +kernel
theorem dX9_rowAt_54 : decode cX9_rowAt 54 = .ok (.iload_n 3, 1) := by decide +kernel
theorem dX9_rowAt_55 : decode cX9_rowAt 55 = .ok (.imul, 1) := by decide +kernel
theorem dX9_rowAt_56 : decode cX9_rowAt 56 = .ok (.iload 5, 2) := by decide +kernel
theorem dX9_rowAt_58 : decode cX9_rowAt 58 = .ok (.iadd, 1) := by decide +kernel
theorem dX9_rowAt_59 : decode cX9_rowAt 59 = .ok (.iaload, 1) := by decide +kernel
theorem dX9_rowAt_60 : decode cX9_rowAt 60 = .ok (.goto 4, 3) := by decide +kernel
theorem dX9_rowAt_63 : decode cX9_rowAt 63 = .ok (.iconst 0, 1) := by decide +kernel
theorem dX9_rowAt_64 : decode cX9_rowAt 64 = .ok (.iastore, 1) := by decide +kernel
theorem dX9_rowAt_65 : decode cX9_rowAt 65 = .ok (.iinc 5 1, 3) := by decide +kernel
theorem dX9_rowAt_68 : decode cX9_rowAt 68 = .ok (.goto (-36), 3) := by decide +kernel
theorem dX9_rowAt_71 : decode cX9_rowAt 71 = .ok (.iload 4, 2) := by decide +kernel
theorem dX9_rowAt_73 : decode cX9_rowAt 73 = .ok (.ireturn, 1) := by decide +kernel
theorem dX9_rowFor_0 : decode cX9_rowFor 0 = .ok (.aload_n 0, 1) := by decide +kernel
theorem dX9_rowFor_1 : decode cX9_rowFor 1 = .ok (.getfield 56, 3) := by decide +kernel
theorem dX9_rowFor_4 : decode cX9_rowFor 4 = .ok (.bipush 32, 2) := by decide +kernel
theorem dX9_rowFor_6 : decode cX9_rowFor 6 = .ok (.iload_n 1, 1) := by decide +kernel
theorem dX9_rowFor_7 : decode cX9_rowFor 7 = .ok (.imul, 1) := by decide +kernel
theorem dX9_rowFor_8 : decode cX9_rowFor 8 = .ok (.iload_n 2, 1) := by decide +kernel
theorem dX9_rowFor_9 : decode cX9_rowFor 9 = .ok (.iadd, 1) := by decide +kernel
theorem dX9_rowFor_10 : decode cX9_rowFor 10 = .ok (.iaload, 1) := by decide +kernel
theorem dX9_rowFor_11 : decode cX9_rowFor 11 = .ok (.istore_n 3, 1) := by decide +kernel
theorem dX9_rowFor_12 : decode cX9_rowFor 12 = .ok (.iload_n 3, 1) := by decide +kernel
theorem dX9_rowFor_13 : decode cX9_rowFor 13 = .ok (.ifCond .ne 15, 3) := by decide +kernel
theorem dX9_rowFor_16 : decode cX9_rowFor 16 = .ok (.aload_n 0, 1) := by decide +kernel
theorem dX9_rowFor_17 : decode cX9_rowFor 17 = .ok (.iload_n 2, 1) := by decide +kernel
theorem dX9_rowFor_18 : decode cX9_rowFor 18 = .ok (.aload_n 0, 1) := by decide +kernel
theorem dX9_rowFor_19 : decode cX9_rowFor 19 = .ok (.getfield 53, 3) := by decide +kernel
theorem dX9_rowFor_22 : decode cX9_rowFor 22 = .ok (.iload_n 1, 1) := by decide +kernel
theorem dX9_rowFor_23 : decode cX9_rowFor 23 = .ok (.iaload, 1) := by decide +kernel
theorem dX9_rowFor_24 : decode cX9_rowFor 24 = .ok (.invokevirtual 113, 3) := by decide +kernel
theorem dX9_rowFor_27 : decode cX9_rowFor 27 = .ok (.ireturn, 1) := by decide +kernel
theorem dX9_rowFor_28 : decode cX9_rowFor 28 = .ok (.iconst 0, 1) := by decide +kernel
theorem dX9_rowFor_29 : decode cX9_rowFor 29 = .ok (.istore 4, 2) := by decide +kernel
theorem dX9_rowFor_31 : decode cX9_rowFor 31 = .ok (.iload 4, 2) := by decide +kernel
theorem dX9_rowFor_33 : decode cX9_rowFor 33 = .ok (.iconst 3, 1) := by decide +kernel
theorem dX9_rowFor_34 : decode cX9_rowFor 34 = .ok (.if_icmp .ge 41, 3) := by decide +kernel
theorem dX9_rowFor_37 : decode cX9_rowFor 37 = .ok (.aload_n 0, 1) := by decide +kernel
theorem dX9_rowFor_38 : decode cX9_rowFor 38 = .ok (.getfield 62, 3) := by decide +kernel
theorem dX9_rowFor_41 : decode cX9_rowFor 41 = .ok (.iload 4, 2) := by decide +kernel
theorem dX9_rowFor_43 : decode cX9_rowFor 43 = .ok (.iload_n 3, 1) := by decide +kernel
theorem dX9_rowFor_44 : decode cX9_rowFor 44 = .ok (.iconst 1, 1) := by decide +kernel
theorem dX9_rowFor_45 : decode cX9_rowFor 45 = .ok (.if_icmp .ne 22, 3) := by decide +kernel
theorem dX9_rowFor_48 : decode cX9_rowFor 48 = .ok (.aload_n 0, 1) := by decide +kernel
theorem dX9_rowFor_49 : decode cX9_rowFor 49 = .ok (.getfield 59, 3) := by decide +kernel
theorem dX9_rowFor_52 : decode cX9_rowFor 52 = .ok (.iconst 3, 1) := by decide +kernel
theorem dX9_rowFor_53 : decode cX9_rowFor 53 = .ok (.bipush 32, 2) := by decide +kernel
theorem dX9_rowFor_55 : decode cX9_rowFor 55 = .ok (.iload_n 1, 1) := by decide +kernel
theorem dX9_rowFor_56 : decode cX9_rowFor 56 = .ok (.imul, 1) := by decide +kernel
theorem dX9_rowFor_57 : decode cX9_rowFor 57 = .ok (.iload_n 2, 1) := by decide +kernel
theorem dX9_rowFor_58 : decode cX9_rowFor 58 = .ok (.iadd, 1) := by decide +kernel
theorem dX9_rowFor_59 : decode cX9_rowFor 59 = .ok (.imul, 1) := by decide +kernel
theorem dX9_rowFor_60 : decode cX9_rowFor 60 = .ok (.iload 4, 2) := by decide +kernel
theorem dX9_rowFor_62 : decode cX9_rowFor 62 = .ok (.iadd, 1) := by decide +kernel
theorem dX9_rowFor_63 : decode cX9_rowFor 63 = .ok (.iaload, 1) := by decide +kernel
theorem dX9_rowFor_64 : decode cX9_rowFor 64 = .ok (.goto 4, 3) := by decide +kernel
theorem dX9_rowFor_67 : decode cX9_rowFor 67 = .ok (.iconst 0, 1) := by decide +kernel
theorem dX9_rowFor_68 : decode cX9_rowFor 68 = .ok (.iastore, 1) := by decide +kernel
theorem dX9_rowFor_69 : decode cX9_rowFor 69 = .ok (.iinc 4 1, 3) := by decide +kernel
theorem dX9_rowFor_72 : decode cX9_rowFor 72 = .ok (.goto (-41), 3) := by decide +kernel
theorem dX9_rowFor_75 : decode cX9_rowFor 75 = .ok (.iload_n 3, 1) := by decide +kernel
theorem dX9_rowFor_76 : decode cX9_rowFor 76 = .ok (.iconst 1, 1) := by decide +kernel
theorem dX9_rowFor_77 : decode cX9_rowFor 77 = .ok (.if_icmp .ne 7, 3) := by decide +kernel
theorem dX9_rowFor_80 : decode cX9_rowFor 80 = .ok (.iconst 1, 1) := by decide +kernel
theorem dX9_rowFor_81 : decode cX9_rowFor 81 = .ok (.goto 4, 3) := by decide +kernel
theorem dX9_rowFor_84 : decode cX9_rowFor 84 = .ok (.iconst 0, 1) := by decide +kernel
theorem dX9_rowFor_85 : decode cX9_rowFor 85 = .ok (.ireturn, 1) := by decide +kernel
theorem dX9_open_0 : decode cX9_open 0 = .ok (.iload_n 1, 1) := by decide +kernel
theorem dX9_open_1 : decode cX9_open 1 = .ok (.ifCond .lt 25, 3) := by decide +kernel
theorem dX9_open_4 : decode cX9_open 4 = .ok (.iload_n 1, 1) := by decide +kernel
theorem dX9_open_5 : decode cX9_open 5 = .ok (.aload_n 0, 1) := by decide +kernel
theorem dX9_open_6 : decode cX9_open 6 = .ok (.getfield 116, 3) := by decide +kernel
theorem dX9_open_9 : decode cX9_open 9 = .ok (.if_icmp .ge 17, 3) := by decide +kernel
theorem dX9_open_12 : decode cX9_open 12 = .ok (.aload_n 0, 1) := by decide +kernel
theorem dX9_open_13 : decode cX9_open 13 = .ok (.getfield 50, 3) := by decide +kernel
theorem dX9_open_16 : decode cX9_open 16 = .ok (.iload_n 1, 1) := by decide +kernel
theorem dX9_open_17 : decode cX9_open 17 = .ok (.iaload, 1) := by decide +kernel
theorem dX9_open_18 : decode cX9_open 18 = .ok (.iconst 1, 1) := by decide +kernel
theorem dX9_open_19 : decode cX9_open 19 = .ok (.if_icmp .ne 7, 3) := by decide +kernel
theorem dX9_open_22 : decode cX9_open 22 = .ok (.iconst 1, 1) := by decide +kernel
theorem dX9_open_23 : decode cX9_open 23 = .ok (.goto 4, 3) := by decide +kernel
theorem dX9_open_26 : decode cX9_open 26 = .ok (.iconst 0, 1) := by decide +kernel
theorem dX9_open_27 : decode cX9_open 27 = .ok (.ireturn, 1) := by decide +kernel
theorem dX9_opens_0 : decode cX9_opens 0 = .ok (.iconst 0, 1) := by decide +kernel
theorem dX9_opens_1 : decode cX9_opens 1 = .ok (.istore_n 1, 1) := by decide +kernel
theorem dX9_opens_2 : decode cX9_opens 2 = .ok (.iconst 0, 1) := by decide +kernel
theorem dX9_opens_3 : decode cX9_opens 3 = .ok (.istore_n 2, 1) := by decide +kernel
theorem dX9_opens_4 : decode cX9_opens 4 = .ok (.iload_n 2, 1) := by decide +kernel
theorem dX9_opens_5 : decode cX9_opens 5 = .ok (.aload_n 0, 1) := by decide +kernel
theorem dX9_opens_6 : decode cX9_opens 6 = .ok (.getfield 116, 3) := by decide +kernel
theorem dX9_opens_9 : decode cX9_opens 9 = .ok (.if_icmp .ge 27, 3) := by decide +kernel
theorem dX9_opens_12 : decode cX9_opens 12 = .ok (.iload_n 1, 1) := by decide +kernel
theorem dX9_opens_13 : decode cX9_opens 13 = .ok (.aload_n 0, 1) := by decide +kernel
theorem dX9_opens_14 : decode cX9_opens 14 = .ok (.getfield 50, 3) := by decide +kernel
theorem dX9_opens_17 : decode cX9_opens 17 = .ok (.iload_n 2, 1) := by decide +kernel
theorem dX9_opens_18 : decode cX9_opens 18 = .ok (.iaload, 1) := by decide +kernel
theorem dX9_opens_19 : decode cX9_opens 19 = .ok (.iconst 1, 1) := by decide +kernel
theorem dX9_opens_20 : decode cX9_opens 20 = .ok (.if_icmp .ne 7, 3) := by decide +kernel
theorem dX9_opens_23 : decode cX9_opens 23 = .ok (.iconst 1, 1) := by decide +kernel
theorem dX9_opens_24 : decode cX9_opens 24 = .ok (.goto 4, 3) := by decide +kernel
theorem dX9_opens_27 : decode cX9_opens 27 = .ok (.iconst 0, 1) := by decide +kernel
theorem dX9_opens_28 : decode cX9_opens 28 = .ok (.iadd, 1) := by decide +kernel
theorem dX9_opens_29 : decode cX9_opens 29 = .ok (.istore_n 1, 1) := by decide +kernel
theorem dX9_opens_30 : decode cX9_opens 30 = .ok (.iinc 2 1, 3) := by decide +kernel
theorem dX9_opens_33 : decode cX9_opens 33 = .ok (.goto (-29), 3) := by decide +kernel
theorem dX9_opens_36 : decode cX9_opens 36 = .ok (.iload_n 1, 1) := by decide +kernel
theorem dX9_opens_37 : decode cX9_opens 37 = .ok (.ireturn, 1) := by decide +kernel
theorem dX9_horizon_0 : decode cX9_horizon 0 = .ok (.aload_n 0, 1) := by decide +kernel
theorem dX9_horizon_1 : decode cX9_horizon 1 = .ok (.getfield 103, 3) := by decide +kernel
theorem dX9_horizon_4 : decode cX9_horizon 4 = .ok (.istore_n 1, 1) := by decide +kernel
theorem dX9_horizon_5 : decode cX9_horizon 5 = .ok (.iconst 0, 1) := by decide +kernel
theorem dX9_horizon_6 : decode cX9_horizon 6 = .ok (.istore_n 2, 1) := by decide +kernel
theorem dX9_horizon_7 : decode cX9_horizon 7 = .ok (.iload_n 2, 1) := by decide +kernel
theorem dX9_horizon_8 : decode cX9_horizon 8 = .ok (.aload_n 0, 1) := by decide +kernel
theorem dX9_horizon_9 : decode cX9_horizon 9 = .ok (.getfield 116, 3) := by decide +kernel
theorem dX9_horizon_12 : decode cX9_horizon 12 = .ok (.if_icmp .ge 40, 3) := by decide +kernel
theorem dX9_horizon_15 : decode cX9_horizon 15 = .ok (.aload_n 0, 1) := by decide +kernel
theorem dX9_horizon_16 : decode cX9_horizon 16 = .ok (.getfield 50, 3) := by decide +kernel
theorem dX9_horizon_19 : decode cX9_horizon 19 = .ok (.iload_n 2, 1) := by decide +kernel
theorem dX9_horizon_20 : decode cX9_horizon 20 = .ok (.iaload, 1) := by decide +kernel
theorem dX9_horizon_21 : decode cX9_horizon 21 = .ok (.iconst 1, 1) := by decide +kernel
theorem dX9_horizon_22 : decode cX9_horizon 22 = .ok (.if_icmp .ne 22, 3) := by decide +kernel
theorem dX9_horizon_25 : decode cX9_horizon 25 = .ok (.aload_n 0, 1) := by decide +kernel
theorem dX9_horizon_26 : decode cX9_horizon 26 = .ok (.getfield 53, 3) := by decide +kernel
theorem dX9_horizon_29 : decode cX9_horizon 29 = .ok (.iload_n 2, 1) := by decide +kernel
theorem dX9_horizon_30 : decode cX9_horizon 30 = .ok (.iaload, 1) := by decide +kernel
theorem dX9_horizon_31 : decode cX9_horizon 31 = .ok (.iload_n 1, 1) := by decide +kernel
theorem dX9_horizon_32 : decode cX9_horizon 32 = .ok (.if_icmp .ge 12, 3) := by decide +kernel
theorem dX9_horizon_35 : decode cX9_horizon 35 = .ok (.aload_n 0, 1) := by decide +kernel
theorem dX9_horizon_36 : decode cX9_horizon 36 = .ok (.getfield 53, 3) := by decide +kernel
theorem dX9_horizon_39 : decode cX9_horizon 39 = .ok (.iload_n 2, 1) := by decide +kernel
theorem dX9_horizon_40 : decode cX9_horizon 40 = .ok (.iaload, 1) := by decide +kernel
theorem dX9_horizon_41 : decode cX9_horizon 41 = .ok (.goto 4, 3) := by decide +kernel
theorem dX9_horizon_44 : decode cX9_horizon 44 = .ok (.iload_n 1, 1) := by decide +kernel
theorem dX9_horizon_45 : decode cX9_horizon 45 = .ok (.istore_n 1, 1) := by decide +kernel
theorem dX9_horizon_46 : decode cX9_horizon 46 = .ok (.iinc 2 1, 3) := by decide +kernel
theorem dX9_horizon_49 : decode cX9_horizon 49 = .ok (.goto (-42), 3) := by decide +kernel
theorem dX9_horizon_52 : decode cX9_horizon 52 = .ok (.iload_n 1, 1) := by decide +kernel
theorem dX9_horizon_53 : decode cX9_horizon 53 = .ok (.ireturn, 1) := by decide +kernel
theorem dX9_inFile_0 : decode cX9_inFile 0 = .ok (.iconst 0, 1) := by decide +kernel
theorem dX9_inFile_1 : decode cX9_inFile 1 = .ok (.istore_n 2, 1) := by decide +kernel
theorem dX9_inFile_2 : decode cX9_inFile 2 = .ok (.iconst 0, 1) := by decide +kernel
theorem dX9_inFile_3 : decode cX9_inFile 3 = .ok (.istore_n 3, 1) := by decide +kernel
theorem dX9_inFile_4 : decode cX9_inFile 4 = .ok (.iload_n 3, 1) := by decide +kernel
theorem dX9_inFile_5 : decode cX9_inFile 5 = .ok (.aload_n 0, 1) := by decide +kernel
theorem dX9_inFile_6 : decode cX9_inFile 6 = .ok (.getfield 106, 3) := by decide +kernel
theorem dX9_inFile_9 : decode cX9_inFile 9 = .ok (.if_icmp .ge 27, 3) := by decide +kernel
theorem dX9_inFile_12 : decode cX9_inFile 12 = .ok (.iload_n 2, 1) := by decide +kernel
theorem dX9_inFile_13 : decode cX9_inFile 13 = .ok (.aload_n 0, 1) := by decide +kernel
theorem dX9_inFile_14 : decode cX9_inFile 14 = .ok (.getfield 41, 3) := by decide +kernel
theorem dX9_inFile_17 : decode cX9_inFile 17 = .ok (.iload_n 3, 1) := by decide +kernel
theorem dX9_inFile_18 : decode cX9_inFile 18 = .ok (.iaload, 1) := by decide +kernel
theorem dX9_inFile_19 : decode cX9_inFile 19 = .ok (.iload_n 1, 1) := by decide +kernel
theorem dX9_inFile_20 : decode cX9_inFile 20 = .ok (.if_icmp .ne 7, 3) := by decide +kernel
theorem dX9_inFile_23 : decode cX9_inFile 23 = .ok (.iconst 1, 1) := by decide +kernel
theorem dX9_inFile_24 : decode cX9_inFile 24 = .ok (.goto 4, 3) := by decide +kernel
theorem dX9_inFile_27 : decode cX9_inFile 27 = .ok (.iconst 0, 1) := by decide +kernel
theorem dX9_inFile_28 : decode cX9_inFile 28 = .ok (.iadd, 1) := by decide +kernel
theorem dX9_inFile_29 : decode cX9_inFile 29 = .ok (.istore_n 2, 1) := by decide +kernel
theorem dX9_inFile_30 : decode cX9_inFile 30 = .ok (.iinc 3 1, 3) := by decide +kernel
theorem dX9_inFile_33 : decode cX9_inFile 33 = .ok (.goto (-29), 3) := by decide +kernel
theorem dX9_inFile_36 : decode cX9_inFile 36 = .ok (.iload_n 2, 1) := by decide +kernel
theorem dX9_inFile_37 : decode cX9_inFile 37 = .ok (.ireturn, 1) := by decide +kernel
theorem dX9_begin_0 : decode cX9_begin 0 = .ok (.aload_n 0, 1) := by decide +kernel
theorem dX9_begin_1 : decode cX9_begin 1 = .ok (.invokevirtual 119, 3) := by decide +kernel
theorem dX9_begin_4 : decode cX9_begin 4 = .ok (.iconst 5, 1) := by decide +kernel
theorem dX9_begin_5 : decode cX9_begin 5 = .ok (.if_icmp .eq 12, 3) := by decide +kernel
theorem dX9_begin_8 : decode cX9_begin 8 = .ok (.aload_n 0, 1) := by decide +kernel
theorem dX9_begin_9 : decode cX9_begin 9 = .ok (.getfield 116, 3) := by decide +kernel
theorem dX9_begin_12 : decode cX9_begin 12 = .ok (.bipush 60, 2) := by decide +kernel
theorem dX9_begin_14 : decode cX9_begin 14 = .ok (.if_icmp .ne 5, 3) := by decide +kernel
theorem dX9_begin_17 : decode cX9_begin 17 = .ok (.iconst (-1), 1) := by decide +kernel
theorem dX9_begin_18 : decode cX9_begin 18 = .ok (.ireturn, 1) := by decide +kernel
theorem dX9_begin_19 : decode cX9_begin 19 = .ok (.aload_n 0, 1) := by decide +kernel
theorem dX9_begin_20 : decode cX9_begin 20 = .ok (.getfield 50, 3) := by decide +kernel
theorem dX9_begin_23 : decode cX9_begin 23 = .ok (.aload_n 0, 1) := by decide +kernel
theorem dX9_begin_24 : decode cX9_begin 24 = .ok (.getfield 116, 3) := by decide +kernel
theorem dX9_begin_27 : decode cX9_begin 27 = .ok (.iconst 1, 1) := by decide +kernel
theorem dX9_begin_28 : decode cX9_begin 28 = .ok (.iastore, 1) := by decide +kernel
theorem dX9_begin_29 : decode cX9_begin 29 = .ok (.aload_n 0, 1) := by decide +kernel
theorem dX9_begin_30 : decode cX9_begin 30 = .ok (.getfield 53, 3) := by decide +kernel
theorem dX9_begin_33 : decode cX9_begin 33 = .ok (.aload_n 0, 1) := by decide +kernel
theorem dX9_begin_34 : decode cX9_begin 34 = .ok (.getfield 116, 3) := by decide +kernel
theorem dX9_begin_37 : decode cX9_begin 37 = .ok (.aload_n 0, 1) := by decide +kernel
theorem dX9_begin_38 : decode cX9_begin 38 = .ok (.getfield 103, 3) := by decide +kernel
theorem dX9_begin_41 : decode cX9_begin 41 = .ok (.iastore, 1) := by decide +kernel
theorem dX9_begin_42 : decode cX9_begin 42 = .ok (.aload_n 0, 1) := by decide +kernel
theorem dX9_begin_43 : decode cX9_begin 43 = .ok (.dup, 1) := by decide +kernel
theorem dX9_begin_44 : decode cX9_begin 44 = .ok (.getfield 116, 3) := by decide +kernel
theorem dX9_begin_47 : decode cX9_begin 47 = .ok (.iconst 1, 1) := by decide +kernel
theorem dX9_begin_48 : decode cX9_begin 48 = .ok (.iadd, 1) := by decide +kernel
theorem dX9_begin_49 : decode cX9_begin 49 = .ok (.putfield 116, 3) := by decide +kernel
theorem dX9_begin_52 : decode cX9_begin 52 = .ok (.aload_n 0, 1) := by decide +kernel
theorem dX9_begin_53 : decode cX9_begin 53 = .ok (.getfield 116, 3) := by decide +kernel
theorem dX9_begin_56 : decode cX9_begin 56 = .ok (.iconst 1, 1) := by decide +kernel
theorem dX9_begin_57 : decode cX9_begin 57 = .ok (.isub, 1) := by decide +kernel
theorem dX9_begin_58 : decode cX9_begin 58 = .ok (.ireturn, 1) := by decide +kernel
theorem dX9_read_0 : decode cX9_read 0 = .ok (.aload_n 0, 1) := by decide +kernel
theorem dX9_read_1 : decode cX9_read 1 = .ok (.iload_n 1, 1) := by decide +kernel
theorem dX9_read_2 : decode cX9_read 2 = .ok (.invokevirtual 123, 3) := by decide +kernel
theorem dX9_read_5 : decode cX9_read 5 = .ok (.ifCond .eq 19, 3) := by decide +kernel
theorem dX9_read_8 : decode cX9_read 8 = .ok (.iload_n 2, 1) := by decide +kernel
theorem dX9_read_9 : decode cX9_read 9 = .ok (.invokestatic 126, 3) := by decide +kernel
theorem dX9_read_12 : decode cX9_read 12 = .ok (.ifCond .eq 12, 3) := by decide +kernel
theorem dX9_read_15 : decode cX9_read 15 = .ok (.iload_n 3, 1) := by decide +kernel
theorem dX9_read_16 : decode cX9_read 16 = .ok (.ifCond .lt 8, 3) := by decide +kernel
theorem dX9_read_19 : decode cX9_read 19 = .ok (.iload_n 3, 1) := by decide +kernel
theorem dX9_read_20 : decode cX9_read 20 = .ok (.iconst 3, 1) := by decide +kernel
theorem dX9_read_21 : decode cX9_read 21 = .ok (.if_icmp .le 5, 3) := by decide +kernel
theorem dX9_read_24 : decode cX9_read 24 = .ok (.iconst (-1), 1) := by decide +kernel
theorem dX9_read_25 : decode cX9_read 25 = .ok (.ireturn, 1) := by decide +kernel
theorem dX9_read_26 : decode cX9_read 26 = .ok (.aload_n 0, 1) := by decide +kernel
theorem dX9_read_27 : decode cX9_read 27 = .ok (.iload_n 1, 1) := by decide +kernel
theorem dX9_read_28 : decode cX9_read 28 = .ok (.iload_n 2, 1) := by decide +kernel
theorem dX9_read_29 : decode cX9_read 29 = .ok (.invokevirtual 129, 3) := by decide +kernel
theorem dX9_read_32 : decode cX9_read 32 = .ok (.istore 4, 2) := by decide +kernel
theorem dX9_read_34 : decode cX9_read 34 = .ok (.iload_n 3, 1) := by decide +kernel
theorem dX9_read_35 : decode cX9_read 35 = .ok (.iconst 3, 1) := by decide +kernel
theorem dX9_read_36 : decode cX9_read 36 = .ok (.if_icmp .ne 16, 3) := by decide +kernel
theorem dX9_read_39 : decode cX9_read 39 = .ok (.iload 4, 2) := by decide +kernel
theorem dX9_read_41 : decode cX9_read 41 = .ok (.ifCond .eq 7, 3) := by decide +kernel
theorem dX9_read_44 : decode cX9_read 44 = .ok (.iconst 1, 1) := by decide +kernel
theorem dX9_read_45 : decode cX9_read 45 = .ok (.goto 13, 3) := by decide +kernel
theorem dX9_read_48 : decode cX9_read 48 = .ok (.iconst 0, 1) := by decide +kernel
theorem dX9_read_49 : decode cX9_read 49 = .ok (.goto 9, 3) := by decide +kernel
theorem dX9_read_52 : decode cX9_read 52 = .ok (.aload_n 0, 1) := by decide +kernel
theorem dX9_read_53 : decode cX9_read 53 = .ok (.getfield 62, 3) := by decide +kernel
theorem dX9_read_56 : decode cX9_read 56 = .ok (.iload_n 3, 1) := by decide +kernel
theorem dX9_read_57 : decode cX9_read 57 = .ok (.iaload, 1) := by decide +kernel
theorem dX9_read_58 : decode cX9_read 58 = .ok (.ireturn, 1) := by decide +kernel
theorem dX9_write_0 : decode cX9_write 0 = .ok (.aload_n 0, 1) := by decide +kernel
theorem dX9_write_1 : decode cX9_write 1 = .ok (.iload_n 1, 1) := by decide +kernel
theorem dX9_write_2 : decode cX9_write 2 = .ok (.invokevirtual 123, 3) := by decide +kernel
theorem dX9_write_5 : decode cX9_write 5 = .ok (.ifCond .eq 29, 3) := by decide +kernel
theorem dX9_write_8 : decode cX9_write 8 = .ok (.iload_n 2, 1) := by decide +kernel
theorem dX9_write_9 : decode cX9_write 9 = .ok (.invokestatic 126, 3) := by decide +kernel
theorem dX9_write_12 : decode cX9_write 12 = .ok (.ifCond .eq 22, 3) := by decide +kernel
theorem dX9_write_15 : decode cX9_write 15 = .ok (.iload 4, 2) := by decide +kernel
theorem dX9_write_17 : decode cX9_write 17 = .ok (.ifCond .lt 17, 3) := by decide +kernel
theorem dX9_write_20 : decode cX9_write 20 = .ok (.iload 4, 2) := by decide +kernel
theorem dX9_write_22 : decode cX9_write 22 = .ok (.iconst 1, 1) := by decide +kernel
theorem dX9_write_23 : decode cX9_write 23 = .ok (.if_icmp .gt 11, 3) := by decide +kernel
theorem dX9_write_26 : decode cX9_write 26 = .ok (.iload 5, 2) := by decide +kernel
theorem dX9_write_28 : decode cX9_write 28 = .ok (.invokestatic 81, 3) := by decide +kernel
theorem dX9_write_31 : decode cX9_write 31 = .ok (.ifCond .ne 5, 3) := by decide +kernel
theorem dX9_write_34 : decode cX9_write 34 = .ok (.iconst 0, 1) := by decide +kernel
theorem dX9_write_35 : decode cX9_write 35 = .ok (.ireturn, 1) := by decide +kernel
theorem dX9_write_36 : decode cX9_write 36 = .ok (.aload_n 0, 1) := by decide +kernel
theorem dX9_write_37 : decode cX9_write 37 = .ok (.getfield 56, 3) := by decide +kernel
theorem dX9_write_40 : decode cX9_write 40 = .ok (.bipush 32, 2) := by decide +kernel
theorem dX9_write_42 : decode cX9_write 42 = .ok (.iload_n 1, 1) := by decide +kernel
theorem dX9_write_43 : decode cX9_write 43 = .ok (.imul, 1) := by decide +kernel
theorem dX9_write_44 : decode cX9_write 44 = .ok (.iload_n 2, 1) := by decide +kernel
theorem dX9_write_45 : decode cX9_write 45 = .ok (.iadd, 1) := by decide +kernel
theorem dX9_write_46 : decode cX9_write 46 = .ok (.iconst 1, 1) := by decide +kernel
theorem dX9_write_47 : decode cX9_write 47 = .ok (.iastore, 1) := by decide +kernel
theorem dX9_write_48 : decode cX9_write 48 = .ok (.aload_n 0, 1) := by decide +kernel
theorem dX9_write_49 : decode cX9_write 49 = .ok (.getfield 59, 3) := by decide +kernel
theorem dX9_write_52 : decode cX9_write 52 = .ok (.iconst 3, 1) := by decide +kernel
theorem dX9_write_53 : decode cX9_write 53 = .ok (.bipush 32, 2) := by decide +kernel
theorem dX9_write_55 : decode cX9_write 55 = .ok (.iload_n 1, 1) := by decide +kernel
theorem dX9_write_56 : decode cX9_write 56 = .ok (.imul, 1) := by decide +kernel
theorem dX9_write_57 : decode cX9_write 57 = .ok (.iload_n 2, 1) := by decide +kernel
theorem dX9_write_58 : decode cX9_write 58 = .ok (.iadd, 1) := by decide +kernel
theorem dX9_write_59 : decode cX9_write 59 = .ok (.imul, 1) := by decide +kernel
theorem dX9_write_60 : decode cX9_write 60 = .ok (.iload_n 3, 1) := by decide +kernel
theorem dX9_write_61 : decode cX9_write 61 = .ok (.iastore, 1) := by decide +kernel
theorem dX9_write_62 : decode cX9_write 62 = .ok (.aload_n 0, 1) := by decide +kernel
theorem dX9_write_63 : decode cX9_write 63 = .ok (.getfield 59, 3) := by decide +kernel
theorem dX9_write_66 : decode cX9_write 66 = .ok (.iconst 3, 1) := by decide +kernel
theorem dX9_write_67 : decode cX9_write 67 = .ok (.bipush 32, 2) := by decide +kernel
theorem dX9_write_69 : decode cX9_write 69 = .ok (.iload_n 1, 1) := by decide +kernel
theorem dX9_write_70 : decode cX9_write 70 = .ok (.imul, 1) := by decide +kernel
theorem dX9_write_71 : decode cX9_write 71 = .ok (.iload_n 2, 1) := by decide +kernel
theorem dX9_write_72 : decode cX9_write 72 = .ok (.iadd, 1) := by decide +kernel
theorem dX9_write_73 : decode cX9_write 73 = .ok (.imul, 1) := by decide +kernel
theorem dX9_write_74 : decode cX9_write 74 = .ok (.iconst 1, 1) := by decide +kernel
theorem dX9_write_75 : decode cX9_write 75 = .ok (.iadd, 1) := by decide +kernel
theorem dX9_write_76 : decode cX9_write 76 = .ok (.iload 4, 2) := by decide +kernel
theorem dX9_write_78 : decode cX9_write 78 = .ok (.iastore, 1) := by decide +kernel
theorem dX9_write_79 : decode cX9_write 79 = .ok (.aload_n 0, 1) := by decide +kernel
theorem dX9_write_80 : decode cX9_write 80 = .ok (.getfield 59, 3) := by decide +kernel
theorem dX9_write_83 : decode cX9_write 83 = .ok (.iconst 3, 1) := by decide +kernel
theorem dX9_write_84 : decode cX9_write 84 = .ok (.bipush 32, 2) := by decide +kernel
theorem dX9_write_86 : decode cX9_write 86 = .ok (.iload_n 1, 1) := by decide +kernel
theorem dX9_write_87 : decode cX9_write 87 = .ok (.imul, 1) := by decide +kernel
theorem dX9_write_88 : decode cX9_write 88 = .ok (.iload_n 2, 1) := by decide +kernel
theorem dX9_write_89 : decode cX9_write 89 = .ok (.iadd, 1) := by decide +kernel
theorem dX9_write_90 : decode cX9_write 90 = .ok (.imul, 1) := by decide +kernel
theorem dX9_write_91 : decode cX9_write 91 = .ok (.iconst 2, 1) := by decide +kernel
theorem dX9_write_92 : decode cX9_write 92 = .ok (.iadd, 1) := by decide +kernel
theorem dX9_write_93 : decode cX9_write 93 = .ok (.iload 5, 2) := by decide +kernel
theorem dX9_write_95 : decode cX9_write 95 = .ok (.iastore, 1) := by decide +kernel
theorem dX9_write_96 : decode cX9_write 96 = .ok (.iconst 1, 1) := by decide +kernel
theorem dX9_write_97 : decode cX9_write 97 = .ok (.ireturn, 1) := by decide +kernel
theorem dX9_remove_0 : decode cX9_remove 0 = .ok (.aload_n 0, 1) := by decide +kernel
theorem dX9_remove_1 : decode cX9_remove 1 = .ok (.iload_n 1, 1) := by decide +kernel
theorem dX9_remove_2 : decode cX9_remove 2 = .ok (.invokevirtual 123, 3) := by decide +kernel
theorem dX9_remove_5 : decode cX9_remove 5 = .ok (.ifCond .eq 10, 3) := by decide +kernel
theorem dX9_remove_8 : decode cX9_remove 8 = .ok (.iload_n 2, 1) := by decide +kernel
theorem dX9_remove_9 : decode cX9_remove 9 = .ok (.invokestatic 126, 3) := by decide +kernel
theorem dX9_remove_12 : decode cX9_remove 12 = .ok (.ifCond .ne 5, 3) := by decide +kernel
theorem dX9_remove_15 : decode cX9_remove 15 = .ok (.iconst 0, 1) := by decide +kernel
theorem dX9_remove_16 : decode cX9_remove 16 = .ok (.ireturn, 1) := by decide +kernel
theorem dX9_remove_17 : decode cX9_remove 17 = .ok (.aload_n 0, 1) := by decide +kernel
theorem dX9_remove_18 : decode cX9_remove 18 = .ok (.getfield 56, 3) := by decide +kernel
theorem dX9_remove_21 : decode cX9_remove 21 = .ok (.bipush 32, 2) := by decide +kernel
theorem dX9_remove_23 : decode cX9_remove 23 = .ok (.iload_n 1, 1) := by decide +kernel
theorem dX9_remove_24 : decode cX9_remove 24 = .ok (.imul, 1) := by decide +kernel
theorem dX9_remove_25 : decode cX9_remove 25 = .ok (.iload_n 2, 1) := by decide +kernel
theorem dX9_remove_26 : decode cX9_remove 26 = .ok (.iadd, 1) := by decide +kernel
theorem dX9_remove_27 : decode cX9_remove 27 = .ok (.iconst 2, 1) := by decide +kernel
theorem dX9_remove_28 : decode cX9_remove 28 = .ok (.iastore, 1) := by decide +kernel
theorem dX9_remove_29 : decode cX9_remove 29 = .ok (.iconst 1, 1) := by decide +kernel
theorem dX9_remove_30 : decode cX9_remove 30 = .ok (.ireturn, 1) := by decide +kernel
theorem dX9_beaten_0 : decode cX9_beaten 0 = .ok (.iconst 0, 1) := by decide +kernel
theorem dX9_beaten_1 : decode cX9_beaten 1 = .ok (.istore_n 2, 1) := by decide +kernel
theorem dX9_beaten_2 : decode cX9_beaten 2 = .ok (.iconst 0, 1) := by decide +kernel
theorem dX9_beaten_3 : decode cX9_beaten 3 = .ok (.istore_n 3, 1) := by decide +kernel
theorem dX9_beaten_4 : decode cX9_beaten 4 = .ok (.iload_n 3, 1) := by decide +kernel
theorem dX9_beaten_5 : decode cX9_beaten 5 = .ok (.aload_n 0, 1) := by decide +kernel
theorem dX9_beaten_6 : decode cX9_beaten 6 = .ok (.getfield 106, 3) := by decide +kernel
theorem dX9_beaten_9 : decode cX9_beaten 9 = .ok (.if_icmp .ge 62, 3) := by decide +kernel
theorem dX9_beaten_12 : decode cX9_beaten 12 = .ok (.iload_n 2, 1) := by decide +kernel
theorem dX9_beaten_13 : decode cX9_beaten 13 = .ok (.ifCond .ne 46, 3) := by decide +kernel
theorem dX9_beaten_16 : decode cX9_beaten 16 = .ok (.aload_n 0, 1) := by decide +kernel
theorem dX9_beaten_17 : decode cX9_beaten 17 = .ok (.getfield 23, 3) := by decide +kernel
theorem dX9_beaten_20 : decode cX9_beaten 20 = .ok (.iload_n 3, 1) := by decide +kernel
theorem dX9_beaten_21 : decode cX9_beaten 21 = .ok (.iaload, 1) := by decide +kernel
theorem dX9_beaten_22 : decode cX9_beaten 22 = .ok (.ifCond .ne 41, 3) := by decide +kernel
theorem dX9_beaten_25 : decode cX9_beaten 25 = .ok (.aload_n 0, 1) := by decide +kernel
theorem dX9_beaten_26 : decode cX9_beaten 26 = .ok (.getfield 32, 3) := by decide +kernel
theorem dX9_beaten_29 : decode cX9_beaten 29 = .ok (.iload_n 3, 1) := by decide +kernel
theorem dX9_beaten_30 : decode cX9_beaten 30 = .ok (.iaload, 1) := by decide +kernel
theorem dX9_beaten_31 : decode cX9_beaten 31 = .ok (.aload_n 0, 1) := by decide +kernel
theorem dX9_beaten_32 : decode cX9_beaten 32 = .ok (.getfield 53, 3) := by decide +kernel
theorem dX9_beaten_35 : decode cX9_beaten 35 = .ok (.iload_n 1, 1) := by decide +kernel
theorem dX9_beaten_36 : decode cX9_beaten 36 = .ok (.iaload, 1) := by decide +kernel
theorem dX9_beaten_37 : decode cX9_beaten 37 = .ok (.if_icmp .le 26, 3) := by decide +kernel
theorem dX9_beaten_40 : decode cX9_beaten 40 = .ok (.aload_n 0, 1) := by decide +kernel
theorem dX9_beaten_41 : decode cX9_beaten 41 = .ok (.getfield 56, 3) := by decide +kernel
theorem dX9_beaten_44 : decode cX9_beaten 44 = .ok (.bipush 32, 2) := by decide +kernel
theorem dX9_beaten_46 : decode cX9_beaten 46 = .ok (.iload_n 1, 1) := by decide +kernel
theorem dX9_beaten_47 : decode cX9_beaten 47 = .ok (.imul, 1) := by decide +kernel
theorem dX9_beaten_48 : decode cX9_beaten 48 = .ok (.aload_n 0, 1) := by decide +kernel
theorem dX9_beaten_49 : decode cX9_beaten 49 = .ok (.getfield 29, 3) := by decide +kernel
theorem dX9_beaten_52 : decode cX9_beaten 52 = .ok (.iload_n 3, 1) := by decide +kernel
theorem dX9_beaten_53 : decode cX9_beaten 53 = .ok (.iaload, 1) := by decide +kernel
theorem dX9_beaten_54 : decode cX9_beaten 54 = .ok (.iadd, 1) := by decide +kernel
theorem dX9_beaten_55 : decode cX9_beaten 55 = .ok (.iaload, 1) := by decide +kernel
theorem dX9_beaten_56 : decode cX9_beaten 56 = .ok (.ifCond .le 7, 3) := by decide +kernel
theorem dX9_beaten_59 : decode cX9_beaten 59 = .ok (.iconst 1, 1) := by decide +kernel
theorem dX9_beaten_60 : decode cX9_beaten 60 = .ok (.goto 4, 3) := by decide +kernel
theorem dX9_beaten_63 : decode cX9_beaten 63 = .ok (.iconst 0, 1) := by decide +kernel
theorem dX9_beaten_64 : decode cX9_beaten 64 = .ok (.istore_n 2, 1) := by decide +kernel
theorem dX9_beaten_65 : decode cX9_beaten 65 = .ok (.iinc 3 1, 3) := by decide +kernel
theorem dX9_beaten_68 : decode cX9_beaten 68 = .ok (.goto (-64), 3) := by decide +kernel
theorem dX9_beaten_71 : decode cX9_beaten 71 = .ok (.iload_n 2, 1) := by decide +kernel
theorem dX9_beaten_72 : decode cX9_beaten 72 = .ok (.ireturn, 1) := by decide +kernel
theorem dX9_reads_0 : decode cX9_reads 0 = .ok (.iconst 1, 1) := by decide +kernel
theorem dX9_reads_1 : decode cX9_reads 1 = .ok (.istore_n 2, 1) := by decide +kernel
theorem dX9_reads_2 : decode cX9_reads 2 = .ok (.iconst 0, 1) := by decide +kernel
theorem dX9_reads_3 : decode cX9_reads 3 = .ok (.istore_n 3, 1) := by decide +kernel
theorem dX9_reads_4 : decode cX9_reads 4 = .ok (.iload_n 3, 1) := by decide +kernel
theorem dX9_reads_5 : decode cX9_reads 5 = .ok (.bipush 32, 2) := by decide +kernel
theorem dX9_reads_7 : decode cX9_reads 7 = .ok (.if_icmp .ge 33, 3) := by decide +kernel
theorem dX9_reads_10 : decode cX9_reads 10 = .ok (.iload_n 2, 1) := by decide +kernel
theorem dX9_reads_11 : decode cX9_reads 11 = .ok (.ifCond .eq 21, 3) := by decide +kernel
theorem dX9_reads_14 : decode cX9_reads 14 = .ok (.aload_n 0, 1) := by decide +kernel
theorem dX9_reads_15 : decode cX9_reads 15 = .ok (.getfield 56, 3) := by decide +kernel
theorem dX9_reads_18 : decode cX9_reads 18 = .ok (.bipush 32, 2) := by decide +kernel
theorem dX9_reads_20 : decode cX9_reads 20 = .ok (.iload_n 1, 1) := by decide +kernel
theorem dX9_reads_21 : decode cX9_reads 21 = .ok (.imul, 1) := by decide +kernel
theorem dX9_reads_22 : decode cX9_reads 22 = .ok (.iload_n 3, 1) := by decide +kernel
theorem dX9_reads_23 : decode cX9_reads 23 = .ok (.iadd, 1) := by decide +kernel
theorem dX9_reads_24 : decode cX9_reads 24 = .ok (.iaload, 1) := by decide +kernel
theorem dX9_reads_25 : decode cX9_reads 25 = .ok (.ifCond .ne 7, 3) := by decide +kernel
theorem dX9_reads_28 : decode cX9_reads 28 = .ok (.iconst 1, 1) := by decide +kernel
theorem dX9_reads_29 : decode cX9_reads 29 = .ok (.goto 4, 3) := by decide +kernel
theorem dX9_reads_32 : decode cX9_reads 32 = .ok (.iconst 0, 1) := by decide +kernel
theorem dX9_reads_33 : decode cX9_reads 33 = .ok (.istore_n 2, 1) := by decide +kernel
theorem dX9_reads_34 : decode cX9_reads 34 = .ok (.iinc 3 1, 3) := by decide +kernel
theorem dX9_reads_37 : decode cX9_reads 37 = .ok (.goto (-33), 3) := by decide +kernel
theorem dX9_reads_40 : decode cX9_reads 40 = .ok (.iload_n 2, 1) := by decide +kernel
theorem dX9_reads_41 : decode cX9_reads 41 = .ok (.ireturn, 1) := by decide +kernel
theorem dX9_entry_0 : decode cX9_entry 0 = .ok (.aload_n 0, 1) := by decide +kernel
theorem dX9_entry_1 : decode cX9_entry 1 = .ok (.getfield 23, 3) := by decide +kernel
theorem dX9_entry_4 : decode cX9_entry 4 = .ok (.aload_n 0, 1) := by decide +kernel
theorem dX9_entry_5 : decode cX9_entry 5 = .ok (.getfield 106, 3) := by decide +kernel
theorem dX9_entry_8 : decode cX9_entry 8 = .ok (.iload_n 1, 1) := by decide +kernel
theorem dX9_entry_9 : decode cX9_entry 9 = .ok (.iastore, 1) := by decide +kernel
theorem dX9_entry_10 : decode cX9_entry 10 = .ok (.aload_n 0, 1) := by decide +kernel
theorem dX9_entry_11 : decode cX9_entry 11 = .ok (.getfield 26, 3) := by decide +kernel
theorem dX9_entry_14 : decode cX9_entry 14 = .ok (.aload_n 0, 1) := by decide +kernel
theorem dX9_entry_15 : decode cX9_entry 15 = .ok (.getfield 106, 3) := by decide +kernel
theorem dX9_entry_18 : decode cX9_entry 18 = .ok (.iload_n 2, 1) := by decide +kernel
theorem dX9_entry_19 : decode cX9_entry 19 = .ok (.iastore, 1) := by decide +kernel
theorem dX9_entry_20 : decode cX9_entry 20 = .ok (.aload_n 0, 1) := by decide +kernel
theorem dX9_entry_21 : decode cX9_entry 21 = .ok (.getfield 29, 3) := by decide +kernel
theorem dX9_entry_24 : decode cX9_entry 24 = .ok (.aload_n 0, 1) := by decide +kernel
theorem dX9_entry_25 : decode cX9_entry 25 = .ok (.getfield 106, 3) := by decide +kernel
theorem dX9_entry_28 : decode cX9_entry 28 = .ok (.iload_n 3, 1) := by decide +kernel
theorem dX9_entry_29 : decode cX9_entry 29 = .ok (.iastore, 1) := by decide +kernel
theorem dX9_entry_30 : decode cX9_entry 30 = .ok (.aload_n 0, 1) := by decide +kernel
theorem dX9_entry_31 : decode cX9_entry 31 = .ok (.getfield 32, 3) := by decide +kernel
theorem dX9_entry_34 : decode cX9_entry 34 = .ok (.aload_n 0, 1) := by decide +kernel
theorem dX9_entry_35 : decode cX9_entry 35 = .ok (.getfield 106, 3) := by decide +kernel
theorem dX9_entry_38 : decode cX9_entry 38 = .ok (.aload_n 0, 1) := by decide +kernel
theorem dX9_entry_39 : decode cX9_entry 39 = .ok (.getfield 103, 3) := by decide +kernel
theorem dX9_entry_42 : decode cX9_entry 42 = .ok (.iconst 1, 1) := by decide +kernel
theorem dX9_entry_43 : decode cX9_entry 43 = .ok (.iadd, 1) := by decide +kernel
theorem dX9_entry_44 : decode cX9_entry 44 = .ok (.iastore, 1) := by decide +kernel
theorem dX9_entry_45 : decode cX9_entry 45 = .ok (.aload_n 0, 1) := by decide +kernel
theorem dX9_entry_46 : decode cX9_entry 46 = .ok (.getfield 35, 3) := by decide +kernel
theorem dX9_entry_49 : decode cX9_entry 49 = .ok (.aload_n 0, 1) := by decide +kernel
theorem dX9_entry_50 : decode cX9_entry 50 = .ok (.getfield 106, 3) := by decide +kernel
theorem dX9_entry_53 : decode cX9_entry 53 = .ok (.iload 4, 2) := by decide +kernel
theorem dX9_entry_55 : decode cX9_entry 55 = .ok (.bastore, 1) := by decide +kernel
theorem dX9_entry_56 : decode cX9_entry 56 = .ok (.aload_n 0, 1) := by decide +kernel
theorem dX9_entry_57 : decode cX9_entry 57 = .ok (.getfield 41, 3) := by decide +kernel
theorem dX9_entry_60 : decode cX9_entry 60 = .ok (.aload_n 0, 1) := by decide +kernel
theorem dX9_entry_61 : decode cX9_entry 61 = .ok (.getfield 106, 3) := by decide +kernel
theorem dX9_entry_64 : decode cX9_entry 64 = .ok (.iconst 0, 1) := by decide +kernel
theorem dX9_entry_65 : decode cX9_entry 65 = .ok (.iastore, 1) := by decide +kernel
theorem dX9_entry_66 : decode cX9_entry 66 = .ok (.iconst 0, 1) := by decide +kernel
theorem dX9_entry_67 : decode cX9_entry 67 = .ok (.istore 5, 2) := by decide +kernel
theorem dX9_entry_69 : decode cX9_entry 69 = .ok (.iload 5, 2) := by decide +kernel
theorem dX9_entry_71 : decode cX9_entry 71 = .ok (.iconst 3, 1) := by decide +kernel
theorem dX9_entry_72 : decode cX9_entry 72 = .ok (.if_icmp .ge 30, 3) := by decide +kernel
theorem dX9_entry_75 : decode cX9_entry 75 = .ok (.aload_n 0, 1) := by decide +kernel
theorem dX9_entry_76 : decode cX9_entry 76 = .ok (.getfield 38, 3) := by decide +kernel
theorem dX9_entry_79 : decode cX9_entry 79 = .ok (.iconst 3, 1) := by decide +kernel
theorem dX9_entry_80 : decode cX9_entry 80 = .ok (.aload_n 0, 1) := by decide +kernel
theorem dX9_entry_81 : decode cX9_entry 81 = .ok (.getfield 106, 3) := by decide +kernel
theorem dX9_entry_84 : decode cX9_entry 84 = .ok (.imul, 1) := by decide +kernel
theorem dX9_entry_85 : decode cX9_entry 85 = .ok (.iload 5, 2) := by decide +kernel
theorem dX9_entry_87 : decode cX9_entry 87 = .ok (.iadd, 1) := by decide +kernel
theorem dX9_entry_88 : decode cX9_entry 88 = .ok (.aload_n 0, 1) := by decide +kernel
theorem dX9_entry_89 : decode cX9_entry 89 = .ok (.getfield 62, 3) := by decide +kernel
theorem dX9_entry_92 : decode cX9_entry 92 = .ok (.iload 5, 2) := by decide +kernel
theorem dX9_entry_94 : decode cX9_entry 94 = .ok (.iaload, 1) := by decide +kernel
theorem dX9_entry_95 : decode cX9_entry 95 = .ok (.iastore, 1) := by decide +kernel
theorem dX9_entry_96 : decode cX9_entry 96 = .ok (.iinc 5 1, 3) := by decide +kernel
theorem dX9_entry_99 : decode cX9_entry 99 = .ok (.goto (-30), 3) := by decide +kernel
theorem dX9_entry_102 : decode cX9_entry 102 = .ok (.aload_n 0, 1) := by decide +kernel
theorem dX9_entry_103 : decode cX9_entry 103 = .ok (.dup, 1) := by decide +kernel
theorem dX9_entry_104 : decode cX9_entry 104 = .ok (.getfield 106, 3) := by decide +kernel
theorem dX9_entry_107 : decode cX9_entry 107 = .ok (.iconst 1, 1) := by decide +kernel
theorem dX9_entry_108 : decode cX9_entry 108 = .ok (.iadd, 1) := by decide +kernel
theorem dX9_entry_109 : decode cX9_entry 109 = .ok (.putfield 106, 3) := by decide +kernel
theorem dX9_entry_112 : decode cX9_entry 112 = .ok (.return_, 1) := by decide +kernel
theorem dX9_batch_0 : decode cX9_batch 0 = .ok (.iconst 0, 1) := by decide +kernel
theorem dX9_batch_1 : decode cX9_batch 1 = .ok (.istore_n 3, 1) := by decide +kernel
theorem dX9_batch_2 : decode cX9_batch 2 = .ok (.iconst 0, 1) := by decide +kernel
theorem dX9_batch_3 : decode cX9_batch 3 = .ok (.istore 4, 2) := by decide +kernel
theorem dX9_batch_5 : decode cX9_batch 5 = .ok (.iload 4, 2) := by decide +kernel
theorem dX9_batch_7 : decode cX9_batch 7 = .ok (.bipush 32, 2) := by decide +kernel
theorem dX9_batch_9 : decode cX9_batch 9 = .ok (.if_icmp .ge 231, 3) := by decide +kernel
theorem dX9_batch_12 : decode cX9_batch 12 = .ok (.aload_n 0, 1) := by decide +kernel
theorem dX9_batch_13 : decode cX9_batch 13 = .ok (.getfield 56, 3) := by decide +kernel
theorem dX9_batch_16 : decode cX9_batch 16 = .ok (.bipush 32, 2) := by decide +kernel
theorem dX9_batch_18 : decode cX9_batch 18 = .ok (.iload_n 1, 1) := by decide +kernel
theorem dX9_batch_19 : decode cX9_batch 19 = .ok (.imul, 1) := by decide +kernel
theorem dX9_batch_20 : decode cX9_batch 20 = .ok (.iload 4, 2) := by decide +kernel
theorem dX9_batch_22 : decode cX9_batch 22 = .ok (.iadd, 1) := by decide +kernel
theorem dX9_batch_23 : decode cX9_batch 23 = .ok (.iaload, 1) := by decide +kernel
theorem dX9_batch_24 : decode cX9_batch 24 = .ok (.istore 5, 2) := by decide +kernel
theorem dX9_batch_26 : decode cX9_batch 26 = .ok (.iload 5, 2) := by decide +kernel
theorem dX9_batch_28 : decode cX9_batch 28 = .ok (.ifCond .le 206, 3) := by decide +kernel
theorem dX9_batch_31 : decode cX9_batch 31 = .ok (.iinc 3 1, 3) := by decide +kernel
theorem dX9_batch_34 : decode cX9_batch 34 = .ok (.iconst 0, 1) := by decide +kernel
theorem dX9_batch_35 : decode cX9_batch 35 = .ok (.istore 6, 2) := by decide +kernel
theorem dX9_batch_37 : decode cX9_batch 37 = .ok (.iload 6, 2) := by decide +kernel
theorem dX9_batch_39 : decode cX9_batch 39 = .ok (.aload_n 0, 1) := by decide +kernel
theorem dX9_batch_40 : decode cX9_batch 40 = .ok (.getfield 100, 3) := by decide +kernel
theorem dX9_batch_43 : decode cX9_batch 43 = .ok (.if_icmp .ge 168, 3) := by decide +kernel
theorem dX9_batch_46 : decode cX9_batch 46 = .ok (.aload_n 0, 1) := by decide +kernel
theorem dX9_batch_47 : decode cX9_batch 47 = .ok (.iload 4, 2) := by decide +kernel
theorem dX9_batch_49 : decode cX9_batch 49 = .ok (.aload_n 0, 1) := by decide +kernel
theorem dX9_batch_50 : decode cX9_batch 50 = .ok (.getfield 103, 3) := by decide +kernel
theorem dX9_batch_53 : decode cX9_batch 53 = .ok (.invokevirtual 113, 3) := by decide +kernel
theorem dX9_batch_56 : decode cX9_batch 56 = .ok (.istore 7, 2) := by decide +kernel
theorem dX9_batch_58 : decode cX9_batch 58 = .ok (.aload_n 0, 1) := by decide +kernel
theorem dX9_batch_59 : decode cX9_batch 59 = .ok (.bipush 8, 2) := by decide +kernel
theorem dX9_batch_61 : decode cX9_batch 61 = .ok (.iload 6, 2) := by decide +kernel
theorem dX9_batch_63 : decode cX9_batch 63 = .ok (.iadd, 1) := by decide +kernel
theorem dX9_batch_64 : decode cX9_batch 64 = .ok (.invokevirtual 132, 3) := by decide +kernel
theorem dX9_batch_67 : decode cX9_batch 67 = .ok (.istore 8, 2) := by decide +kernel
theorem dX9_batch_69 : decode cX9_batch 69 = .ok (.aload_n 0, 1) := by decide +kernel
theorem dX9_batch_70 : decode cX9_batch 70 = .ok (.iload_n 1, 1) := by decide +kernel
theorem dX9_batch_71 : decode cX9_batch 71 = .ok (.iload 4, 2) := by decide +kernel
theorem dX9_batch_73 : decode cX9_batch 73 = .ok (.invokevirtual 129, 3) := by decide +kernel
theorem dX9_batch_76 : decode cX9_batch 76 = .ok (.istore 9, 2) := by decide +kernel
theorem dX9_batch_78 : decode cX9_batch 78 = .ok (.aload_n 0, 1) := by decide +kernel
theorem dX9_batch_79 : decode cX9_batch 79 = .ok (.bipush 8, 2) := by decide +kernel
theorem dX9_batch_81 : decode cX9_batch 81 = .ok (.iload 6, 2) := by decide +kernel
theorem dX9_batch_83 : decode cX9_batch 83 = .ok (.iadd, 1) := by decide +kernel
theorem dX9_batch_84 : decode cX9_batch 84 = .ok (.invokevirtual 132, 3) := by decide +kernel
theorem dX9_batch_87 : decode cX9_batch 87 = .ok (.istore 10, 2) := by decide +kernel
theorem dX9_batch_89 : decode cX9_batch 89 = .ok (.iload 7, 2) := by decide +kernel
theorem dX9_batch_91 : decode cX9_batch 91 = .ok (.ifCond .eq 19, 3) := by decide +kernel
theorem dX9_batch_94 : decode cX9_batch 94 = .ok (.iload 9, 2) := by decide +kernel
theorem dX9_batch_96 : decode cX9_batch 96 = .ok (.ifCond .eq 10, 3) := by decide +kernel
theorem dX9_batch_99 : decode cX9_batch 99 = .ok (.iload 10, 2) := by decide +kernel
theorem dX9_batch_101 : decode cX9_batch 101 = .ok (.iload 8, 2) := by decide +kernel
theorem dX9_batch_103 : decode cX9_batch 103 = .ok (.if_icmp .eq 7, 3) := by decide +kernel
theorem dX9_batch_106 : decode cX9_batch 106 = .ok (.iconst 1, 1) := by decide +kernel
theorem dX9_batch_107 : decode cX9_batch 107 = .ok (.goto 4, 3) := by decide +kernel
theorem dX9_batch_110 : decode cX9_batch 110 = .ok (.iconst 0, 1) := by decide +kernel
theorem dX9_batch_111 : decode cX9_batch 111 = .ok (.istore 11, 2) := by decide +kernel
theorem dX9_batch_113 : decode cX9_batch 113 = .ok (.iload 9, 2) := by decide +kernel
theorem dX9_batch_115 : decode cX9_batch 115 = .ok (.ifCond .eq 19, 3) := by decide +kernel
theorem dX9_batch_118 : decode cX9_batch 118 = .ok (.iload 7, 2) := by decide +kernel
theorem dX9_batch_120 : decode cX9_batch 120 = .ok (.ifCond .eq 10, 3) := by decide +kernel
theorem dX9_batch_123 : decode cX9_batch 123 = .ok (.iload 10, 2) := by decide +kernel
theorem dX9_batch_125 : decode cX9_batch 125 = .ok (.iload 8, 2) := by decide +kernel
theorem dX9_batch_127 : decode cX9_batch 127 = .ok (.if_icmp .eq 7, 3) := by decide +kernel
theorem dX9_batch_130 : decode cX9_batch 130 = .ok (.iconst 1, 1) := by decide +kernel
theorem dX9_batch_131 : decode cX9_batch 131 = .ok (.goto 4, 3) := by decide +kernel
theorem dX9_batch_134 : decode cX9_batch 134 = .ok (.iconst 0, 1) := by decide +kernel
theorem dX9_batch_135 : decode cX9_batch 135 = .ok (.istore 12, 2) := by decide +kernel
theorem dX9_batch_137 : decode cX9_batch 137 = .ok (.iload_n 3, 1) := by decide +kernel
theorem dX9_batch_138 : decode cX9_batch 138 = .ok (.iload 11, 2) := by decide +kernel
theorem dX9_batch_140 : decode cX9_batch 140 = .ok (.ifCond .eq 7, 3) := by decide +kernel
theorem dX9_batch_143 : decode cX9_batch 143 = .ok (.iconst 1, 1) := by decide +kernel
theorem dX9_batch_144 : decode cX9_batch 144 = .ok (.goto 4, 3) := by decide +kernel
theorem dX9_batch_147 : decode cX9_batch 147 = .ok (.iconst 0, 1) := by decide +kernel
theorem dX9_batch_148 : decode cX9_batch 148 = .ok (.iload 12, 2) := by decide +kernel
theorem dX9_batch_150 : decode cX9_batch 150 = .ok (.ifCond .eq 7, 3) := by decide +kernel
theorem dX9_batch_153 : decode cX9_batch 153 = .ok (.iconst 1, 1) := by decide +kernel
theorem dX9_batch_154 : decode cX9_batch 154 = .ok (.goto 4, 3) := by decide +kernel
theorem dX9_batch_157 : decode cX9_batch 157 = .ok (.iconst 0, 1) := by decide +kernel
theorem dX9_batch_158 : decode cX9_batch 158 = .ok (.iadd, 1) := by decide +kernel
theorem dX9_batch_159 : decode cX9_batch 159 = .ok (.iadd, 1) := by decide +kernel
theorem dX9_batch_160 : decode cX9_batch 160 = .ok (.istore_n 3, 1) := by decide +kernel
theorem dX9_batch_161 : decode cX9_batch 161 = .ok (.iload_n 2, 1) := by decide +kernel
theorem dX9_batch_162 : decode cX9_batch 162 = .ok (.ifCond .eq 21, 3) := by decide +kernel
theorem dX9_batch_165 : decode cX9_batch 165 = .ok (.iload 11, 2) := by decide +kernel
theorem dX9_batch_167 : decode cX9_batch 167 = .ok (.ifCond .eq 16, 3) := by decide +kernel
theorem dX9_batch_170 : decode cX9_batch 170 = .ok (.aload_n 0, 1) := by decide +kernel
theorem dX9_batch_171 : decode cX9_batch 171 = .ok (.iload 6, 2) := by decide +kernel
theorem dX9_batch_173 : decode cX9_batch 173 = .ok (.iconst 1, 1) := by decide +kernel
theorem dX9_batch_174 : decode cX9_batch 174 = .ok (.iadd, 1) := by decide +kernel
theorem dX9_batch_175 : decode cX9_batch 175 = .ok (.iload 8, 2) := by decide +kernel
theorem dX9_batch_177 : decode cX9_batch 177 = .ok (.iload 4, 2) := by decide +kernel
theorem dX9_batch_179 : decode cX9_batch 179 = .ok (.iconst 0, 1) := by decide +kernel
theorem dX9_batch_180 : decode cX9_batch 180 = .ok (.invokevirtual 134, 3) := by decide +kernel
theorem dX9_batch_183 : decode cX9_batch 183 = .ok (.iload_n 2, 1) := by decide +kernel
theorem dX9_batch_184 : decode cX9_batch 184 = .ok (.ifCond .eq 21, 3) := by decide +kernel
theorem dX9_batch_187 : decode cX9_batch 187 = .ok (.iload 12, 2) := by decide +kernel
theorem dX9_batch_189 : decode cX9_batch 189 = .ok (.ifCond .eq 16, 3) := by decide +kernel
theorem dX9_batch_192 : decode cX9_batch 192 = .ok (.aload_n 0, 1) := by decide +kernel
theorem dX9_batch_193 : decode cX9_batch 193 = .ok (.iload 6, 2) := by decide +kernel
theorem dX9_batch_195 : decode cX9_batch 195 = .ok (.iconst 1, 1) := by decide +kernel
theorem dX9_batch_196 : decode cX9_batch 196 = .ok (.iadd, 1) := by decide +kernel
theorem dX9_batch_197 : decode cX9_batch 197 = .ok (.iload 10, 2) := by decide +kernel
theorem dX9_batch_199 : decode cX9_batch 199 = .ok (.iload 4, 2) := by decide +kernel
theorem dX9_batch_201 : decode cX9_batch 201 = .ok (.iconst 1, 1) := by decide +kernel
theorem dX9_batch_202 : decode cX9_batch 202 = .ok (.invokevirtual 134, 3) := by decide +kernel
theorem dX9_batch_205 : decode cX9_batch 205 = .ok (.iinc 6 1, 3) := by decide +kernel
theorem dX9_batch_208 : decode cX9_batch 208 = .ok (.goto (-171), 3) := by decide +kernel
theorem dX9_batch_211 : decode cX9_batch 211 = .ok (.aload_n 0, 1) := by decide +kernel
theorem dX9_batch_212 : decode cX9_batch 212 = .ok (.iload_n 1, 1) := by decide +kernel
theorem dX9_batch_213 : decode cX9_batch 213 = .ok (.iload 4, 2) := by decide +kernel
theorem dX9_batch_215 : decode cX9_batch 215 = .ok (.invokevirtual 129, 3) := by decide +kernel
theorem dX9_batch_218 : decode cX9_batch 218 = .ok (.istore 6, 2) := by decide +kernel
theorem dX9_batch_220 : decode cX9_batch 220 = .ok (.iload_n 2, 1) := by decide +kernel
theorem dX9_batch_221 : decode cX9_batch 221 = .ok (.ifCond .eq 13, 3) := by decide +kernel
theorem dX9_batch_224 : decode cX9_batch 224 = .ok (.aload_n 0, 1) := by decide +kernel
theorem dX9_batch_225 : decode cX9_batch 225 = .ok (.iconst 0, 1) := by decide +kernel
theorem dX9_batch_226 : decode cX9_batch 226 = .ok (.iconst 0, 1) := by decide +kernel
theorem dX9_batch_227 : decode cX9_batch 227 = .ok (.iload 4, 2) := by decide +kernel
theorem dX9_batch_229 : decode cX9_batch 229 = .ok (.iload 6, 2) := by decide +kernel
theorem dX9_batch_231 : decode cX9_batch 231 = .ok (.invokevirtual 134, 3) := by decide +kernel
theorem dX9_batch_234 : decode cX9_batch 234 = .ok (.iinc 4 1, 3) := by decide +kernel
theorem dX9_batch_237 : decode cX9_batch 237 = .ok (.goto (-232), 3) := by decide +kernel
theorem dX9_batch_240 : decode cX9_batch 240 = .ok (.iload_n 3, 1) := by decide +kernel
theorem dX9_batch_241 : decode cX9_batch 241 = .ok (.ireturn, 1) := by decide +kernel
theorem dX9_comes_0 : decode cX9_comes 0 = .ok (.aload_n 0, 1) := by decide +kernel
theorem dX9_comes_1 : decode cX9_comes 1 = .ok (.iload_n 1, 1) := by decide +kernel
theorem dX9_comes_2 : decode cX9_comes 2 = .ok (.iconst 1, 1) := by decide +kernel
theorem dX9_comes_3 : decode cX9_comes 3 = .ok (.invokevirtual 138, 3) := by decide +kernel
theorem dX9_comes_6 : decode cX9_comes 6 = .ok (.pop, 1) := by decide +kernel
theorem dX9_comes_7 : decode cX9_comes 7 = .ok (.aload_n 0, 1) := by decide +kernel
theorem dX9_comes_8 : decode cX9_comes 8 = .ok (.dup, 1) := by decide +kernel
theorem dX9_comes_9 : decode cX9_comes 9 = .ok (.getfield 103, 3) := by decide +kernel
theorem dX9_comes_12 : decode cX9_comes 12 = .ok (.iconst 1, 1) := by decide +kernel
theorem dX9_comes_13 : decode cX9_comes 13 = .ok (.iadd, 1) := by decide +kernel
theorem dX9_comes_14 : decode cX9_comes 14 = .ok (.putfield 103, 3) := by decide +kernel
theorem dX9_comes_17 : decode cX9_comes 17 = .ok (.aload_n 0, 1) := by decide +kernel
theorem dX9_comes_18 : decode cX9_comes 18 = .ok (.getfield 50, 3) := by decide +kernel
theorem dX9_comes_21 : decode cX9_comes 21 = .ok (.iload_n 1, 1) := by decide +kernel
theorem dX9_comes_22 : decode cX9_comes 22 = .ok (.iconst 2, 1) := by decide +kernel
theorem dX9_comes_23 : decode cX9_comes 23 = .ok (.iastore, 1) := by decide +kernel
theorem dX9_comes_24 : decode cX9_comes 24 = .ok (.return_, 1) := by decide +kernel
theorem dX9_commit_0 : decode cX9_commit 0 = .ok (.aload_n 0, 1) := by decide +kernel
theorem dX9_commit_1 : decode cX9_commit 1 = .ok (.iload_n 1, 1) := by decide +kernel
theorem dX9_commit_2 : decode cX9_commit 2 = .ok (.invokevirtual 123, 3) := by decide +kernel
theorem dX9_commit_5 : decode cX9_commit 5 = .ok (.ifCond .ne 5, 3) := by decide +kernel
theorem dX9_commit_8 : decode cX9_commit 8 = .ok (.iconst (-1), 1) := by decide +kernel
theorem dX9_commit_9 : decode cX9_commit 9 = .ok (.ireturn, 1) := by decide +kernel
theorem dX9_commit_10 : decode cX9_commit 10 = .ok (.aload_n 0, 1) := by decide +kernel
theorem dX9_commit_11 : decode cX9_commit 11 = .ok (.iload_n 1, 1) := by decide +kernel
theorem dX9_commit_12 : decode cX9_commit 12 = .ok (.invokevirtual 142, 3) := by decide +kernel
theorem dX9_commit_15 : decode cX9_commit 15 = .ok (.ifCond .eq 13, 3) := by decide +kernel
theorem dX9_commit_18 : decode cX9_commit 18 = .ok (.aload_n 0, 1) := by decide +kernel
theorem dX9_commit_19 : decode cX9_commit 19 = .ok (.getfield 50, 3) := by decide +kernel
theorem dX9_commit_22 : decode cX9_commit 22 = .ok (.iload_n 1, 1) := by decide +kernel
theorem dX9_commit_23 : decode cX9_commit 23 = .ok (.iconst 3, 1) := by decide +kernel
theorem dX9_commit_24 : decode cX9_commit 24 = .ok (.iastore, 1) := by decide +kernel
theorem dX9_commit_25 : decode cX9_commit 25 = .ok (.bipush (-2), 2) := by decide +kernel
theorem dX9_commit_27 : decode cX9_commit 27 = .ok (.ireturn, 1) := by decide +kernel
theorem dX9_commit_28 : decode cX9_commit 28 = .ok (.aload_n 0, 1) := by decide +kernel
theorem dX9_commit_29 : decode cX9_commit 29 = .ok (.iload_n 1, 1) := by decide +kernel
theorem dX9_commit_30 : decode cX9_commit 30 = .ok (.invokevirtual 145, 3) := by decide +kernel
theorem dX9_commit_33 : decode cX9_commit 33 = .ok (.ifCond .eq 17, 3) := by decide +kernel
theorem dX9_commit_36 : decode cX9_commit 36 = .ok (.aload_n 0, 1) := by decide +kernel
theorem dX9_commit_37 : decode cX9_commit 37 = .ok (.getfield 50, 3) := by decide +kernel
theorem dX9_commit_40 : decode cX9_commit 40 = .ok (.iload_n 1, 1) := by decide +kernel
theorem dX9_commit_41 : decode cX9_commit 41 = .ok (.iconst 2, 1) := by decide +kernel
theorem dX9_commit_42 : decode cX9_commit 42 = .ok (.iastore, 1) := by decide +kernel
theorem dX9_commit_43 : decode cX9_commit 43 = .ok (.aload_n 0, 1) := by decide +kernel
theorem dX9_commit_44 : decode cX9_commit 44 = .ok (.getfield 53, 3) := by decide +kernel
theorem dX9_commit_47 : decode cX9_commit 47 = .ok (.iload_n 1, 1) := by decide +kernel
theorem dX9_commit_48 : decode cX9_commit 48 = .ok (.iaload, 1) := by decide +kernel
theorem dX9_commit_49 : decode cX9_commit 49 = .ok (.ireturn, 1) := by decide +kernel
theorem dX9_commit_50 : decode cX9_commit 50 = .ok (.aload_n 0, 1) := by decide +kernel
theorem dX9_commit_51 : decode cX9_commit 51 = .ok (.iload_n 1, 1) := by decide +kernel
theorem dX9_commit_52 : decode cX9_commit 52 = .ok (.iconst 0, 1) := by decide +kernel
theorem dX9_commit_53 : decode cX9_commit 53 = .ok (.invokevirtual 138, 3) := by decide +kernel
theorem dX9_commit_56 : decode cX9_commit 56 = .ok (.istore_n 2, 1) := by decide +kernel
theorem dX9_commit_57 : decode cX9_commit 57 = .ok (.aload_n 0, 1) := by decide +kernel
theorem dX9_commit_58 : decode cX9_commit 58 = .ok (.getfield 106, 3) := by decide +kernel
theorem dX9_commit_61 : decode cX9_commit 61 = .ok (.iload_n 2, 1) := by decide +kernel
theorem dX9_commit_62 : decode cX9_commit 62 = .ok (.iadd, 1) := by decide +kernel
theorem dX9_commit_63 : decode cX9_commit 63 = .ok (.sipush 500, 3) := by decide +kernel
theorem dX9_commit_66 : decode cX9_commit 66 = .ok (.if_icmp .le 6, 3) := by decide +kernel
theorem dX9_commit_69 : decode cX9_commit 69 = .ok (.bipush (-3), 2) := by decide +kernel
theorem dX9_commit_71 : decode cX9_commit 71 = .ok (.ireturn, 1) := by decide +kernel
theorem dX9_commit_72 : decode cX9_commit 72 = .ok (.aload_n 0, 1) := by decide +kernel
theorem dX9_commit_73 : decode cX9_commit 73 = .ok (.iload_n 1, 1) := by decide +kernel
theorem dX9_commit_74 : decode cX9_commit 74 = .ok (.invokevirtual 148, 3) := by decide +kernel
theorem dX9_commit_77 : decode cX9_commit 77 = .ok (.aload_n 0, 1) := by decide +kernel
theorem dX9_commit_78 : decode cX9_commit 78 = .ok (.iconst 0, 1) := by decide +kernel
theorem dX9_commit_79 : decode cX9_commit 79 = .ok (.invokevirtual 152, 3) := by decide +kernel
theorem dX9_commit_82 : decode cX9_commit 82 = .ok (.bipush 20, 2) := by decide +kernel
theorem dX9_commit_84 : decode cX9_commit 84 = .ok (.if_icmp .lt 12, 3) := by decide +kernel
theorem dX9_commit_87 : decode cX9_commit 87 = .ok (.aload_n 0, 1) := by decide +kernel
theorem dX9_commit_88 : decode cX9_commit 88 = .ok (.invokevirtual 155, 3) := by decide +kernel
theorem dX9_commit_91 : decode cX9_commit 91 = .ok (.pop, 1) := by decide +kernel
theorem dX9_commit_92 : decode cX9_commit 92 = .ok (.aload_n 0, 1) := by decide +kernel
theorem dX9_commit_93 : decode cX9_commit 93 = .ok (.invokevirtual 158, 3) := by decide +kernel
theorem dX9_commit_96 : decode cX9_commit 96 = .ok (.aload_n 0, 1) := by decide +kernel
theorem dX9_commit_97 : decode cX9_commit 97 = .ok (.getfield 103, 3) := by decide +kernel
theorem dX9_commit_100 : decode cX9_commit 100 = .ok (.ireturn, 1) := by decide +kernel
theorem dX9_tear_0 : decode cX9_tear 0 = .ok (.aload_n 0, 1) := by decide +kernel
theorem dX9_tear_1 : decode cX9_tear 1 = .ok (.iload_n 1, 1) := by decide +kernel
theorem dX9_tear_2 : decode cX9_tear 2 = .ok (.invokevirtual 123, 3) := by decide +kernel
theorem dX9_tear_5 : decode cX9_tear 5 = .ok (.ifCond .eq 23, 3) := by decide +kernel
theorem dX9_tear_8 : decode cX9_tear 8 = .ok (.aload_n 0, 1) := by decide +kernel
theorem dX9_tear_9 : decode cX9_tear 9 = .ok (.iload_n 1, 1) := by decide +kernel
theorem dX9_tear_10 : decode cX9_tear 10 = .ok (.invokevirtual 145, 3) := by decide +kernel
theorem dX9_tear_13 : decode cX9_tear 13 = .ok (.ifCond .ne 15, 3) := by decide +kernel
theorem dX9_tear_16 : decode cX9_tear 16 = .ok (.aload_n 0, 1) := by decide +kernel
theorem dX9_tear_17 : decode cX9_tear 17 = .ok (.iload_n 1, 1) := by decide +kernel
theorem dX9_tear_18 : decode cX9_tear 18 = .ok (.invokevirtual 142, 3) := by decide +kernel
theorem dX9_tear_21 : decode cX9_tear 21 = .ok (.ifCond .ne 7, 3) := by decide +kernel
theorem dX9_tear_24 : decode cX9_tear 24 = .ok (.iload_n 2, 1) := by decide +kernel
theorem dX9_tear_25 : decode cX9_tear 25 = .ok (.ifCond .ge 5, 3) := by decide +kernel
theorem dX9_tear_28 : decode cX9_tear 28 = .ok (.iconst (-1), 1) := by decide +kernel
theorem dX9_tear_29 : decode cX9_tear 29 = .ok (.ireturn, 1) := by decide +kernel
theorem dX9_tear_30 : decode cX9_tear 30 = .ok (.aload_n 0, 1) := by decide +kernel
theorem dX9_tear_31 : decode cX9_tear 31 = .ok (.iload_n 1, 1) := by decide +kernel
theorem dX9_tear_32 : decode cX9_tear 32 = .ok (.iconst 0, 1) := by decide +kernel
theorem dX9_tear_33 : decode cX9_tear 33 = .ok (.invokevirtual 138, 3) := by decide +kernel
theorem dX9_tear_36 : decode cX9_tear 36 = .ok (.istore_n 3, 1) := by decide +kernel
theorem dX9_tear_37 : decode cX9_tear 37 = .ok (.aload_n 0, 1) := by decide +kernel
theorem dX9_tear_38 : decode cX9_tear 38 = .ok (.getfield 106, 3) := by decide +kernel
theorem dX9_tear_41 : decode cX9_tear 41 = .ok (.iload_n 3, 1) := by decide +kernel
theorem dX9_tear_42 : decode cX9_tear 42 = .ok (.iadd, 1) := by decide +kernel
theorem dX9_tear_43 : decode cX9_tear 43 = .ok (.sipush 500, 3) := by decide +kernel
theorem dX9_tear_46 : decode cX9_tear 46 = .ok (.if_icmp .le 5, 3) := by decide +kernel
theorem dX9_tear_49 : decode cX9_tear 49 = .ok (.iconst (-1), 1) := by decide +kernel
theorem dX9_tear_50 : decode cX9_tear 50 = .ok (.ireturn, 1) := by decide +kernel
theorem dX9_tear_51 : decode cX9_tear 51 = .ok (.iload_n 2, 1) := by decide +kernel
theorem dX9_tear_52 : decode cX9_tear 52 = .ok (.iload_n 3, 1) := by decide +kernel
theorem dX9_tear_53 : decode cX9_tear 53 = .ok (.if_icmp .le 7, 3) := by decide +kernel
theorem dX9_tear_56 : decode cX9_tear 56 = .ok (.iconst 1, 1) := by decide +kernel
theorem dX9_tear_57 : decode cX9_tear 57 = .ok (.goto 4, 3) := by decide +kernel
theorem dX9_tear_60 : decode cX9_tear 60 = .ok (.iconst 0, 1) := by decide +kernel
theorem dX9_tear_61 : decode cX9_tear 61 = .ok (.istore 4, 2) := by decide +kernel
theorem dX9_tear_63 : decode cX9_tear 63 = .ok (.iload 4, 2) := by decide +kernel
theorem dX9_tear_65 : decode cX9_tear 65 = .ok (.ifCond .eq 8, 3) := by decide +kernel
theorem dX9_tear_68 : decode cX9_tear 68 = .ok (.aload_n 0, 1) := by decide +kernel
theorem dX9_tear_69 : decode cX9_tear 69 = .ok (.iload_n 1, 1) := by decide +kernel
theorem dX9_tear_70 : decode cX9_tear 70 = .ok (.invokevirtual 148, 3) := by decide +kernel
theorem dX9_tear_73 : decode cX9_tear 73 = .ok (.aload_n 0, 1) := by decide +kernel
theorem dX9_tear_74 : decode cX9_tear 74 = .ok (.invokevirtual 161, 3) := by decide +kernel
theorem dX9_tear_77 : decode cX9_tear 77 = .ok (.istore 5, 2) := by decide +kernel
theorem dX9_tear_79 : decode cX9_tear 79 = .ok (.iload 4, 2) := by decide +kernel
theorem dX9_tear_81 : decode cX9_tear 81 = .ok (.ifCond .eq 12, 3) := by decide +kernel
theorem dX9_tear_84 : decode cX9_tear 84 = .ok (.iload 5, 2) := by decide +kernel
theorem dX9_tear_86 : decode cX9_tear 86 = .ok (.ifCond .lt 7, 3) := by decide +kernel
theorem dX9_tear_89 : decode cX9_tear 89 = .ok (.iconst 1, 1) := by decide +kernel
theorem dX9_tear_90 : decode cX9_tear 90 = .ok (.goto 4, 3) := by decide +kernel
theorem dX9_tear_93 : decode cX9_tear 93 = .ok (.iconst 0, 1) := by decide +kernel
theorem dX9_tear_94 : decode cX9_tear 94 = .ok (.ireturn, 1) := by decide +kernel
theorem dX9_abort_0 : decode cX9_abort 0 = .ok (.aload_n 0, 1) := by decide +kernel
theorem dX9_abort_1 : decode cX9_abort 1 = .ok (.iload_n 1, 1) := by decide +kernel
theorem dX9_abort_2 : decode cX9_abort 2 = .ok (.invokevirtual 123, 3) := by decide +kernel
theorem dX9_abort_5 : decode cX9_abort 5 = .ok (.ifCond .ne 5, 3) := by decide +kernel
theorem dX9_abort_8 : decode cX9_abort 8 = .ok (.iconst 0, 1) := by decide +kernel
theorem dX9_abort_9 : decode cX9_abort 9 = .ok (.ireturn, 1) := by decide +kernel
theorem dX9_abort_10 : decode cX9_abort 10 = .ok (.aload_n 0, 1) := by decide +kernel
theorem dX9_abort_11 : decode cX9_abort 11 = .ok (.getfield 50, 3) := by decide +kernel
theorem dX9_abort_14 : decode cX9_abort 14 = .ok (.iload_n 1, 1) := by decide +kernel
theorem dX9_abort_15 : decode cX9_abort 15 = .ok (.iconst 4, 1) := by decide +kernel
theorem dX9_abort_16 : decode cX9_abort 16 = .ok (.iastore, 1) := by decide +kernel
theorem dX9_abort_17 : decode cX9_abort 17 = .ok (.iconst 1, 1) := by decide +kernel
theorem dX9_abort_18 : decode cX9_abort 18 = .ok (.ireturn, 1) := by decide +kernel
theorem dX9_crash_0 : decode cX9_crash 0 = .ok (.iconst 0, 1) := by decide +kernel
theorem dX9_crash_1 : decode cX9_crash 1 = .ok (.istore_n 1, 1) := by decide +kernel
theorem dX9_crash_2 : decode cX9_crash 2 = .ok (.iconst 0, 1) := by decide +kernel
theorem dX9_crash_3 : decode cX9_crash 3 = .ok (.istore_n 2, 1) := by decide +kernel
theorem dX9_crash_4 : decode cX9_crash 4 = .ok (.iload_n 2, 1) := by decide +kernel
theorem dX9_crash_5 : decode cX9_crash 5 = .ok (.aload_n 0, 1) := by decide +kernel
theorem dX9_crash_6 : decode cX9_crash 6 = .ok (.getfield 116, 3) := by decide +kernel
theorem dX9_crash_9 : decode cX9_crash 9 = .ok (.if_icmp .ge 53, 3) := by decide +kernel
theorem dX9_crash_12 : decode cX9_crash 12 = .ok (.iload_n 1, 1) := by decide +kernel
theorem dX9_crash_13 : decode cX9_crash 13 = .ok (.aload_n 0, 1) := by decide +kernel
theorem dX9_crash_14 : decode cX9_crash 14 = .ok (.getfield 50, 3) := by decide +kernel
theorem dX9_crash_17 : decode cX9_crash 17 = .ok (.iload_n 2, 1) := by decide +kernel
theorem dX9_crash_18 : decode cX9_crash 18 = .ok (.iaload, 1) := by decide +kernel
theorem dX9_crash_19 : decode cX9_crash 19 = .ok (.iconst 1, 1) := by decide +kernel
theorem dX9_crash_20 : decode cX9_crash 20 = .ok (.if_icmp .ne 7, 3) := by decide +kernel
theorem dX9_crash_23 : decode cX9_crash 23 = .ok (.iconst 1, 1) := by decide +kernel
theorem dX9_crash_24 : decode cX9_crash 24 = .ok (.goto 4, 3) := by decide +kernel
theorem dX9_crash_27 : decode cX9_crash 27 = .ok (.iconst 0, 1) := by decide +kernel
theorem dX9_crash_28 : decode cX9_crash 28 = .ok (.iadd, 1) := by decide +kernel
theorem dX9_crash_29 : decode cX9_crash 29 = .ok (.istore_n 1, 1) := by decide +kernel
theorem dX9_crash_30 : decode cX9_crash 30 = .ok (.aload_n 0, 1) := by decide +kernel
theorem dX9_crash_31 : decode cX9_crash 31 = .ok (.getfield 50, 3) := by decide +kernel
theorem dX9_crash_34 : decode cX9_crash 34 = .ok (.iload_n 2, 1) := by decide +kernel
theorem dX9_crash_35 : decode cX9_crash 35 = .ok (.aload_n 0, 1) := by decide +kernel
theorem dX9_crash_36 : decode cX9_crash 36 = .ok (.getfield 50, 3) := by decide +kernel
theorem dX9_crash_39 : decode cX9_crash 39 = .ok (.iload_n 2, 1) := by decide +kernel
theorem dX9_crash_40 : decode cX9_crash 40 = .ok (.iaload, 1) := by decide +kernel
theorem dX9_crash_41 : decode cX9_crash 41 = .ok (.iconst 1, 1) := by decide +kernel
theorem dX9_crash_42 : decode cX9_crash 42 = .ok (.if_icmp .ne 7, 3) := by decide +kernel
theorem dX9_crash_45 : decode cX9_crash 45 = .ok (.iconst 5, 1) := by decide +kernel
theorem dX9_crash_46 : decode cX9_crash 46 = .ok (.goto 9, 3) := by decide +kernel
theorem dX9_crash_49 : decode cX9_crash 49 = .ok (.aload_n 0, 1) := by decide +kernel
theorem dX9_crash_50 : decode cX9_crash 50 = .ok (.getfield 50, 3) := by decide +kernel
theorem dX9_crash_53 : decode cX9_crash 53 = .ok (.iload_n 2, 1) := by decide +kernel
theorem dX9_crash_54 : decode cX9_crash 54 = .ok (.iaload, 1) := by decide +kernel
theorem dX9_crash_55 : decode cX9_crash 55 = .ok (.iastore, 1) := by decide +kernel
theorem dX9_crash_56 : decode cX9_crash 56 = .ok (.iinc 2 1, 3) := by decide +kernel
theorem dX9_crash_59 : decode cX9_crash 59 = .ok (.goto (-55), 3) := by decide +kernel
theorem dX9_crash_62 : decode cX9_crash 62 = .ok (.iload_n 1, 1) := by decide +kernel
theorem dX9_crash_63 : decode cX9_crash 63 = .ok (.ireturn, 1) := by decide +kernel
theorem dX9_addFile_0 : decode cX9_addFile 0 = .ok (.aload_n 0, 1) := by decide +kernel
theorem dX9_addFile_1 : decode cX9_addFile 1 = .ok (.dup, 1) := by decide +kernel
theorem dX9_addFile_2 : decode cX9_addFile 2 = .ok (.getfield 164, 3) := by decide +kernel
theorem dX9_addFile_5 : decode cX9_addFile 5 = .ok (.iconst 1, 1) := by decide +kernel
theorem dX9_addFile_6 : decode cX9_addFile 6 = .ok (.iadd, 1) := by decide +kernel
theorem dX9_addFile_7 : decode cX9_addFile 7 = .ok (.putfield 164, 3) := by decide +kernel
theorem dX9_addFile_10 : decode cX9_addFile 10 = .ok (.aload_n 0, 1) := by decide +kernel
theorem dX9_addFile_11 : decode cX9_addFile 11 = .ok (.getfield 44, 3) := by decide +kernel
theorem dX9_addFile_14 : decode cX9_addFile 14 = .ok (.aload_n 0, 1) := by decide +kernel
theorem dX9_addFile_15 : decode cX9_addFile 15 = .ok (.getfield 167, 3) := by decide +kernel
theorem dX9_addFile_18 : decode cX9_addFile 18 = .ok (.aload_n 0, 1) := by decide +kernel
theorem dX9_addFile_19 : decode cX9_addFile 19 = .ok (.getfield 164, 3) := by decide +kernel
theorem dX9_addFile_22 : decode cX9_addFile 22 = .ok (.iastore, 1) := by decide +kernel
theorem dX9_addFile_23 : decode cX9_addFile 23 = .ok (.aload_n 0, 1) := by decide +kernel
theorem dX9_addFile_24 : decode cX9_addFile 24 = .ok (.getfield 47, 3) := by decide +kernel
theorem dX9_addFile_27 : decode cX9_addFile 27 = .ok (.aload_n 0, 1) := by decide +kernel
theorem dX9_addFile_28 : decode cX9_addFile 28 = .ok (.getfield 167, 3) := by decide +kernel
theorem dX9_addFile_31 : decode cX9_addFile 31 = .ok (.iload_n 1, 1) := by decide +kernel
theorem dX9_addFile_32 : decode cX9_addFile 32 = .ok (.iastore, 1) := by decide +kernel
theorem dX9_addFile_33 : decode cX9_addFile 33 = .ok (.aload_n 0, 1) := by decide +kernel
theorem dX9_addFile_34 : decode cX9_addFile 34 = .ok (.dup, 1) := by decide +kernel
theorem dX9_addFile_35 : decode cX9_addFile 35 = .ok (.getfield 167, 3) := by decide +kernel
theorem dX9_addFile_38 : decode cX9_addFile 38 = .ok (.iconst 1, 1) := by decide +kernel
theorem dX9_addFile_39 : decode cX9_addFile 39 = .ok (.iadd, 1) := by decide +kernel
theorem dX9_addFile_40 : decode cX9_addFile 40 = .ok (.putfield 167, 3) := by decide +kernel
theorem dX9_addFile_43 : decode cX9_addFile 43 = .ok (.return_, 1) := by decide +kernel
theorem dX9_dropFile_0 : decode cX9_dropFile 0 = .ok (.aload_n 0, 1) := by decide +kernel
theorem dX9_dropFile_1 : decode cX9_dropFile 1 = .ok (.dup, 1) := by decide +kernel
theorem dX9_dropFile_2 : decode cX9_dropFile 2 = .ok (.getfield 167, 3) := by decide +kernel
theorem dX9_dropFile_5 : decode cX9_dropFile 5 = .ok (.iconst 1, 1) := by decide +kernel
theorem dX9_dropFile_6 : decode cX9_dropFile 6 = .ok (.isub, 1) := by decide +kernel
theorem dX9_dropFile_7 : decode cX9_dropFile 7 = .ok (.putfield 167, 3) := by decide +kernel
theorem dX9_dropFile_10 : decode cX9_dropFile 10 = .ok (.iload_n 1, 1) := by decide +kernel
theorem dX9_dropFile_11 : decode cX9_dropFile 11 = .ok (.istore_n 2, 1) := by decide +kernel
theorem dX9_dropFile_12 : decode cX9_dropFile 12 = .ok (.iload_n 2, 1) := by decide +kernel
theorem dX9_dropFile_13 : decode cX9_dropFile 13 = .ok (.aload_n 0, 1) := by decide +kernel
theorem dX9_dropFile_14 : decode cX9_dropFile 14 = .ok (.getfield 167, 3) := by decide +kernel
theorem dX9_dropFile_17 : decode cX9_dropFile 17 = .ok (.if_icmp .ge 37, 3) := by decide +kernel
theorem dX9_dropFile_20 : decode cX9_dropFile 20 = .ok (.aload_n 0, 1) := by decide +kernel
theorem dX9_dropFile_21 : decode cX9_dropFile 21 = .ok (.getfield 44, 3) := by decide +kernel
theorem dX9_dropFile_24 : decode cX9_dropFile 24 = .ok (.iload_n 2, 1) := by decide +kernel
theorem dX9_dropFile_25 : decode cX9_dropFile 25 = .ok (.aload_n 0, 1) := by decide +kernel
theorem dX9_dropFile_26 : decode cX9_dropFile 26 = .ok (.getfield 44, 3) := by decide +kernel
theorem dX9_dropFile_29 : decode cX9_dropFile 29 = .ok (.iload_n 2, 1) := by decide +kernel
theorem dX9_dropFile_30 : decode cX9_dropFile 30 = .ok (.iconst 1, 1) := by decide +kernel
theorem dX9_dropFile_31 : decode cX9_dropFile 31 = .ok (.iadd, 1) := by decide +kernel
theorem dX9_dropFile_32 : decode cX9_dropFile 32 = .ok (.iaload, 1) := by decide +kernel
theorem dX9_dropFile_33 : decode cX9_dropFile 33 = .ok (.iastore, 1) := by decide +kernel
theorem dX9_dropFile_34 : decode cX9_dropFile 34 = .ok (.aload_n 0, 1) := by decide +kernel
theorem dX9_dropFile_35 : decode cX9_dropFile 35 = .ok (.getfield 47, 3) := by decide +kernel
theorem dX9_dropFile_38 : decode cX9_dropFile 38 = .ok (.iload_n 2, 1) := by decide +kernel
theorem dX9_dropFile_39 : decode cX9_dropFile 39 = .ok (.aload_n 0, 1) := by decide +kernel
theorem dX9_dropFile_40 : decode cX9_dropFile 40 = .ok (.getfield 47, 3) := by decide +kernel
theorem dX9_dropFile_43 : decode cX9_dropFile 43 = .ok (.iload_n 2, 1) := by decide +kernel
theorem dX9_dropFile_44 : decode cX9_dropFile 44 = .ok (.iconst 1, 1) := by decide +kernel
theorem dX9_dropFile_45 : decode cX9_dropFile 45 = .ok (.iadd, 1) := by decide +kernel
theorem dX9_dropFile_46 : decode cX9_dropFile 46 = .ok (.iaload, 1) := by decide +kernel
theorem dX9_dropFile_47 : decode cX9_dropFile 47 = .ok (.iastore, 1) := by decide +kernel
theorem dX9_dropFile_48 : decode cX9_dropFile 48 = .ok (.iinc 2 1, 3) := by decide +kernel
theorem dX9_dropFile_51 : decode cX9_dropFile 51 = .ok (.goto (-39), 3) := by decide +kernel
theorem dX9_dropFile_54 : decode cX9_dropFile 54 = .ok (.return_, 1) := by decide +kernel
theorem dX9_flush_0 : decode cX9_flush 0 = .ok (.aload_n 0, 1) := by decide +kernel
theorem dX9_flush_1 : decode cX9_flush 1 = .ok (.iconst 0, 1) := by decide +kernel
theorem dX9_flush_2 : decode cX9_flush 2 = .ok (.invokevirtual 152, 3) := by decide +kernel
theorem dX9_flush_5 : decode cX9_flush 5 = .ok (.istore_n 1, 1) := by decide +kernel
theorem dX9_flush_6 : decode cX9_flush 6 = .ok (.iload_n 1, 1) := by decide +kernel
theorem dX9_flush_7 : decode cX9_flush 7 = .ok (.ifCond .le 52, 3) := by decide +kernel
theorem dX9_flush_10 : decode cX9_flush 10 = .ok (.aload_n 0, 1) := by decide +kernel
theorem dX9_flush_11 : decode cX9_flush 11 = .ok (.iconst 0, 1) := by decide +kernel
theorem dX9_flush_12 : decode cX9_flush 12 = .ok (.invokevirtual 170, 3) := by decide +kernel
theorem dX9_flush_15 : decode cX9_flush 15 = .ok (.iconst 0, 1) := by decide +kernel
theorem dX9_flush_16 : decode cX9_flush 16 = .ok (.istore_n 2, 1) := by decide +kernel
theorem dX9_flush_17 : decode cX9_flush 17 = .ok (.iload_n 2, 1) := by decide +kernel
theorem dX9_flush_18 : decode cX9_flush 18 = .ok (.aload_n 0, 1) := by decide +kernel
theorem dX9_flush_19 : decode cX9_flush 19 = .ok (.getfield 106, 3) := by decide +kernel
theorem dX9_flush_22 : decode cX9_flush 22 = .ok (.if_icmp .ge 37, 3) := by decide +kernel
theorem dX9_flush_25 : decode cX9_flush 25 = .ok (.aload_n 0, 1) := by decide +kernel
theorem dX9_flush_26 : decode cX9_flush 26 = .ok (.getfield 41, 3) := by decide +kernel
theorem dX9_flush_29 : decode cX9_flush 29 = .ok (.iload_n 2, 1) := by decide +kernel
theorem dX9_flush_30 : decode cX9_flush 30 = .ok (.aload_n 0, 1) := by decide +kernel
theorem dX9_flush_31 : decode cX9_flush 31 = .ok (.getfield 41, 3) := by decide +kernel
theorem dX9_flush_34 : decode cX9_flush 34 = .ok (.iload_n 2, 1) := by decide +kernel
theorem dX9_flush_35 : decode cX9_flush 35 = .ok (.iaload, 1) := by decide +kernel
theorem dX9_flush_36 : decode cX9_flush 36 = .ok (.ifCond .ne 10, 3) := by decide +kernel
theorem dX9_flush_39 : decode cX9_flush 39 = .ok (.aload_n 0, 1) := by decide +kernel
theorem dX9_flush_40 : decode cX9_flush 40 = .ok (.getfield 164, 3) := by decide +kernel
theorem dX9_flush_43 : decode cX9_flush 43 = .ok (.goto 9, 3) := by decide +kernel
theorem dX9_flush_46 : decode cX9_flush 46 = .ok (.aload_n 0, 1) := by decide +kernel
theorem dX9_flush_47 : decode cX9_flush 47 = .ok (.getfield 41, 3) := by decide +kernel
theorem dX9_flush_50 : decode cX9_flush 50 = .ok (.iload_n 2, 1) := by decide +kernel
theorem dX9_flush_51 : decode cX9_flush 51 = .ok (.iaload, 1) := by decide +kernel
theorem dX9_flush_52 : decode cX9_flush 52 = .ok (.iastore, 1) := by decide +kernel
theorem dX9_flush_53 : decode cX9_flush 53 = .ok (.iinc 2 1, 3) := by decide +kernel
theorem dX9_flush_56 : decode cX9_flush 56 = .ok (.goto (-39), 3) := by decide +kernel
theorem dX9_flush_59 : decode cX9_flush 59 = .ok (.iload_n 1, 1) := by decide +kernel
theorem dX9_flush_60 : decode cX9_flush 60 = .ok (.ireturn, 1) := by decide +kernel
theorem dX9_files_0 : decode cX9_files 0 = .ok (.iload_n 1, 1) := by decide +kernel
theorem dX9_files_1 : decode cX9_files 1 = .ok (.ifCond .lt 8, 3) := by decide +kernel
theorem dX9_files_4 : decode cX9_files 4 = .ok (.iload_n 1, 1) := by decide +kernel
theorem dX9_files_5 : decode cX9_files 5 = .ok (.iconst 2, 1) := by decide +kernel
theorem dX9_files_6 : decode cX9_files 6 = .ok (.if_icmp .le 5, 3) := by decide +kernel
theorem dX9_files_9 : decode cX9_files 9 = .ok (.iconst (-1), 1) := by decide +kernel
theorem dX9_files_10 : decode cX9_files 10 = .ok (.ireturn, 1) := by decide +kernel
theorem dX9_files_11 : decode cX9_files 11 = .ok (.iconst 0, 1) := by decide +kernel
theorem dX9_files_12 : decode cX9_files 12 = .ok (.istore_n 2, 1) := by decide +kernel
theorem dX9_files_13 : decode cX9_files 13 = .ok (.iconst 0, 1) := by decide +kernel
theorem dX9_files_14 : decode cX9_files 14 = .ok (.istore_n 3, 1) := by decide +kernel
theorem dX9_files_15 : decode cX9_files 15 = .ok (.iload_n 3, 1) := by decide +kernel
theorem dX9_files_16 : decode cX9_files 16 = .ok (.aload_n 0, 1) := by decide +kernel
theorem dX9_files_17 : decode cX9_files 17 = .ok (.getfield 167, 3) := by decide +kernel
theorem dX9_files_20 : decode cX9_files 20 = .ok (.if_icmp .ge 27, 3) := by decide +kernel
theorem dX9_files_23 : decode cX9_files 23 = .ok (.iload_n 2, 1) := by decide +kernel
theorem dX9_files_24 : decode cX9_files 24 = .ok (.aload_n 0, 1) := by decide +kernel
theorem dX9_files_25 : decode cX9_files 25 = .ok (.getfield 47, 3) := by decide +kernel
theorem dX9_files_28 : decode cX9_files 28 = .ok (.iload_n 3, 1) := by decide +kernel
theorem dX9_files_29 : decode cX9_files 29 = .ok (.iaload, 1) := by decide +kernel
theorem dX9_files_30 : decode cX9_files 30 = .ok (.iload_n 1, 1) := by decide +kernel
theorem dX9_files_31 : decode cX9_files 31 = .ok (.if_icmp .ne 7, 3) := by decide +kernel
theorem dX9_files_34 : decode cX9_files 34 = .ok (.iconst 1, 1) := by decide +kernel
theorem dX9_files_35 : decode cX9_files 35 = .ok (.goto 4, 3) := by decide +kernel
theorem dX9_files_38 : decode cX9_files 38 = .ok (.iconst 0, 1) := by decide +kernel
theorem dX9_files_39 : decode cX9_files 39 = .ok (.iadd, 1) := by decide +kernel
theorem dX9_files_40 : decode cX9_files 40 = .ok (.istore_n 2, 1) := by decide +kernel
theorem dX9_files_41 : decode cX9_files 41 = .ok (.iinc 3 1, 3) := by decide +kernel
theorem dX9_files_44 : decode cX9_files 44 = .ok (.goto (-29), 3) := by decide +kernel
theorem dX9_files_47 : decode cX9_files 47 = .ok (.iload_n 2, 1) := by decide +kernel
theorem dX9_files_48 : decode cX9_files 48 = .ok (.ireturn, 1) := by decide +kernel
theorem dX9_settle_0 : decode cX9_settle 0 = .ok (.iconst 0, 1) := by decide +kernel
theorem dX9_settle_1 : decode cX9_settle 1 = .ok (.istore_n 1, 1) := by decide +kernel
theorem dX9_settle_2 : decode cX9_settle 2 = .ok (.iload_n 1, 1) := by decide +kernel
theorem dX9_settle_3 : decode cX9_settle 3 = .ok (.sipush 600, 3) := by decide +kernel
theorem dX9_settle_6 : decode cX9_settle 6 = .ok (.if_icmp .ge 58, 3) := by decide +kernel
theorem dX9_settle_9 : decode cX9_settle 9 = .ok (.aload_n 0, 1) := by decide +kernel
theorem dX9_settle_10 : decode cX9_settle 10 = .ok (.iconst 0, 1) := by decide +kernel
theorem dX9_settle_11 : decode cX9_settle 11 = .ok (.invokevirtual 173, 3) := by decide +kernel
theorem dX9_settle_14 : decode cX9_settle 14 = .ok (.iconst 2, 1) := by decide +kernel
theorem dX9_settle_15 : decode cX9_settle 15 = .ok (.if_icmp .gt 12, 3) := by decide +kernel
theorem dX9_settle_18 : decode cX9_settle 18 = .ok (.aload_n 0, 1) := by decide +kernel
theorem dX9_settle_19 : decode cX9_settle 19 = .ok (.iconst 1, 1) := by decide +kernel
theorem dX9_settle_20 : decode cX9_settle 20 = .ok (.invokevirtual 173, 3) := by decide +kernel
theorem dX9_settle_23 : decode cX9_settle 23 = .ok (.iconst 3, 1) := by decide +kernel
theorem dX9_settle_24 : decode cX9_settle 24 = .ok (.if_icmp .le 40, 3) := by decide +kernel
theorem dX9_settle_27 : decode cX9_settle 27 = .ok (.aload_n 0, 1) := by decide +kernel
theorem dX9_settle_28 : decode cX9_settle 28 = .ok (.aload_n 0, 1) := by decide +kernel
theorem dX9_settle_29 : decode cX9_settle 29 = .ok (.iconst 0, 1) := by decide +kernel
theorem dX9_settle_30 : decode cX9_settle 30 = .ok (.invokevirtual 173, 3) := by decide +kernel
theorem dX9_settle_33 : decode cX9_settle 33 = .ok (.iconst 2, 1) := by decide +kernel
theorem dX9_settle_34 : decode cX9_settle 34 = .ok (.if_icmp .le 7, 3) := by decide +kernel
theorem dX9_settle_37 : decode cX9_settle 37 = .ok (.iconst 0, 1) := by decide +kernel
theorem dX9_settle_38 : decode cX9_settle 38 = .ok (.goto 4, 3) := by decide +kernel
theorem dX9_settle_41 : decode cX9_settle 41 = .ok (.iconst 1, 1) := by decide +kernel
theorem dX9_settle_42 : decode cX9_settle 42 = .ok (.invokevirtual 175, 3) := by decide +kernel
theorem dX9_settle_45 : decode cX9_settle 45 = .ok (.istore_n 2, 1) := by decide +kernel
theorem dX9_settle_46 : decode cX9_settle 46 = .ok (.iload_n 2, 1) := by decide +kernel
theorem dX9_settle_47 : decode cX9_settle 47 = .ok (.ifCond .ge 9, 3) := by decide +kernel
theorem dX9_settle_50 : decode cX9_settle 50 = .ok (.sipush 600, 3) := by decide +kernel
theorem dX9_settle_53 : decode cX9_settle 53 = .ok (.goto 4, 3) := by decide +kernel
theorem dX9_settle_56 : decode cX9_settle 56 = .ok (.iload_n 1, 1) := by decide +kernel
theorem dX9_settle_57 : decode cX9_settle 57 = .ok (.istore_n 1, 1) := by decide +kernel
theorem dX9_settle_58 : decode cX9_settle 58 = .ok (.iinc 1 1, 3) := by decide +kernel
theorem dX9_settle_61 : decode cX9_settle 61 = .ok (.goto (-59), 3) := by decide +kernel
theorem dX9_settle_64 : decode cX9_settle 64 = .ok (.return_, 1) := by decide +kernel
theorem dX9_compact_0 : decode cX9_compact 0 = .ok (.aload_n 0, 1) := by decide +kernel
theorem dX9_compact_1 : decode cX9_compact 1 = .ok (.iconst 0, 1) := by decide +kernel
theorem dX9_compact_2 : decode cX9_compact 2 = .ok (.invokevirtual 173, 3) := by decide +kernel
theorem dX9_compact_5 : decode cX9_compact 5 = .ok (.ifCond .le 11, 3) := by decide +kernel
theorem dX9_compact_8 : decode cX9_compact 8 = .ok (.aload_n 0, 1) := by decide +kernel
theorem dX9_compact_9 : decode cX9_compact 9 = .ok (.iconst 0, 1) := by decide +kernel
theorem dX9_compact_10 : decode cX9_compact 10 = .ok (.invokevirtual 175, 3) := by decide +kernel
theorem dX9_compact_13 : decode cX9_compact 13 = .ok (.goto 20, 3) := by decide +kernel
theorem dX9_compact_16 : decode cX9_compact 16 = .ok (.aload_n 0, 1) := by decide +kernel
theorem dX9_compact_17 : decode cX9_compact 17 = .ok (.iconst 1, 1) := by decide +kernel
theorem dX9_compact_18 : decode cX9_compact 18 = .ok (.invokevirtual 173, 3) := by decide +kernel
theorem dX9_compact_21 : decode cX9_compact 21 = .ok (.ifCond .le 11, 3) := by decide +kernel
theorem dX9_compact_24 : decode cX9_compact 24 = .ok (.aload_n 0, 1) := by decide +kernel
theorem dX9_compact_25 : decode cX9_compact 25 = .ok (.iconst 1, 1) := by decide +kernel
theorem dX9_compact_26 : decode cX9_compact 26 = .ok (.invokevirtual 175, 3) := by decide +kernel
theorem dX9_compact_29 : decode cX9_compact 29 = .ok (.goto 4, 3) := by decide +kernel
theorem dX9_compact_32 : decode cX9_compact 32 = .ok (.iconst (-1), 1) := by decide +kernel
theorem dX9_compact_33 : decode cX9_compact 33 = .ok (.ireturn, 1) := by decide +kernel
theorem dX9_places_0 : decode cX9_places 0 = .ok (.aload_n 0, 1) := by decide +kernel
theorem dX9_places_1 : decode cX9_places 1 = .ok (.getfield 23, 3) := by decide +kernel
theorem dX9_places_4 : decode cX9_places 4 = .ok (.iload_n 1, 1) := by decide +kernel
theorem dX9_places_5 : decode cX9_places 5 = .ok (.iaload, 1) := by decide +kernel
theorem dX9_places_6 : decode cX9_places 6 = .ok (.aload_n 0, 1) := by decide +kernel
theorem dX9_places_7 : decode cX9_places 7 = .ok (.getfield 23, 3) := by decide +kernel
theorem dX9_places_10 : decode cX9_places 10 = .ok (.iload_n 2, 1) := by decide +kernel
theorem dX9_places_11 : decode cX9_places 11 = .ok (.iaload, 1) := by decide +kernel
theorem dX9_places_12 : decode cX9_places 12 = .ok (.if_icmp .eq 24, 3) := by decide +kernel
theorem dX9_places_15 : decode cX9_places 15 = .ok (.aload_n 0, 1) := by decide +kernel
theorem dX9_places_16 : decode cX9_places 16 = .ok (.getfield 23, 3) := by decide +kernel
theorem dX9_places_19 : decode cX9_places 19 = .ok (.iload_n 1, 1) := by decide +kernel
theorem dX9_places_20 : decode cX9_places 20 = .ok (.iaload, 1) := by decide +kernel
theorem dX9_places_21 : decode cX9_places 21 = .ok (.aload_n 0, 1) := by decide +kernel
theorem dX9_places_22 : decode cX9_places 22 = .ok (.getfield 23, 3) := by decide +kernel
theorem dX9_places_25 : decode cX9_places 25 = .ok (.iload_n 2, 1) := by decide +kernel
theorem dX9_places_26 : decode cX9_places 26 = .ok (.iaload, 1) := by decide +kernel
theorem dX9_places_27 : decode cX9_places 27 = .ok (.if_icmp .ge 7, 3) := by decide +kernel
theorem dX9_places_30 : decode cX9_places 30 = .ok (.iconst (-1), 1) := by decide +kernel
theorem dX9_places_31 : decode cX9_places 31 = .ok (.goto 4, 3) := by decide +kernel
theorem dX9_places_34 : decode cX9_places 34 = .ok (.iconst 1, 1) := by decide +kernel
theorem dX9_places_35 : decode cX9_places 35 = .ok (.ireturn, 1) := by decide +kernel
theorem dX9_places_36 : decode cX9_places 36 = .ok (.aload_n 0, 1) := by decide +kernel
theorem dX9_places_37 : decode cX9_places 37 = .ok (.getfield 26, 3) := by decide +kernel
theorem dX9_places_40 : decode cX9_places 40 = .ok (.iload_n 1, 1) := by decide +kernel
theorem dX9_places_41 : decode cX9_places 41 = .ok (.iaload, 1) := by decide +kernel
theorem dX9_places_42 : decode cX9_places 42 = .ok (.aload_n 0, 1) := by decide +kernel
theorem dX9_places_43 : decode cX9_places 43 = .ok (.getfield 26, 3) := by decide +kernel
theorem dX9_places_46 : decode cX9_places 46 = .ok (.iload_n 2, 1) := by decide +kernel
theorem dX9_places_47 : decode cX9_places 47 = .ok (.iaload, 1) := by decide +kernel
theorem dX9_places_48 : decode cX9_places 48 = .ok (.if_icmp .eq 24, 3) := by decide +kernel
theorem dX9_places_51 : decode cX9_places 51 = .ok (.aload_n 0, 1) := by decide +kernel
theorem dX9_places_52 : decode cX9_places 52 = .ok (.getfield 26, 3) := by decide +kernel
theorem dX9_places_55 : decode cX9_places 55 = .ok (.iload_n 1, 1) := by decide +kernel
theorem dX9_places_56 : decode cX9_places 56 = .ok (.iaload, 1) := by decide +kernel
theorem dX9_places_57 : decode cX9_places 57 = .ok (.aload_n 0, 1) := by decide +kernel
theorem dX9_places_58 : decode cX9_places 58 = .ok (.getfield 26, 3) := by decide +kernel
theorem dX9_places_61 : decode cX9_places 61 = .ok (.iload_n 2, 1) := by decide +kernel
theorem dX9_places_62 : decode cX9_places 62 = .ok (.iaload, 1) := by decide +kernel
theorem dX9_places_63 : decode cX9_places 63 = .ok (.if_icmp .ge 7, 3) := by decide +kernel
theorem dX9_places_66 : decode cX9_places 66 = .ok (.iconst (-1), 1) := by decide +kernel
theorem dX9_places_67 : decode cX9_places 67 = .ok (.goto 4, 3) := by decide +kernel
theorem dX9_places_70 : decode cX9_places 70 = .ok (.iconst 1, 1) := by decide +kernel
theorem dX9_places_71 : decode cX9_places 71 = .ok (.ireturn, 1) := by decide +kernel
theorem dX9_places_72 : decode cX9_places 72 = .ok (.aload_n 0, 1) := by decide +kernel
theorem dX9_places_73 : decode cX9_places 73 = .ok (.getfield 29, 3) := by decide +kernel
theorem dX9_places_76 : decode cX9_places 76 = .ok (.iload_n 1, 1) := by decide +kernel
theorem dX9_places_77 : decode cX9_places 77 = .ok (.iaload, 1) := by decide +kernel
theorem dX9_places_78 : decode cX9_places 78 = .ok (.aload_n 0, 1) := by decide +kernel
theorem dX9_places_79 : decode cX9_places 79 = .ok (.getfield 29, 3) := by decide +kernel
theorem dX9_places_82 : decode cX9_places 82 = .ok (.iload_n 2, 1) := by decide +kernel
theorem dX9_places_83 : decode cX9_places 83 = .ok (.iaload, 1) := by decide +kernel
theorem dX9_places_84 : decode cX9_places 84 = .ok (.if_icmp .ge 7, 3) := by decide +kernel
theorem dX9_places_87 : decode cX9_places 87 = .ok (.iconst (-1), 1) := by decide +kernel
theorem dX9_places_88 : decode cX9_places 88 = .ok (.goto 23, 3) := by decide +kernel
theorem dX9_places_91 : decode cX9_places 91 = .ok (.aload_n 0, 1) := by decide +kernel
theorem dX9_places_92 : decode cX9_places 92 = .ok (.getfield 29, 3) := by decide +kernel
theorem dX9_places_95 : decode cX9_places 95 = .ok (.iload_n 1, 1) := by decide +kernel
theorem dX9_places_96 : decode cX9_places 96 = .ok (.iaload, 1) := by decide +kernel
theorem dX9_places_97 : decode cX9_places 97 = .ok (.aload_n 0, 1) := by decide +kernel
theorem dX9_places_98 : decode cX9_places 98 = .ok (.getfield 29, 3) := by decide +kernel
theorem dX9_places_101 : decode cX9_places 101 = .ok (.iload_n 2, 1) := by decide +kernel
theorem dX9_places_102 : decode cX9_places 102 = .ok (.iaload, 1) := by decide +kernel
theorem dX9_places_103 : decode cX9_places 103 = .ok (.if_icmp .le 7, 3) := by decide +kernel
theorem dX9_places_106 : decode cX9_places 106 = .ok (.iconst 1, 1) := by decide +kernel
theorem dX9_places_107 : decode cX9_places 107 = .ok (.goto 4, 3) := by decide +kernel
theorem dX9_places_110 : decode cX9_places 110 = .ok (.iconst 0, 1) := by decide +kernel
theorem dX9_places_111 : decode cX9_places 111 = .ok (.ireturn, 1) := by decide +kernel
theorem dX9_before_0 : decode cX9_before 0 = .ok (.aload_n 0, 1) := by decide +kernel
theorem dX9_before_1 : decode cX9_before 1 = .ok (.iload_n 1, 1) := by decide +kernel
theorem dX9_before_2 : decode cX9_before 2 = .ok (.iload_n 2, 1) := by decide +kernel
theorem dX9_before_3 : decode cX9_before 3 = .ok (.invokevirtual 178, 3) := by decide +kernel
theorem dX9_before_6 : decode cX9_before 6 = .ok (.istore_n 3, 1) := by decide +kernel
theorem dX9_before_7 : decode cX9_before 7 = .ok (.iload_n 3, 1) := by decide +kernel
theorem dX9_before_8 : decode cX9_before 8 = .ok (.ifCond .lt 22, 3) := by decide +kernel
theorem dX9_before_11 : decode cX9_before 11 = .ok (.iload_n 3, 1) := by decide +kernel
theorem dX9_before_12 : decode cX9_before 12 = .ok (.ifCond .ne 22, 3) := by decide +kernel
theorem dX9_before_15 : decode cX9_before 15 = .ok (.aload_n 0, 1) := by decide +kernel
theorem dX9_before_16 : decode cX9_before 16 = .ok (.getfield 32, 3) := by decide +kernel
theorem dX9_before_19 : decode cX9_before 19 = .ok (.iload_n 1, 1) := by decide +kernel
theorem dX9_before_20 : decode cX9_before 20 = .ok (.iaload, 1) := by decide +kernel
theorem dX9_before_21 : decode cX9_before 21 = .ok (.aload_n 0, 1) := by decide +kernel
theorem dX9_before_22 : decode cX9_before 22 = .ok (.getfield 32, 3) := by decide +kernel
theorem dX9_before_25 : decode cX9_before 25 = .ok (.iload_n 2, 1) := by decide +kernel
theorem dX9_before_26 : decode cX9_before 26 = .ok (.iaload, 1) := by decide +kernel
theorem dX9_before_27 : decode cX9_before 27 = .ok (.if_icmp .le 7, 3) := by decide +kernel
theorem dX9_before_30 : decode cX9_before 30 = .ok (.iconst 1, 1) := by decide +kernel
theorem dX9_before_31 : decode cX9_before 31 = .ok (.goto 4, 3) := by decide +kernel
theorem dX9_before_34 : decode cX9_before 34 = .ok (.iconst 0, 1) := by decide +kernel
theorem dX9_before_35 : decode cX9_before 35 = .ok (.ireturn, 1) := by decide +kernel
theorem dX9_end_0 : decode cX9_end 0 = .ok (.iconst (-1), 1) := by decide +kernel
theorem dX9_end_1 : decode cX9_end 1 = .ok (.istore_n 3, 1) := by decide +kernel
theorem dX9_end_2 : decode cX9_end 2 = .ok (.iconst 0, 1) := by decide +kernel
theorem dX9_end_3 : decode cX9_end 3 = .ok (.istore 4, 2) := by decide +kernel
theorem dX9_end_5 : decode cX9_end 5 = .ok (.iload 4, 2) := by decide +kernel
theorem dX9_end_7 : decode cX9_end 7 = .ok (.aload_n 0, 1) := by decide +kernel
theorem dX9_end_8 : decode cX9_end 8 = .ok (.getfield 106, 3) := by decide +kernel
theorem dX9_end_11 : decode cX9_end 11 = .ok (.if_icmp .ge 38, 3) := by decide +kernel
theorem dX9_end_14 : decode cX9_end 14 = .ok (.aload_n 0, 1) := by decide +kernel
theorem dX9_end_15 : decode cX9_end 15 = .ok (.getfield 41, 3) := by decide +kernel
theorem dX9_end_18 : decode cX9_end 18 = .ok (.iload 4, 2) := by decide +kernel
theorem dX9_end_20 : decode cX9_end 20 = .ok (.iaload, 1) := by decide +kernel
theorem dX9_end_21 : decode cX9_end 21 = .ok (.iload_n 1, 1) := by decide +kernel
theorem dX9_end_22 : decode cX9_end 22 = .ok (.if_icmp .ne 21, 3) := by decide +kernel
theorem dX9_end_25 : decode cX9_end 25 = .ok (.iload_n 3, 1) := by decide +kernel
theorem dX9_end_26 : decode cX9_end 26 = .ok (.ifCond .lt 14, 3) := by decide +kernel
theorem dX9_end_29 : decode cX9_end 29 = .ok (.aload_n 0, 1) := by decide +kernel
theorem dX9_end_30 : decode cX9_end 30 = .ok (.iload 4, 2) := by decide +kernel
theorem dX9_end_32 : decode cX9_end 32 = .ok (.iload_n 3, 1) := by decide +kernel
theorem dX9_end_33 : decode cX9_end 33 = .ok (.invokevirtual 182, 3) := by decide +kernel
theorem dX9_end_36 : decode cX9_end 36 = .ok (.iload_n 2, 1) := by decide +kernel
theorem dX9_end_37 : decode cX9_end 37 = .ok (.if_icmp .ne 6, 3) := by decide +kernel
theorem dX9_end_40 : decode cX9_end 40 = .ok (.iload 4, 2) := by decide +kernel
theorem dX9_end_42 : decode cX9_end 42 = .ok (.istore_n 3, 1) := by decide +kernel
theorem dX9_end_43 : decode cX9_end 43 = .ok (.iinc 4 1, 3) := by decide +kernel
theorem dX9_end_46 : decode cX9_end 46 = .ok (.goto (-41), 3) := by decide +kernel
theorem dX9_end_49 : decode cX9_end 49 = .ok (.iload_n 3, 1) := by decide +kernel
theorem dX9_end_50 : decode cX9_end 50 = .ok (.ireturn, 1) := by decide +kernel
theorem dX9_meet_0 : decode cX9_meet 0 = .ok (.aload_n 0, 1) := by decide +kernel
theorem dX9_meet_1 : decode cX9_meet 1 = .ok (.iload_n 1, 1) := by decide +kernel
theorem dX9_meet_2 : decode cX9_meet 2 = .ok (.iconst 1, 1) := by decide +kernel
theorem dX9_meet_3 : decode cX9_meet 3 = .ok (.invokevirtual 185, 3) := by decide +kernel
theorem dX9_meet_6 : decode cX9_meet 6 = .ok (.istore_n 3, 1) := by decide +kernel
theorem dX9_meet_7 : decode cX9_meet 7 = .ok (.aload_n 0, 1) := by decide +kernel
theorem dX9_meet_8 : decode cX9_meet 8 = .ok (.iload_n 1, 1) := by decide +kernel
theorem dX9_meet_9 : decode cX9_meet 9 = .ok (.iconst 0, 1) := by decide +kernel
theorem dX9_meet_10 : decode cX9_meet 10 = .ok (.invokevirtual 185, 3) := by decide +kernel
theorem dX9_meet_13 : decode cX9_meet 13 = .ok (.istore 4, 2) := by decide +kernel
theorem dX9_meet_15 : decode cX9_meet 15 = .ok (.aload_n 0, 1) := by decide +kernel
theorem dX9_meet_16 : decode cX9_meet 16 = .ok (.iload_n 2, 1) := by decide +kernel
theorem dX9_meet_17 : decode cX9_meet 17 = .ok (.iconst 1, 1) := by decide +kernel
theorem dX9_meet_18 : decode cX9_meet 18 = .ok (.invokevirtual 185, 3) := by decide +kernel
theorem dX9_meet_21 : decode cX9_meet 21 = .ok (.istore 5, 2) := by decide +kernel
theorem dX9_meet_23 : decode cX9_meet 23 = .ok (.aload_n 0, 1) := by decide +kernel
theorem dX9_meet_24 : decode cX9_meet 24 = .ok (.iload_n 2, 1) := by decide +kernel
theorem dX9_meet_25 : decode cX9_meet 25 = .ok (.iconst 0, 1) := by decide +kernel
theorem dX9_meet_26 : decode cX9_meet 26 = .ok (.invokevirtual 185, 3) := by decide +kernel
theorem dX9_meet_29 : decode cX9_meet 29 = .ok (.istore 6, 2) := by decide +kernel
theorem dX9_meet_31 : decode cX9_meet 31 = .ok (.aload_n 0, 1) := by decide +kernel
theorem dX9_meet_32 : decode cX9_meet 32 = .ok (.iload 4, 2) := by decide +kernel
theorem dX9_meet_34 : decode cX9_meet 34 = .ok (.iload 5, 2) := by decide +kernel
theorem dX9_meet_36 : decode cX9_meet 36 = .ok (.invokevirtual 178, 3) := by decide +kernel
theorem dX9_meet_39 : decode cX9_meet 39 = .ok (.ifCond .lt 17, 3) := by decide +kernel
theorem dX9_meet_42 : decode cX9_meet 42 = .ok (.aload_n 0, 1) := by decide +kernel
theorem dX9_meet_43 : decode cX9_meet 43 = .ok (.iload 6, 2) := by decide +kernel
theorem dX9_meet_45 : decode cX9_meet 45 = .ok (.iload_n 3, 1) := by decide +kernel
theorem dX9_meet_46 : decode cX9_meet 46 = .ok (.invokevirtual 178, 3) := by decide +kernel
theorem dX9_meet_49 : decode cX9_meet 49 = .ok (.ifCond .lt 7, 3) := by decide +kernel
theorem dX9_meet_52 : decode cX9_meet 52 = .ok (.iconst 1, 1) := by decide +kernel
theorem dX9_meet_53 : decode cX9_meet 53 = .ok (.goto 4, 3) := by decide +kernel
theorem dX9_meet_56 : decode cX9_meet 56 = .ok (.iconst 0, 1) := by decide +kernel
theorem dX9_meet_57 : decode cX9_meet 57 = .ok (.ireturn, 1) := by decide +kernel
theorem dX9_sort_0 : decode cX9_sort 0 = .ok (.aload_n 0, 1) := by decide +kernel
theorem dX9_sort_1 : decode cX9_sort 1 = .ok (.iconst 0, 1) := by decide +kernel
theorem dX9_sort_2 : decode cX9_sort 2 = .ok (.putfield 188, 3) := by decide +kernel
theorem dX9_sort_5 : decode cX9_sort 5 = .ok (.iconst 0, 1) := by decide +kernel
theorem dX9_sort_6 : decode cX9_sort 6 = .ok (.istore_n 1, 1) := by decide +kernel
theorem dX9_sort_7 : decode cX9_sort 7 = .ok (.iload_n 1, 1) := by decide +kernel
theorem dX9_sort_8 : decode cX9_sort 8 = .ok (.aload_n 0, 1) := by decide +kernel
theorem dX9_sort_9 : decode cX9_sort 9 = .ok (.getfield 106, 3) := by decide +kernel
theorem dX9_sort_12 : decode cX9_sort 12 = .ok (.if_icmp .ge 80, 3) := by decide +kernel
theorem dX9_sort_15 : decode cX9_sort 15 = .ok (.aload_n 0, 1) := by decide +kernel
theorem dX9_sort_16 : decode cX9_sort 16 = .ok (.getfield 78, 3) := by decide +kernel
theorem dX9_sort_19 : decode cX9_sort 19 = .ok (.iload_n 1, 1) := by decide +kernel
theorem dX9_sort_20 : decode cX9_sort 20 = .ok (.baload, 1) := by decide +kernel
theorem dX9_sort_21 : decode cX9_sort 21 = .ok (.ifCond .eq 65, 3) := by decide +kernel
theorem dX9_sort_24 : decode cX9_sort 24 = .ok (.aload_n 0, 1) := by decide +kernel
theorem dX9_sort_25 : decode cX9_sort 25 = .ok (.getfield 188, 3) := by decide +kernel
theorem dX9_sort_28 : decode cX9_sort 28 = .ok (.istore_n 2, 1) := by decide +kernel
theorem dX9_sort_29 : decode cX9_sort 29 = .ok (.iload_n 2, 1) := by decide +kernel
theorem dX9_sort_30 : decode cX9_sort 30 = .ok (.ifCond .le 39, 3) := by decide +kernel
theorem dX9_sort_33 : decode cX9_sort 33 = .ok (.aload_n 0, 1) := by decide +kernel
theorem dX9_sort_34 : decode cX9_sort 34 = .ok (.iload_n 1, 1) := by decide +kernel
theorem dX9_sort_35 : decode cX9_sort 35 = .ok (.aload_n 0, 1) := by decide +kernel
theorem dX9_sort_36 : decode cX9_sort 36 = .ok (.getfield 75, 3) := by decide +kernel
theorem dX9_sort_39 : decode cX9_sort 39 = .ok (.iload_n 2, 1) := by decide +kernel
theorem dX9_sort_40 : decode cX9_sort 40 = .ok (.iconst 1, 1) := by decide +kernel
theorem dX9_sort_41 : decode cX9_sort 41 = .ok (.isub, 1) := by decide +kernel
theorem dX9_sort_42 : decode cX9_sort 42 = .ok (.iaload, 1) := by decide +kernel
theorem dX9_sort_43 : decode cX9_sort 43 = .ok (.invokevirtual 182, 3) := by decide +kernel
theorem dX9_sort_46 : decode cX9_sort 46 = .ok (.ifCond .eq 23, 3) := by decide +kernel
theorem dX9_sort_49 : decode cX9_sort 49 = .ok (.aload_n 0, 1) := by decide +kernel
theorem dX9_sort_50 : decode cX9_sort 50 = .ok (.getfield 75, 3) := by decide +kernel
theorem dX9_sort_53 : decode cX9_sort 53 = .ok (.iload_n 2, 1) := by decide +kernel
theorem dX9_sort_54 : decode cX9_sort 54 = .ok (.aload_n 0, 1) := by decide +kernel
theorem dX9_sort_55 : decode cX9_sort 55 = .ok (.getfield 75, 3) := by decide +kernel
theorem dX9_sort_58 : decode cX9_sort 58 = .ok (.iload_n 2, 1) := by decide +kernel
theorem dX9_sort_59 : decode cX9_sort 59 = .ok (.iconst 1, 1) := by decide +kernel
theorem dX9_sort_60 : decode cX9_sort 60 = .ok (.isub, 1) := by decide +kernel
theorem dX9_sort_61 : decode cX9_sort 61 = .ok (.iaload, 1) := by decide +kernel
theorem dX9_sort_62 : decode cX9_sort 62 = .ok (.iastore, 1) := by decide +kernel
theorem dX9_sort_63 : decode cX9_sort 63 = .ok (.iinc 2 (-1), 3) := by decide +kernel
theorem dX9_sort_66 : decode cX9_sort 66 = .ok (.goto (-37), 3) := by decide +kernel
theorem dX9_sort_69 : decode cX9_sort 69 = .ok (.aload_n 0, 1) := by decide +kernel
theorem dX9_sort_70 : decode cX9_sort 70 = .ok (.getfield 75, 3) := by decide +kernel
theorem dX9_sort_73 : decode cX9_sort 73 = .ok (.iload_n 2, 1) := by decide +kernel
theorem dX9_sort_74 : decode cX9_sort 74 = .ok (.iload_n 1, 1) := by decide +kernel
theorem dX9_sort_75 : decode cX9_sort 75 = .ok (.iastore, 1) := by decide +kernel
theorem dX9_sort_76 : decode cX9_sort 76 = .ok (.aload_n 0, 1) := by decide +kernel
theorem dX9_sort_77 : decode cX9_sort 77 = .ok (.dup, 1) := by decide +kernel
theorem dX9_sort_78 : decode cX9_sort 78 = .ok (.getfield 188, 3) := by decide +kernel
theorem dX9_sort_81 : decode cX9_sort 81 = .ok (.iconst 1, 1) := by decide +kernel
theorem dX9_sort_82 : decode cX9_sort 82 = .ok (.iadd, 1) := by decide +kernel
theorem dX9_sort_83 : decode cX9_sort 83 = .ok (.putfield 188, 3) := by decide +kernel
theorem dX9_sort_86 : decode cX9_sort 86 = .ok (.iinc 1 1, 3) := by decide +kernel
theorem dX9_sort_89 : decode cX9_sort 89 = .ok (.goto (-82), 3) := by decide +kernel
theorem dX9_sort_92 : decode cX9_sort 92 = .ok (.return_, 1) := by decide +kernel
theorem dX9_compacts_0 : decode cX9_compacts 0 = .ok (.iconst 0, 1) := by decide +kernel
theorem dX9_compacts_1 : decode cX9_compacts 1 = .ok (.istore_n 2, 1) := by decide +kernel
theorem dX9_compacts_2 : decode cX9_compacts 2 = .ok (.aload_n 0, 1) := by decide +kernel
theorem dX9_compacts_3 : decode cX9_compacts 3 = .ok (.getfield 47, 3) := by decide +kernel
theorem dX9_compacts_6 : decode cX9_compacts 6 = .ok (.iload_n 2, 1) := by decide +kernel
theorem dX9_compacts_7 : decode cX9_compacts 7 = .ok (.iaload, 1) := by decide +kernel
theorem dX9_compacts_8 : decode cX9_compacts 8 = .ok (.iload_n 1, 1) := by decide +kernel
theorem dX9_compacts_9 : decode cX9_compacts 9 = .ok (.if_icmp .eq 9, 3) := by decide +kernel
theorem dX9_compacts_12 : decode cX9_compacts 12 = .ok (.iinc 2 1, 3) := by decide +kernel
theorem dX9_compacts_15 : decode cX9_compacts 15 = .ok (.goto (-13), 3) := by decide +kernel
theorem dX9_compacts_18 : decode cX9_compacts 18 = .ok (.aload_n 0, 1) := by decide +kernel
theorem dX9_compacts_19 : decode cX9_compacts 19 = .ok (.getfield 44, 3) := by decide +kernel
theorem dX9_compacts_22 : decode cX9_compacts 22 = .ok (.iload_n 2, 1) := by decide +kernel
theorem dX9_compacts_23 : decode cX9_compacts 23 = .ok (.iaload, 1) := by decide +kernel
theorem dX9_compacts_24 : decode cX9_compacts 24 = .ok (.istore_n 3, 1) := by decide +kernel
theorem dX9_compacts_25 : decode cX9_compacts 25 = .ok (.iconst 0, 1) := by decide +kernel
theorem dX9_compacts_26 : decode cX9_compacts 26 = .ok (.istore 4, 2) := by decide +kernel
theorem dX9_compacts_28 : decode cX9_compacts 28 = .ok (.iload 4, 2) := by decide +kernel
theorem dX9_compacts_30 : decode cX9_compacts 30 = .ok (.aload_n 0, 1) := by decide +kernel
theorem dX9_compacts_31 : decode cX9_compacts 31 = .ok (.getfield 106, 3) := by decide +kernel
theorem dX9_compacts_34 : decode cX9_compacts 34 = .ok (.if_icmp .ge 32, 3) := by decide +kernel
theorem dX9_compacts_37 : decode cX9_compacts 37 = .ok (.aload_n 0, 1) := by decide +kernel
theorem dX9_compacts_38 : decode cX9_compacts 38 = .ok (.getfield 78, 3) := by decide +kernel
theorem dX9_compacts_41 : decode cX9_compacts 41 = .ok (.iload 4, 2) := by decide +kernel
theorem dX9_compacts_43 : decode cX9_compacts 43 = .ok (.aload_n 0, 1) := by decide +kernel
theorem dX9_compacts_44 : decode cX9_compacts 44 = .ok (.getfield 41, 3) := by decide +kernel
theorem dX9_compacts_47 : decode cX9_compacts 47 = .ok (.iload 4, 2) := by decide +kernel
theorem dX9_compacts_49 : decode cX9_compacts 49 = .ok (.iaload, 1) := by decide +kernel
theorem dX9_compacts_50 : decode cX9_compacts 50 = .ok (.iload_n 3, 1) := by decide +kernel
theorem dX9_compacts_51 : decode cX9_compacts 51 = .ok (.if_icmp .ne 7, 3) := by decide +kernel
theorem dX9_compacts_54 : decode cX9_compacts 54 = .ok (.iconst 1, 1) := by decide +kernel
theorem dX9_compacts_55 : decode cX9_compacts 55 = .ok (.goto 4, 3) := by decide +kernel
theorem dX9_compacts_58 : decode cX9_compacts 58 = .ok (.iconst 0, 1) := by decide +kernel
theorem dX9_compacts_59 : decode cX9_compacts 59 = .ok (.bastore, 1) := by decide +kernel
theorem dX9_compacts_60 : decode cX9_compacts 60 = .ok (.iinc 4 1, 3) := by decide +kernel
theorem dX9_compacts_63 : decode cX9_compacts 63 = .ok (.goto (-35), 3) := by decide +kernel
theorem dX9_compacts_66 : decode cX9_compacts 66 = .ok (.aload_n 0, 1) := by decide +kernel
theorem dX9_compacts_67 : decode cX9_compacts 67 = .ok (.getfield 167, 3) := by decide +kernel
theorem dX9_compacts_70 : decode cX9_compacts 70 = .ok (.iconst 1, 1) := by decide +kernel
theorem dX9_compacts_71 : decode cX9_compacts 71 = .ok (.isub, 1) := by decide +kernel
theorem dX9_compacts_72 : decode cX9_compacts 72 = .ok (.istore 4, 2) := by decide +kernel
theorem dX9_compacts_74 : decode cX9_compacts 74 = .ok (.iload 4, 2) := by decide +kernel
theorem dX9_compacts_76 : decode cX9_compacts 76 = .ok (.ifCond .lt 103, 3) := by decide +kernel
theorem dX9_compacts_79 : decode cX9_compacts 79 = .ok (.aload_n 0, 1) := by decide +kernel
theorem dX9_compacts_80 : decode cX9_compacts 80 = .ok (.getfield 44, 3) := by decide +kernel
theorem dX9_compacts_83 : decode cX9_compacts 83 = .ok (.iload 4, 2) := by decide +kernel
theorem dX9_compacts_85 : decode cX9_compacts 85 = .ok (.iaload, 1) := by decide +kernel
theorem dX9_compacts_86 : decode cX9_compacts 86 = .ok (.istore 5, 2) := by decide +kernel
theorem dX9_compacts_88 : decode cX9_compacts 88 = .ok (.aload_n 0, 1) := by decide +kernel
theorem dX9_compacts_89 : decode cX9_compacts 89 = .ok (.getfield 47, 3) := by decide +kernel
theorem dX9_compacts_92 : decode cX9_compacts 92 = .ok (.iload 4, 2) := by decide +kernel
theorem dX9_compacts_94 : decode cX9_compacts 94 = .ok (.iaload, 1) := by decide +kernel
theorem dX9_compacts_95 : decode cX9_compacts 95 = .ok (.iload_n 1, 1) := by decide +kernel
theorem dX9_compacts_96 : decode cX9_compacts 96 = .ok (.iconst 1, 1) := by decide +kernel
theorem dX9_compacts_97 : decode cX9_compacts 97 = .ok (.iadd, 1) := by decide +kernel
theorem dX9_compacts_98 : decode cX9_compacts 98 = .ok (.if_icmp .ne 75, 3) := by decide +kernel
theorem dX9_compacts_101 : decode cX9_compacts 101 = .ok (.aload_n 0, 1) := by decide +kernel
theorem dX9_compacts_102 : decode cX9_compacts 102 = .ok (.iload_n 3, 1) := by decide +kernel
theorem dX9_compacts_103 : decode cX9_compacts 103 = .ok (.iload 5, 2) := by decide +kernel
theorem dX9_compacts_105 : decode cX9_compacts 105 = .ok (.invokevirtual 191, 3) := by decide +kernel
theorem dX9_compacts_108 : decode cX9_compacts 108 = .ok (.ifCond .eq 65, 3) := by decide +kernel
theorem dX9_compacts_111 : decode cX9_compacts 111 = .ok (.iconst 0, 1) := by decide +kernel
theorem dX9_compacts_112 : decode cX9_compacts 112 = .ok (.istore 6, 2) := by decide +kernel
theorem dX9_compacts_114 : decode cX9_compacts 114 = .ok (.iload 6, 2) := by decide +kernel
theorem dX9_compacts_116 : decode cX9_compacts 116 = .ok (.aload_n 0, 1) := by decide +kernel
theorem dX9_compacts_117 : decode cX9_compacts 117 = .ok (.getfield 106, 3) := by decide +kernel
theorem dX9_compacts_120 : decode cX9_compacts 120 = .ok (.if_icmp .ge 43, 3) := by decide +kernel
theorem dX9_compacts_123 : decode cX9_compacts 123 = .ok (.aload_n 0, 1) := by decide +kernel
theorem dX9_compacts_124 : decode cX9_compacts 124 = .ok (.getfield 78, 3) := by decide +kernel
theorem dX9_compacts_127 : decode cX9_compacts 127 = .ok (.iload 6, 2) := by decide +kernel
theorem dX9_compacts_129 : decode cX9_compacts 129 = .ok (.aload_n 0, 1) := by decide +kernel
theorem dX9_compacts_130 : decode cX9_compacts 130 = .ok (.getfield 78, 3) := by decide +kernel
theorem dX9_compacts_133 : decode cX9_compacts 133 = .ok (.iload 6, 2) := by decide +kernel
theorem dX9_compacts_135 : decode cX9_compacts 135 = .ok (.baload, 1) := by decide +kernel
theorem dX9_compacts_136 : decode cX9_compacts 136 = .ok (.ifCond .ne 15, 3) := by decide +kernel
theorem dX9_compacts_139 : decode cX9_compacts 139 = .ok (.aload_n 0, 1) := by decide +kernel
theorem dX9_compacts_140 : decode cX9_compacts 140 = .ok (.getfield 41, 3) := by decide +kernel
theorem dX9_compacts_143 : decode cX9_compacts 143 = .ok (.iload 6, 2) := by decide +kernel
theorem dX9_compacts_145 : decode cX9_compacts 145 = .ok (.iaload, 1) := by decide +kernel
theorem dX9_compacts_146 : decode cX9_compacts 146 = .ok (.iload 5, 2) := by decide +kernel
theorem dX9_compacts_148 : decode cX9_compacts 148 = .ok (.if_icmp .ne 7, 3) := by decide +kernel
theorem dX9_compacts_151 : decode cX9_compacts 151 = .ok (.iconst 1, 1) := by decide +kernel
theorem dX9_compacts_152 : decode cX9_compacts 152 = .ok (.goto 4, 3) := by decide +kernel
theorem dX9_compacts_155 : decode cX9_compacts 155 = .ok (.iconst 0, 1) := by decide +kernel
theorem dX9_compacts_156 : decode cX9_compacts 156 = .ok (.bastore, 1) := by decide +kernel
theorem dX9_compacts_157 : decode cX9_compacts 157 = .ok (.iinc 6 1, 3) := by decide +kernel
theorem dX9_compacts_160 : decode cX9_compacts 160 = .ok (.goto (-46), 3) := by decide +kernel
theorem dX9_compacts_163 : decode cX9_compacts 163 = .ok (.aload_n 0, 1) := by decide +kernel
theorem dX9_compacts_164 : decode cX9_compacts 164 = .ok (.getfield 44, 3) := by decide +kernel
theorem dX9_compacts_167 : decode cX9_compacts 167 = .ok (.iload 4, 2) := by decide +kernel
theorem dX9_compacts_169 : decode cX9_compacts 169 = .ok (.iload 5, 2) := by decide +kernel
theorem dX9_compacts_171 : decode cX9_compacts 171 = .ok (.ineg, 1) := by decide +kernel
theorem dX9_compacts_172 : decode cX9_compacts 172 = .ok (.iastore, 1) := by decide +kernel
theorem dX9_compacts_173 : decode cX9_compacts 173 = .ok (.iinc 4 (-1), 3) := by decide +kernel
theorem dX9_compacts_176 : decode cX9_compacts 176 = .ok (.goto (-102), 3) := by decide +kernel
theorem dX9_compacts_179 : decode cX9_compacts 179 = .ok (.aload_n 0, 1) := by decide +kernel
theorem dX9_compacts_180 : decode cX9_compacts 180 = .ok (.getfield 167, 3) := by decide +kernel
theorem dX9_compacts_183 : decode cX9_compacts 183 = .ok (.iconst 1, 1) := by decide +kernel
theorem dX9_compacts_184 : decode cX9_compacts 184 = .ok (.isub, 1) := by decide +kernel
theorem dX9_compacts_185 : decode cX9_compacts 185 = .ok (.istore 4, 2) := by decide +kernel
theorem dX9_compacts_187 : decode cX9_compacts 187 = .ok (.iload 4, 2) := by decide +kernel
theorem dX9_compacts_189 : decode cX9_compacts 189 = .ok (.ifCond .lt 36, 3) := by decide +kernel
theorem dX9_compacts_192 : decode cX9_compacts 192 = .ok (.aload_n 0, 1) := by decide +kernel
theorem dX9_compacts_193 : decode cX9_compacts 193 = .ok (.getfield 44, 3) := by decide +kernel
theorem dX9_compacts_196 : decode cX9_compacts 196 = .ok (.iload 4, 2) := by decide +kernel
theorem dX9_compacts_198 : decode cX9_compacts 198 = .ok (.iaload, 1) := by decide +kernel
theorem dX9_compacts_199 : decode cX9_compacts 199 = .ok (.ifCond .lt 14, 3) := by decide +kernel
theorem dX9_compacts_202 : decode cX9_compacts 202 = .ok (.aload_n 0, 1) := by decide +kernel
theorem dX9_compacts_203 : decode cX9_compacts 203 = .ok (.getfield 44, 3) := by decide +kernel
theorem dX9_compacts_206 : decode cX9_compacts 206 = .ok (.iload 4, 2) := by decide +kernel
theorem dX9_compacts_208 : decode cX9_compacts 208 = .ok (.iaload, 1) := by decide +kernel
theorem dX9_compacts_209 : decode cX9_compacts 209 = .ok (.iload_n 3, 1) := by decide +kernel
theorem dX9_compacts_210 : decode cX9_compacts 210 = .ok (.if_icmp .ne 9, 3) := by decide +kernel
theorem dX9_compacts_213 : decode cX9_compacts 213 = .ok (.aload_n 0, 1) := by decide +kernel
theorem dX9_compacts_214 : decode cX9_compacts 214 = .ok (.iload 4, 2) := by decide +kernel
theorem dX9_compacts_216 : decode cX9_compacts 216 = .ok (.invokevirtual 194, 3) := by decide +kernel
theorem dX9_compacts_219 : decode cX9_compacts 219 = .ok (.iinc 4 (-1), 3) := by decide +kernel
theorem dX9_compacts_222 : decode cX9_compacts 222 = .ok (.goto (-35), 3) := by decide +kernel
theorem dX9_compacts_225 : decode cX9_compacts 225 = .ok (.aload_n 0, 1) := by decide +kernel
theorem dX9_compacts_226 : decode cX9_compacts 226 = .ok (.invokevirtual 197, 3) := by decide +kernel
theorem dX9_compacts_229 : decode cX9_compacts 229 = .ok (.aload_n 0, 1) := by decide +kernel
theorem dX9_compacts_230 : decode cX9_compacts 230 = .ok (.iload_n 1, 1) := by decide +kernel
theorem dX9_compacts_231 : decode cX9_compacts 231 = .ok (.iconst 1, 1) := by decide +kernel
theorem dX9_compacts_232 : decode cX9_compacts 232 = .ok (.iadd, 1) := by decide +kernel
theorem dX9_compacts_233 : decode cX9_compacts 233 = .ok (.invokevirtual 200, 3) := by decide +kernel
theorem dX9_compacts_236 : decode cX9_compacts 236 = .ok (.ireturn, 1) := by decide +kernel
theorem dX9_merge_0 : decode cX9_merge 0 = .ok (.aload_n 0, 1) := by decide +kernel
theorem dX9_merge_1 : decode cX9_merge 1 = .ok (.invokevirtual 203, 3) := by decide +kernel
theorem dX9_merge_4 : decode cX9_merge 4 = .ok (.istore_n 2, 1) := by decide +kernel
theorem dX9_merge_5 : decode cX9_merge 5 = .ok (.iconst 0, 1) := by decide +kernel
theorem dX9_merge_6 : decode cX9_merge 6 = .ok (.istore_n 3, 1) := by decide +kernel
theorem dX9_merge_7 : decode cX9_merge 7 = .ok (.iconst 0, 1) := by decide +kernel
theorem dX9_merge_8 : decode cX9_merge 8 = .ok (.istore 4, 2) := by decide +kernel
theorem dX9_merge_10 : decode cX9_merge 10 = .ok (.iconst (-1), 1) := by decide +kernel
theorem dX9_merge_11 : decode cX9_merge 11 = .ok (.istore 5, 2) := by decide +kernel
theorem dX9_merge_13 : decode cX9_merge 13 = .ok (.iconst 0, 1) := by decide +kernel
theorem dX9_merge_14 : decode cX9_merge 14 = .ok (.istore 6, 2) := by decide +kernel
theorem dX9_merge_16 : decode cX9_merge 16 = .ok (.iconst 0, 1) := by decide +kernel
theorem dX9_merge_17 : decode cX9_merge 17 = .ok (.istore 7, 2) := by decide +kernel
theorem dX9_merge_19 : decode cX9_merge 19 = .ok (.iload 7, 2) := by decide +kernel
theorem dX9_merge_21 : decode cX9_merge 21 = .ok (.aload_n 0, 1) := by decide +kernel
theorem dX9_merge_22 : decode cX9_merge 22 = .ok (.getfield 188, 3) := by decide +kernel
theorem dX9_merge_25 : decode cX9_merge 25 = .ok (.if_icmp .ge 194, 3) := by decide +kernel
theorem dX9_merge_28 : decode cX9_merge 28 = .ok (.aload_n 0, 1) := by decide +kernel
theorem dX9_merge_29 : decode cX9_merge 29 = .ok (.getfield 75, 3) := by decide +kernel
theorem dX9_merge_32 : decode cX9_merge 32 = .ok (.iload 7, 2) := by decide +kernel
theorem dX9_merge_34 : decode cX9_merge 34 = .ok (.iaload, 1) := by decide +kernel
theorem dX9_merge_35 : decode cX9_merge 35 = .ok (.istore 8, 2) := by decide +kernel
theorem dX9_merge_37 : decode cX9_merge 37 = .ok (.iload 7, 2) := by decide +kernel
theorem dX9_merge_39 : decode cX9_merge 39 = .ok (.ifCond .le 25, 3) := by decide +kernel
theorem dX9_merge_42 : decode cX9_merge 42 = .ok (.aload_n 0, 1) := by decide +kernel
theorem dX9_merge_43 : decode cX9_merge 43 = .ok (.aload_n 0, 1) := by decide +kernel
theorem dX9_merge_44 : decode cX9_merge 44 = .ok (.getfield 75, 3) := by decide +kernel
theorem dX9_merge_47 : decode cX9_merge 47 = .ok (.iload 7, 2) := by decide +kernel
theorem dX9_merge_49 : decode cX9_merge 49 = .ok (.iconst 1, 1) := by decide +kernel
theorem dX9_merge_50 : decode cX9_merge 50 = .ok (.isub, 1) := by decide +kernel
theorem dX9_merge_51 : decode cX9_merge 51 = .ok (.iaload, 1) := by decide +kernel
theorem dX9_merge_52 : decode cX9_merge 52 = .ok (.iload 8, 2) := by decide +kernel
theorem dX9_merge_54 : decode cX9_merge 54 = .ok (.invokevirtual 178, 3) := by decide +kernel
theorem dX9_merge_57 : decode cX9_merge 57 = .ok (.ifCond .ne 7, 3) := by decide +kernel
theorem dX9_merge_60 : decode cX9_merge 60 = .ok (.iconst 1, 1) := by decide +kernel
theorem dX9_merge_61 : decode cX9_merge 61 = .ok (.goto 4, 3) := by decide +kernel
theorem dX9_merge_64 : decode cX9_merge 64 = .ok (.iconst 0, 1) := by decide +kernel
theorem dX9_merge_65 : decode cX9_merge 65 = .ok (.istore 9, 2) := by decide +kernel
theorem dX9_merge_67 : decode cX9_merge 67 = .ok (.iload 9, 2) := by decide +kernel
theorem dX9_merge_69 : decode cX9_merge 69 = .ok (.ifCond .eq 12, 3) := by decide +kernel
theorem dX9_merge_72 : decode cX9_merge 72 = .ok (.iload 6, 2) := by decide +kernel
theorem dX9_merge_74 : decode cX9_merge 74 = .ok (.ifCond .eq 7, 3) := by decide +kernel
theorem dX9_merge_77 : decode cX9_merge 77 = .ok (.iconst 1, 1) := by decide +kernel
theorem dX9_merge_78 : decode cX9_merge 78 = .ok (.goto 4, 3) := by decide +kernel
theorem dX9_merge_81 : decode cX9_merge 81 = .ok (.iconst 0, 1) := by decide +kernel
theorem dX9_merge_82 : decode cX9_merge 82 = .ok (.istore 6, 2) := by decide +kernel
theorem dX9_merge_84 : decode cX9_merge 84 = .ok (.iload 6, 2) := by decide +kernel
theorem dX9_merge_86 : decode cX9_merge 86 = .ok (.ifCond .ne 29, 3) := by decide +kernel
theorem dX9_merge_89 : decode cX9_merge 89 = .ok (.aload_n 0, 1) := by decide +kernel
theorem dX9_merge_90 : decode cX9_merge 90 = .ok (.getfield 32, 3) := by decide +kernel
theorem dX9_merge_93 : decode cX9_merge 93 = .ok (.iload 8, 2) := by decide +kernel
theorem dX9_merge_95 : decode cX9_merge 95 = .ok (.iaload, 1) := by decide +kernel
theorem dX9_merge_96 : decode cX9_merge 96 = .ok (.iload_n 2, 1) := by decide +kernel
theorem dX9_merge_97 : decode cX9_merge 97 = .ok (.if_icmp .gt 22, 3) := by decide +kernel
theorem dX9_merge_100 : decode cX9_merge 100 = .ok (.aload_n 0, 1) := by decide +kernel
theorem dX9_merge_101 : decode cX9_merge 101 = .ok (.getfield 35, 3) := by decide +kernel
theorem dX9_merge_104 : decode cX9_merge 104 = .ok (.iload 8, 2) := by decide +kernel
theorem dX9_merge_106 : decode cX9_merge 106 = .ok (.baload, 1) := by decide +kernel
theorem dX9_merge_107 : decode cX9_merge 107 = .ok (.ifCond .ne 12, 3) := by decide +kernel
theorem dX9_merge_110 : decode cX9_merge 110 = .ok (.iload_n 1, 1) := by decide +kernel
theorem dX9_merge_111 : decode cX9_merge 111 = .ok (.iconst 2, 1) := by decide +kernel
theorem dX9_merge_112 : decode cX9_merge 112 = .ok (.if_icmp .ne 7, 3) := by decide +kernel
theorem dX9_merge_115 : decode cX9_merge 115 = .ok (.iconst 1, 1) := by decide +kernel
theorem dX9_merge_116 : decode cX9_merge 116 = .ok (.goto 4, 3) := by decide +kernel
theorem dX9_merge_119 : decode cX9_merge 119 = .ok (.iconst 0, 1) := by decide +kernel
theorem dX9_merge_120 : decode cX9_merge 120 = .ok (.istore 10, 2) := by decide +kernel
theorem dX9_merge_122 : decode cX9_merge 122 = .ok (.iload 6, 2) := by decide +kernel
theorem dX9_merge_124 : decode cX9_merge 124 = .ok (.ifCond .ne 14, 3) := by decide +kernel
theorem dX9_merge_127 : decode cX9_merge 127 = .ok (.aload_n 0, 1) := by decide +kernel
theorem dX9_merge_128 : decode cX9_merge 128 = .ok (.getfield 32, 3) := by decide +kernel
theorem dX9_merge_131 : decode cX9_merge 131 = .ok (.iload 8, 2) := by decide +kernel
theorem dX9_merge_133 : decode cX9_merge 133 = .ok (.iaload, 1) := by decide +kernel
theorem dX9_merge_134 : decode cX9_merge 134 = .ok (.iload_n 2, 1) := by decide +kernel
theorem dX9_merge_135 : decode cX9_merge 135 = .ok (.if_icmp .gt 7, 3) := by decide +kernel
theorem dX9_merge_138 : decode cX9_merge 138 = .ok (.iconst 1, 1) := by decide +kernel
theorem dX9_merge_139 : decode cX9_merge 139 = .ok (.goto 4, 3) := by decide +kernel
theorem dX9_merge_142 : decode cX9_merge 142 = .ok (.iconst 0, 1) := by decide +kernel
theorem dX9_merge_143 : decode cX9_merge 143 = .ok (.istore 6, 2) := by decide +kernel
theorem dX9_merge_145 : decode cX9_merge 145 = .ok (.iload 10, 2) := by decide +kernel
theorem dX9_merge_147 : decode cX9_merge 147 = .ok (.ifCond .eq 17, 3) := by decide +kernel
theorem dX9_merge_150 : decode cX9_merge 150 = .ok (.aload_n 0, 1) := by decide +kernel
theorem dX9_merge_151 : decode cX9_merge 151 = .ok (.getfield 41, 3) := by decide +kernel
theorem dX9_merge_154 : decode cX9_merge 154 = .ok (.iload 8, 2) := by decide +kernel
theorem dX9_merge_156 : decode cX9_merge 156 = .ok (.iconst (-1), 1) := by decide +kernel
theorem dX9_merge_157 : decode cX9_merge 157 = .ok (.iastore, 1) := by decide +kernel
theorem dX9_merge_158 : decode cX9_merge 158 = .ok (.iinc 3 1, 3) := by decide +kernel
theorem dX9_merge_161 : decode cX9_merge 161 = .ok (.goto 52, 3) := by decide +kernel
theorem dX9_merge_164 : decode cX9_merge 164 = .ok (.iload 5, 2) := by decide +kernel
theorem dX9_merge_166 : decode cX9_merge 166 = .ok (.ifCond .lt 21, 3) := by decide +kernel
theorem dX9_merge_169 : decode cX9_merge 169 = .ok (.iload 4, 2) := by decide +kernel
theorem dX9_merge_171 : decode cX9_merge 171 = .ok (.bipush 12, 2) := by decide +kernel
theorem dX9_merge_173 : decode cX9_merge 173 = .ok (.if_icmp .lt 22, 3) := by decide +kernel
theorem dX9_merge_176 : decode cX9_merge 176 = .ok (.aload_n 0, 1) := by decide +kernel
theorem dX9_merge_177 : decode cX9_merge 177 = .ok (.iload 5, 2) := by decide +kernel
theorem dX9_merge_179 : decode cX9_merge 179 = .ok (.iload 8, 2) := by decide +kernel
theorem dX9_merge_181 : decode cX9_merge 181 = .ok (.invokevirtual 178, 3) := by decide +kernel
theorem dX9_merge_184 : decode cX9_merge 184 = .ok (.ifCond .eq 11, 3) := by decide +kernel
theorem dX9_merge_187 : decode cX9_merge 187 = .ok (.aload_n 0, 1) := by decide +kernel
theorem dX9_merge_188 : decode cX9_merge 188 = .ok (.iload_n 1, 1) := by decide +kernel
theorem dX9_merge_189 : decode cX9_merge 189 = .ok (.invokevirtual 170, 3) := by decide +kernel
theorem dX9_merge_192 : decode cX9_merge 192 = .ok (.iconst 0, 1) := by decide +kernel
theorem dX9_merge_193 : decode cX9_merge 193 = .ok (.istore 4, 2) := by decide +kernel
theorem dX9_merge_195 : decode cX9_merge 195 = .ok (.aload_n 0, 1) := by decide +kernel
theorem dX9_merge_196 : decode cX9_merge 196 = .ok (.getfield 41, 3) := by decide +kernel
theorem dX9_merge_199 : decode cX9_merge 199 = .ok (.iload 8, 2) := by decide +kernel
theorem dX9_merge_201 : decode cX9_merge 201 = .ok (.aload_n 0, 1) := by decide +kernel
theorem dX9_merge_202 : decode cX9_merge 202 = .ok (.getfield 164, 3) := by decide +kernel
theorem dX9_merge_205 : decode cX9_merge 205 = .ok (.iastore, 1) := by decide +kernel
theorem dX9_merge_206 : decode cX9_merge 206 = .ok (.iinc 4 1, 3) := by decide +kernel
theorem dX9_merge_209 : decode cX9_merge 209 = .ok (.iload 8, 2) := by decide +kernel
theorem dX9_merge_211 : decode cX9_merge 211 = .ok (.istore 5, 2) := by decide +kernel
theorem dX9_merge_213 : decode cX9_merge 213 = .ok (.iinc 7 1, 3) := by decide +kernel
theorem dX9_merge_216 : decode cX9_merge 216 = .ok (.goto (-197), 3) := by decide +kernel
theorem dX9_merge_219 : decode cX9_merge 219 = .ok (.aload_n 0, 1) := by decide +kernel
theorem dX9_merge_220 : decode cX9_merge 220 = .ok (.invokevirtual 206, 3) := by decide +kernel
theorem dX9_merge_223 : decode cX9_merge 223 = .ok (.iload_n 3, 1) := by decide +kernel
theorem dX9_merge_224 : decode cX9_merge 224 = .ok (.ireturn, 1) := by decide +kernel
theorem dX9_clean_0 : decode cX9_clean 0 = .ok (.iconst 0, 1) := by decide +kernel
theorem dX9_clean_1 : decode cX9_clean 1 = .ok (.istore_n 1, 1) := by decide +kernel
theorem dX9_clean_2 : decode cX9_clean 2 = .ok (.iconst 0, 1) := by decide +kernel
theorem dX9_clean_3 : decode cX9_clean 3 = .ok (.istore_n 2, 1) := by decide +kernel
theorem dX9_clean_4 : decode cX9_clean 4 = .ok (.iload_n 2, 1) := by decide +kernel
theorem dX9_clean_5 : decode cX9_clean 5 = .ok (.aload_n 0, 1) := by decide +kernel
theorem dX9_clean_6 : decode cX9_clean 6 = .ok (.getfield 106, 3) := by decide +kernel
theorem dX9_clean_9 : decode cX9_clean 9 = .ok (.if_icmp .ge 126, 3) := by decide +kernel
theorem dX9_clean_12 : decode cX9_clean 12 = .ok (.aload_n 0, 1) := by decide +kernel
theorem dX9_clean_13 : decode cX9_clean 13 = .ok (.getfield 41, 3) := by decide +kernel
theorem dX9_clean_16 : decode cX9_clean 16 = .ok (.iload_n 2, 1) := by decide +kernel
theorem dX9_clean_17 : decode cX9_clean 17 = .ok (.iaload, 1) := by decide +kernel
theorem dX9_clean_18 : decode cX9_clean 18 = .ok (.ifCond .lt 111, 3) := by decide +kernel
theorem dX9_clean_21 : decode cX9_clean 21 = .ok (.aload_n 0, 1) := by decide +kernel
theorem dX9_clean_22 : decode cX9_clean 22 = .ok (.getfield 23, 3) := by decide +kernel
theorem dX9_clean_25 : decode cX9_clean 25 = .ok (.iload_n 1, 1) := by decide +kernel
theorem dX9_clean_26 : decode cX9_clean 26 = .ok (.aload_n 0, 1) := by decide +kernel
theorem dX9_clean_27 : decode cX9_clean 27 = .ok (.getfield 23, 3) := by decide +kernel
theorem dX9_clean_30 : decode cX9_clean 30 = .ok (.iload_n 2, 1) := by decide +kernel
theorem dX9_clean_31 : decode cX9_clean 31 = .ok (.iaload, 1) := by decide +kernel
theorem dX9_clean_32 : decode cX9_clean 32 = .ok (.iastore, 1) := by decide +kernel
theorem dX9_clean_33 : decode cX9_clean 33 = .ok (.aload_n 0, 1) := by decide +kernel
theorem dX9_clean_34 : decode cX9_clean 34 = .ok (.getfield 26, 3) := by decide +kernel
theorem dX9_clean_37 : decode cX9_clean 37 = .ok (.iload_n 1, 1) := by decide +kernel
theorem dX9_clean_38 : decode cX9_clean 38 = .ok (.aload_n 0, 1) := by decide +kernel
theorem dX9_clean_39 : decode cX9_clean 39 = .ok (.getfield 26, 3) := by decide +kernel
theorem dX9_clean_42 : decode cX9_clean 42 = .ok (.iload_n 2, 1) := by decide +kernel
theorem dX9_clean_43 : decode cX9_clean 43 = .ok (.iaload, 1) := by decide +kernel
theorem dX9_clean_44 : decode cX9_clean 44 = .ok (.iastore, 1) := by decide +kernel
theorem dX9_clean_45 : decode cX9_clean 45 = .ok (.aload_n 0, 1) := by decide +kernel
theorem dX9_clean_46 : decode cX9_clean 46 = .ok (.getfield 29, 3) := by decide +kernel
theorem dX9_clean_49 : decode cX9_clean 49 = .ok (.iload_n 1, 1) := by decide +kernel
theorem dX9_clean_50 : decode cX9_clean 50 = .ok (.aload_n 0, 1) := by decide +kernel
theorem dX9_clean_51 : decode cX9_clean 51 = .ok (.getfield 29, 3) := by decide +kernel
theorem dX9_clean_54 : decode cX9_clean 54 = .ok (.iload_n 2, 1) := by decide +kernel
theorem dX9_clean_55 : decode cX9_clean 55 = .ok (.iaload, 1) := by decide +kernel
theorem dX9_clean_56 : decode cX9_clean 56 = .ok (.iastore, 1) := by decide +kernel
theorem dX9_clean_57 : decode cX9_clean 57 = .ok (.aload_n 0, 1) := by decide +kernel
theorem dX9_clean_58 : decode cX9_clean 58 = .ok (.getfield 32, 3) := by decide +kernel
theorem dX9_clean_61 : decode cX9_clean 61 = .ok (.iload_n 1, 1) := by decide +kernel
theorem dX9_clean_62 : decode cX9_clean 62 = .ok (.aload_n 0, 1) := by decide +kernel
theorem dX9_clean_63 : decode cX9_clean 63 = .ok (.getfield 32, 3) := by decide +kernel
theorem dX9_clean_66 : decode cX9_clean 66 = .ok (.iload_n 2, 1) := by decide +kernel
theorem dX9_clean_67 : decode cX9_clean 67 = .ok (.iaload, 1) := by decide +kernel
theorem dX9_clean_68 : decode cX9_clean 68 = .ok (.iastore, 1) := by decide +kernel
theorem dX9_clean_69 : decode cX9_clean 69 = .ok (.aload_n 0, 1) := by decide +kernel
theorem dX9_clean_70 : decode cX9_clean 70 = .ok (.getfield 35, 3) := by decide +kernel
theorem dX9_clean_73 : decode cX9_clean 73 = .ok (.iload_n 1, 1) := by decide +kernel
theorem dX9_clean_74 : decode cX9_clean 74 = .ok (.aload_n 0, 1) := by decide +kernel
theorem dX9_clean_75 : decode cX9_clean 75 = .ok (.getfield 35, 3) := by decide +kernel
theorem dX9_clean_78 : decode cX9_clean 78 = .ok (.iload_n 2, 1) := by decide +kernel
theorem dX9_clean_79 : decode cX9_clean 79 = .ok (.baload, 1) := by decide +kernel
theorem dX9_clean_80 : decode cX9_clean 80 = .ok (.bastore, 1) := by decide +kernel
theorem dX9_clean_81 : decode cX9_clean 81 = .ok (.aload_n 0, 1) := by decide +kernel
theorem dX9_clean_82 : decode cX9_clean 82 = .ok (.getfield 41, 3) := by decide +kernel
theorem dX9_clean_85 : decode cX9_clean 85 = .ok (.iload_n 1, 1) := by decide +kernel
theorem dX9_clean_86 : decode cX9_clean 86 = .ok (.aload_n 0, 1) := by decide +kernel
theorem dX9_clean_87 : decode cX9_clean 87 = .ok (.getfield 41, 3) := by decide +kernel
theorem dX9_clean_90 : decode cX9_clean 90 = .ok (.iload_n 2, 1) := by decide +kernel
theorem dX9_clean_91 : decode cX9_clean 91 = .ok (.iaload, 1) := by decide +kernel
theorem dX9_clean_92 : decode cX9_clean 92 = .ok (.iastore, 1) := by decide +kernel
theorem dX9_clean_93 : decode cX9_clean 93 = .ok (.iconst 0, 1) := by decide +kernel
theorem dX9_clean_94 : decode cX9_clean 94 = .ok (.istore_n 3, 1) := by decide +kernel
theorem dX9_clean_95 : decode cX9_clean 95 = .ok (.iload_n 3, 1) := by decide +kernel
theorem dX9_clean_96 : decode cX9_clean 96 = .ok (.iconst 3, 1) := by decide +kernel
theorem dX9_clean_97 : decode cX9_clean 97 = .ok (.if_icmp .ge 29, 3) := by decide +kernel
theorem dX9_clean_100 : decode cX9_clean 100 = .ok (.aload_n 0, 1) := by decide +kernel
theorem dX9_clean_101 : decode cX9_clean 101 = .ok (.getfield 38, 3) := by decide +kernel
theorem dX9_clean_104 : decode cX9_clean 104 = .ok (.iconst 3, 1) := by decide +kernel
theorem dX9_clean_105 : decode cX9_clean 105 = .ok (.iload_n 1, 1) := by decide +kernel
theorem dX9_clean_106 : decode cX9_clean 106 = .ok (.imul, 1) := by decide +kernel
theorem dX9_clean_107 : decode cX9_clean 107 = .ok (.iload_n 3, 1) := by decide +kernel
theorem dX9_clean_108 : decode cX9_clean 108 = .ok (.iadd, 1) := by decide +kernel
theorem dX9_clean_109 : decode cX9_clean 109 = .ok (.aload_n 0, 1) := by decide +kernel
theorem dX9_clean_110 : decode cX9_clean 110 = .ok (.getfield 38, 3) := by decide +kernel
theorem dX9_clean_113 : decode cX9_clean 113 = .ok (.iconst 3, 1) := by decide +kernel
theorem dX9_clean_114 : decode cX9_clean 114 = .ok (.iload_n 2, 1) := by decide +kernel
theorem dX9_clean_115 : decode cX9_clean 115 = .ok (.imul, 1) := by decide +kernel
theorem dX9_clean_116 : decode cX9_clean 116 = .ok (.iload_n 3, 1) := by decide +kernel
theorem dX9_clean_117 : decode cX9_clean 117 = .ok (.iadd, 1) := by decide +kernel
theorem dX9_clean_118 : decode cX9_clean 118 = .ok (.iaload, 1) := by decide +kernel
theorem dX9_clean_119 : decode cX9_clean 119 = .ok (.iastore, 1) := by decide +kernel
theorem dX9_clean_120 : decode cX9_clean 120 = .ok (.iinc 3 1, 3) := by decide +kernel
theorem dX9_clean_123 : decode cX9_clean 123 = .ok (.goto (-28), 3) := by decide +kernel
theorem dX9_clean_126 : decode cX9_clean 126 = .ok (.iinc 1 1, 3) := by decide +kernel
theorem dX9_clean_129 : decode cX9_clean 129 = .ok (.iinc 2 1, 3) := by decide +kernel
theorem dX9_clean_132 : decode cX9_clean 132 = .ok (.goto (-128), 3) := by decide +kernel
theorem dX9_clean_135 : decode cX9_clean 135 = .ok (.aload_n 0, 1) := by decide +kernel
theorem dX9_clean_136 : decode cX9_clean 136 = .ok (.iload_n 1, 1) := by decide +kernel
theorem dX9_clean_137 : decode cX9_clean 137 = .ok (.putfield 106, 3) := by decide +kernel
theorem dX9_clean_140 : decode cX9_clean 140 = .ok (.return_, 1) := by decide +kernel
theorem dX9_from_0 : decode cX9_from 0 = .ok (.iconst 1, 1) := by decide +kernel
theorem dX9_from_1 : decode cX9_from 1 = .ok (.istore_n 3, 1) := by decide +kernel
theorem dX9_from_2 : decode cX9_from 2 = .ok (.iload_n 2, 1) := by decide +kernel
theorem dX9_from_3 : decode cX9_from 3 = .ok (.iconst 1, 1) := by decide +kernel
theorem dX9_from_4 : decode cX9_from 4 = .ok (.iadd, 1) := by decide +kernel
theorem dX9_from_5 : decode cX9_from 5 = .ok (.istore 4, 2) := by decide +kernel
theorem dX9_from_7 : decode cX9_from 7 = .ok (.iload_n 3, 1) := by decide +kernel
theorem dX9_from_8 : decode cX9_from 8 = .ok (.ifCond .le 29, 3) := by decide +kernel
theorem dX9_from_11 : decode cX9_from 11 = .ok (.iinc 4 (-1), 3) := by decide +kernel
theorem dX9_from_14 : decode cX9_from 14 = .ok (.iload_n 3, 1) := by decide +kernel
theorem dX9_from_15 : decode cX9_from 15 = .ok (.aload_n 0, 1) := by decide +kernel
theorem dX9_from_16 : decode cX9_from 16 = .ok (.getfield 13, 3) := by decide +kernel
theorem dX9_from_19 : decode cX9_from 19 = .ok (.bipush 15, 2) := by decide +kernel
theorem dX9_from_21 : decode cX9_from 21 = .ok (.iload_n 1, 1) := by decide +kernel
theorem dX9_from_22 : decode cX9_from 22 = .ok (.imul, 1) := by decide +kernel
theorem dX9_from_23 : decode cX9_from 23 = .ok (.iload 4, 2) := by decide +kernel
theorem dX9_from_25 : decode cX9_from 25 = .ok (.iadd, 1) := by decide +kernel
theorem dX9_from_26 : decode cX9_from 26 = .ok (.iaload, 1) := by decide +kernel
theorem dX9_from_27 : decode cX9_from 27 = .ok (.invokestatic 88, 3) := by decide +kernel
theorem dX9_from_30 : decode cX9_from 30 = .ok (.iconst 1, 1) := by decide +kernel
theorem dX9_from_31 : decode cX9_from 31 = .ok (.isub, 1) := by decide +kernel
theorem dX9_from_32 : decode cX9_from 32 = .ok (.iadd, 1) := by decide +kernel
theorem dX9_from_33 : decode cX9_from 33 = .ok (.istore_n 3, 1) := by decide +kernel
theorem dX9_from_34 : decode cX9_from 34 = .ok (.goto (-27), 3) := by decide +kernel
theorem dX9_from_37 : decode cX9_from 37 = .ok (.iload 4, 2) := by decide +kernel
theorem dX9_from_39 : decode cX9_from 39 = .ok (.ireturn, 1) := by decide +kernel
theorem dX9_same_0 : decode cX9_same 0 = .ok (.bipush 8, 2) := by decide +kernel
theorem dX9_same_2 : decode cX9_same 2 = .ok (.iload 4, 2) := by decide +kernel
theorem dX9_same_4 : decode cX9_same 4 = .ok (.iadd, 1) := by decide +kernel
theorem dX9_same_5 : decode cX9_same 5 = .ok (.istore 5, 2) := by decide +kernel
theorem dX9_same_7 : decode cX9_same 7 = .ok (.iload_n 3, 1) := by decide +kernel
theorem dX9_same_8 : decode cX9_same 8 = .ok (.iload_n 2, 1) := by decide +kernel
theorem dX9_same_9 : decode cX9_same 9 = .ok (.isub, 1) := by decide +kernel
theorem dX9_same_10 : decode cX9_same 10 = .ok (.iconst 1, 1) := by decide +kernel
theorem dX9_same_11 : decode cX9_same 11 = .ok (.iadd, 1) := by decide +kernel
theorem dX9_same_12 : decode cX9_same 12 = .ok (.aload_n 0, 1) := by decide +kernel
theorem dX9_same_13 : decode cX9_same 13 = .ok (.getfield 7, 3) := by decide +kernel
theorem dX9_same_16 : decode cX9_same 16 = .ok (.iload 5, 2) := by decide +kernel
theorem dX9_same_18 : decode cX9_same 18 = .ok (.iaload, 1) := by decide +kernel
theorem dX9_same_19 : decode cX9_same 19 = .ok (.if_icmp .ne 7, 3) := by decide +kernel
theorem dX9_same_22 : decode cX9_same 22 = .ok (.iconst 1, 1) := by decide +kernel
theorem dX9_same_23 : decode cX9_same 23 = .ok (.goto 4, 3) := by decide +kernel
theorem dX9_same_26 : decode cX9_same 26 = .ok (.iconst 0, 1) := by decide +kernel
theorem dX9_same_27 : decode cX9_same 27 = .ok (.istore 6, 2) := by decide +kernel
theorem dX9_same_29 : decode cX9_same 29 = .ok (.iconst 0, 1) := by decide +kernel
theorem dX9_same_30 : decode cX9_same 30 = .ok (.istore 7, 2) := by decide +kernel
theorem dX9_same_32 : decode cX9_same 32 = .ok (.iload 7, 2) := by decide +kernel
theorem dX9_same_34 : decode cX9_same 34 = .ok (.aload_n 0, 1) := by decide +kernel
theorem dX9_same_35 : decode cX9_same 35 = .ok (.getfield 7, 3) := by decide +kernel
theorem dX9_same_38 : decode cX9_same 38 = .ok (.iload 5, 2) := by decide +kernel
theorem dX9_same_40 : decode cX9_same 40 = .ok (.iaload, 1) := by decide +kernel
theorem dX9_same_41 : decode cX9_same 41 = .ok (.if_icmp .ge 81, 3) := by decide +kernel
theorem dX9_same_44 : decode cX9_same 44 = .ok (.iload 6, 2) := by decide +kernel
theorem dX9_same_46 : decode cX9_same 46 = .ok (.ifCond .eq 76, 3) := by decide +kernel
theorem dX9_same_49 : decode cX9_same 49 = .ok (.aload_n 0, 1) := by decide +kernel
theorem dX9_same_50 : decode cX9_same 50 = .ok (.getfield 13, 3) := by decide +kernel
theorem dX9_same_53 : decode cX9_same 53 = .ok (.bipush 15, 2) := by decide +kernel
theorem dX9_same_55 : decode cX9_same 55 = .ok (.iload_n 1, 1) := by decide +kernel
theorem dX9_same_56 : decode cX9_same 56 = .ok (.imul, 1) := by decide +kernel
theorem dX9_same_57 : decode cX9_same 57 = .ok (.iload_n 2, 1) := by decide +kernel
theorem dX9_same_58 : decode cX9_same 58 = .ok (.iadd, 1) := by decide +kernel
theorem dX9_same_59 : decode cX9_same 59 = .ok (.iload 7, 2) := by decide +kernel
theorem dX9_same_61 : decode cX9_same 61 = .ok (.iadd, 1) := by decide +kernel
theorem dX9_same_62 : decode cX9_same 62 = .ok (.iaload, 1) := by decide +kernel
theorem dX9_same_63 : decode cX9_same 63 = .ok (.aload_n 0, 1) := by decide +kernel
theorem dX9_same_64 : decode cX9_same 64 = .ok (.getfield 13, 3) := by decide +kernel
theorem dX9_same_67 : decode cX9_same 67 = .ok (.bipush 15, 2) := by decide +kernel
theorem dX9_same_69 : decode cX9_same 69 = .ok (.iload 5, 2) := by decide +kernel
theorem dX9_same_71 : decode cX9_same 71 = .ok (.imul, 1) := by decide +kernel
theorem dX9_same_72 : decode cX9_same 72 = .ok (.iload 7, 2) := by decide +kernel
theorem dX9_same_74 : decode cX9_same 74 = .ok (.iadd, 1) := by decide +kernel
theorem dX9_same_75 : decode cX9_same 75 = .ok (.iaload, 1) := by decide +kernel
theorem dX9_same_76 : decode cX9_same 76 = .ok (.if_icmp .ne 37, 3) := by decide +kernel
theorem dX9_same_79 : decode cX9_same 79 = .ok (.aload_n 0, 1) := by decide +kernel
theorem dX9_same_80 : decode cX9_same 80 = .ok (.getfield 16, 3) := by decide +kernel
theorem dX9_same_83 : decode cX9_same 83 = .ok (.bipush 15, 2) := by decide +kernel
theorem dX9_same_85 : decode cX9_same 85 = .ok (.iload_n 1, 1) := by decide +kernel
theorem dX9_same_86 : decode cX9_same 86 = .ok (.imul, 1) := by decide +kernel
theorem dX9_same_87 : decode cX9_same 87 = .ok (.iload_n 2, 1) := by decide +kernel
theorem dX9_same_88 : decode cX9_same 88 = .ok (.iadd, 1) := by decide +kernel
theorem dX9_same_89 : decode cX9_same 89 = .ok (.iload 7, 2) := by decide +kernel
theorem dX9_same_91 : decode cX9_same 91 = .ok (.iadd, 1) := by decide +kernel
theorem dX9_same_92 : decode cX9_same 92 = .ok (.iaload, 1) := by decide +kernel
theorem dX9_same_93 : decode cX9_same 93 = .ok (.aload_n 0, 1) := by decide +kernel
theorem dX9_same_94 : decode cX9_same 94 = .ok (.getfield 16, 3) := by decide +kernel
theorem dX9_same_97 : decode cX9_same 97 = .ok (.bipush 15, 2) := by decide +kernel
theorem dX9_same_99 : decode cX9_same 99 = .ok (.iload 5, 2) := by decide +kernel
theorem dX9_same_101 : decode cX9_same 101 = .ok (.imul, 1) := by decide +kernel
theorem dX9_same_102 : decode cX9_same 102 = .ok (.iload 7, 2) := by decide +kernel
theorem dX9_same_104 : decode cX9_same 104 = .ok (.iadd, 1) := by decide +kernel
theorem dX9_same_105 : decode cX9_same 105 = .ok (.iaload, 1) := by decide +kernel
theorem dX9_same_106 : decode cX9_same 106 = .ok (.if_icmp .ne 7, 3) := by decide +kernel
theorem dX9_same_109 : decode cX9_same 109 = .ok (.iconst 1, 1) := by decide +kernel
theorem dX9_same_110 : decode cX9_same 110 = .ok (.goto 4, 3) := by decide +kernel
theorem dX9_same_113 : decode cX9_same 113 = .ok (.iconst 0, 1) := by decide +kernel
theorem dX9_same_114 : decode cX9_same 114 = .ok (.istore 6, 2) := by decide +kernel
theorem dX9_same_116 : decode cX9_same 116 = .ok (.iinc 7 1, 3) := by decide +kernel
theorem dX9_same_119 : decode cX9_same 119 = .ok (.goto (-87), 3) := by decide +kernel
theorem dX9_same_122 : decode cX9_same 122 = .ok (.iload 6, 2) := by decide +kernel
theorem dX9_same_124 : decode cX9_same 124 = .ok (.ireturn, 1) := by decide +kernel
theorem dX9_bound_0 : decode cX9_bound 0 = .ok (.aload_n 0, 1) := by decide +kernel
theorem dX9_bound_1 : decode cX9_bound 1 = .ok (.iconst 1, 1) := by decide +kernel
theorem dX9_bound_2 : decode cX9_bound 2 = .ok (.putfield 209, 3) := by decide +kernel
theorem dX9_bound_5 : decode cX9_bound 5 = .ok (.aload_n 0, 1) := by decide +kernel
theorem dX9_bound_6 : decode cX9_bound 6 = .ok (.lload_n 1, 1) := by decide +kernel
theorem dX9_bound_7 : decode cX9_bound 7 = .ok (.aload_n 0, 1) := by decide +kernel
theorem dX9_bound_8 : decode cX9_bound 8 = .ok (.getfield 213, 3) := by decide +kernel
theorem dX9_bound_11 : decode cX9_bound 11 = .ok (.lcmp, 1) := by decide +kernel
theorem dX9_bound_12 : decode cX9_bound 12 = .ok (.ifCond .le 7, 3) := by decide +kernel
theorem dX9_bound_15 : decode cX9_bound 15 = .ok (.lload_n 1, 1) := by decide +kernel
theorem dX9_bound_16 : decode cX9_bound 16 = .ok (.goto 7, 3) := by decide +kernel
theorem dX9_bound_19 : decode cX9_bound 19 = .ok (.aload_n 0, 1) := by decide +kernel
theorem dX9_bound_20 : decode cX9_bound 20 = .ok (.getfield 213, 3) := by decide +kernel
theorem dX9_bound_23 : decode cX9_bound 23 = .ok (.putfield 213, 3) := by decide +kernel
theorem dX9_bound_26 : decode cX9_bound 26 = .ok (.aload_n 0, 1) := by decide +kernel
theorem dX9_bound_27 : decode cX9_bound 27 = .ok (.lload_n 3, 1) := by decide +kernel
theorem dX9_bound_28 : decode cX9_bound 28 = .ok (.aload_n 0, 1) := by decide +kernel
theorem dX9_bound_29 : decode cX9_bound 29 = .ok (.getfield 217, 3) := by decide +kernel
theorem dX9_bound_32 : decode cX9_bound 32 = .ok (.lcmp, 1) := by decide +kernel
theorem dX9_bound_33 : decode cX9_bound 33 = .ok (.ifCond .ge 7, 3) := by decide +kernel
theorem dX9_bound_36 : decode cX9_bound 36 = .ok (.lload_n 3, 1) := by decide +kernel
theorem dX9_bound_37 : decode cX9_bound 37 = .ok (.goto 7, 3) := by decide +kernel
theorem dX9_bound_40 : decode cX9_bound 40 = .ok (.aload_n 0, 1) := by decide +kernel
theorem dX9_bound_41 : decode cX9_bound 41 = .ok (.getfield 217, 3) := by decide +kernel
theorem dX9_bound_44 : decode cX9_bound 44 = .ok (.putfield 217, 3) := by decide +kernel
theorem dX9_bound_47 : decode cX9_bound 47 = .ok (.return_, 1) := by decide +kernel
theorem dX9_conjunct_0 : decode cX9_conjunct 0 = .ok (.aload_n 0, 1) := by decide +kernel
theorem dX9_conjunct_1 : decode cX9_conjunct 1 = .ok (.getfield 13, 3) := by decide +kernel
theorem dX9_conjunct_4 : decode cX9_conjunct 4 = .ok (.bipush 15, 2) := by decide +kernel
theorem dX9_conjunct_6 : decode cX9_conjunct 6 = .ok (.iload_n 1, 1) := by decide +kernel
theorem dX9_conjunct_7 : decode cX9_conjunct 7 = .ok (.imul, 1) := by decide +kernel
theorem dX9_conjunct_8 : decode cX9_conjunct 8 = .ok (.iload_n 2, 1) := by decide +kernel
theorem dX9_conjunct_9 : decode cX9_conjunct 9 = .ok (.iadd, 1) := by decide +kernel
theorem dX9_conjunct_10 : decode cX9_conjunct 10 = .ok (.iaload, 1) := by decide +kernel
theorem dX9_conjunct_11 : decode cX9_conjunct 11 = .ok (.istore 4, 2) := by decide +kernel
theorem dX9_conjunct_13 : decode cX9_conjunct 13 = .ok (.iload 4, 2) := by decide +kernel
theorem dX9_conjunct_15 : decode cX9_conjunct 15 = .ok (.bipush 7, 2) := by decide +kernel
theorem dX9_conjunct_17 : decode cX9_conjunct 17 = .ok (.if_icmp .eq 11, 3) := by decide +kernel
theorem dX9_conjunct_20 : decode cX9_conjunct 20 = .ok (.iload 4, 2) := by decide +kernel
theorem dX9_conjunct_22 : decode cX9_conjunct 22 = .ok (.bipush 8, 2) := by decide +kernel
theorem dX9_conjunct_24 : decode cX9_conjunct 24 = .ok (.if_icmp .eq 4, 3) := by decide +kernel
theorem dX9_conjunct_27 : decode cX9_conjunct 27 = .ok (.return_, 1) := by decide +kernel
theorem dX9_conjunct_28 : decode cX9_conjunct 28 = .ok (.aload_n 0, 1) := by decide +kernel
theorem dX9_conjunct_29 : decode cX9_conjunct 29 = .ok (.iload_n 1, 1) := by decide +kernel
theorem dX9_conjunct_30 : decode cX9_conjunct 30 = .ok (.iload_n 2, 1) := by decide +kernel
theorem dX9_conjunct_31 : decode cX9_conjunct 31 = .ok (.iconst 1, 1) := by decide +kernel
theorem dX9_conjunct_32 : decode cX9_conjunct 32 = .ok (.isub, 1) := by decide +kernel
theorem dX9_conjunct_33 : decode cX9_conjunct 33 = .ok (.invokevirtual 220, 3) := by decide +kernel
theorem dX9_conjunct_36 : decode cX9_conjunct 36 = .ok (.istore 5, 2) := by decide +kernel
theorem dX9_conjunct_38 : decode cX9_conjunct 38 = .ok (.aload_n 0, 1) := by decide +kernel
theorem dX9_conjunct_39 : decode cX9_conjunct 39 = .ok (.iload_n 1, 1) := by decide +kernel
theorem dX9_conjunct_40 : decode cX9_conjunct 40 = .ok (.iload 5, 2) := by decide +kernel
theorem dX9_conjunct_42 : decode cX9_conjunct 42 = .ok (.iconst 1, 1) := by decide +kernel
theorem dX9_conjunct_43 : decode cX9_conjunct 43 = .ok (.isub, 1) := by decide +kernel
theorem dX9_conjunct_44 : decode cX9_conjunct 44 = .ok (.invokevirtual 220, 3) := by decide +kernel
theorem dX9_conjunct_47 : decode cX9_conjunct 47 = .ok (.istore 6, 2) := by decide +kernel
theorem dX9_conjunct_49 : decode cX9_conjunct 49 = .ok (.iload 5, 2) := by decide +kernel
theorem dX9_conjunct_51 : decode cX9_conjunct 51 = .ok (.iload_n 2, 1) := by decide +kernel
theorem dX9_conjunct_52 : decode cX9_conjunct 52 = .ok (.iconst 1, 1) := by decide +kernel
theorem dX9_conjunct_53 : decode cX9_conjunct 53 = .ok (.isub, 1) := by decide +kernel
theorem dX9_conjunct_54 : decode cX9_conjunct 54 = .ok (.if_icmp .ne 84, 3) := by decide +kernel
theorem dX9_conjunct_57 : decode cX9_conjunct 57 = .ok (.aload_n 0, 1) := by decide +kernel
theorem dX9_conjunct_58 : decode cX9_conjunct 58 = .ok (.getfield 13, 3) := by decide +kernel
theorem dX9_conjunct_61 : decode cX9_conjunct 61 = .ok (.bipush 15, 2) := by decide +kernel
theorem dX9_conjunct_63 : decode cX9_conjunct 63 = .ok (.iload_n 1, 1) := by decide +kernel
theorem dX9_conjunct_64 : decode cX9_conjunct 64 = .ok (.imul, 1) := by decide +kernel
theorem dX9_conjunct_65 : decode cX9_conjunct 65 = .ok (.iload 5, 2) := by decide +kernel
theorem dX9_conjunct_67 : decode cX9_conjunct 67 = .ok (.iadd, 1) := by decide +kernel
theorem dX9_conjunct_68 : decode cX9_conjunct 68 = .ok (.iaload, 1) := by decide +kernel
theorem dX9_conjunct_69 : decode cX9_conjunct 69 = .ok (.iconst 3, 1) := by decide +kernel
theorem dX9_conjunct_70 : decode cX9_conjunct 70 = .ok (.if_icmp .ne 68, 3) := by decide +kernel
theorem dX9_conjunct_73 : decode cX9_conjunct 73 = .ok (.aload_n 0, 1) := by decide +kernel
theorem dX9_conjunct_74 : decode cX9_conjunct 74 = .ok (.iload_n 1, 1) := by decide +kernel
theorem dX9_conjunct_75 : decode cX9_conjunct 75 = .ok (.iload 6, 2) := by decide +kernel
theorem dX9_conjunct_77 : decode cX9_conjunct 77 = .ok (.iload 5, 2) := by decide +kernel
theorem dX9_conjunct_79 : decode cX9_conjunct 79 = .ok (.iconst 1, 1) := by decide +kernel
theorem dX9_conjunct_80 : decode cX9_conjunct 80 = .ok (.isub, 1) := by decide +kernel
theorem dX9_conjunct_81 : decode cX9_conjunct 81 = .ok (.iload_n 3, 1) := by decide +kernel
theorem dX9_conjunct_82 : decode cX9_conjunct 82 = .ok (.invokevirtual 223, 3) := by decide +kernel
theorem dX9_conjunct_85 : decode cX9_conjunct 85 = .ok (.ifCond .eq 53, 3) := by decide +kernel
theorem dX9_conjunct_88 : decode cX9_conjunct 88 = .ok (.aload_n 0, 1) := by decide +kernel
theorem dX9_conjunct_89 : decode cX9_conjunct 89 = .ok (.getfield 16, 3) := by decide +kernel
theorem dX9_conjunct_92 : decode cX9_conjunct 92 = .ok (.bipush 15, 2) := by decide +kernel
theorem dX9_conjunct_94 : decode cX9_conjunct 94 = .ok (.iload_n 1, 1) := by decide +kernel
theorem dX9_conjunct_95 : decode cX9_conjunct 95 = .ok (.imul, 1) := by decide +kernel
theorem dX9_conjunct_96 : decode cX9_conjunct 96 = .ok (.iload 5, 2) := by decide +kernel
theorem dX9_conjunct_98 : decode cX9_conjunct 98 = .ok (.iadd, 1) := by decide +kernel
theorem dX9_conjunct_99 : decode cX9_conjunct 99 = .ok (.iaload, 1) := by decide +kernel
theorem dX9_conjunct_100 : decode cX9_conjunct 100 = .ok (.i2l, 1) := by decide +kernel
theorem dX9_conjunct_101 : decode cX9_conjunct 101 = .ok (.lstore 7, 2) := by decide +kernel
theorem dX9_conjunct_103 : decode cX9_conjunct 103 = .ok (.aload_n 0, 1) := by decide +kernel
theorem dX9_conjunct_104 : decode cX9_conjunct 104 = .ok (.iload 4, 2) := by decide +kernel
theorem dX9_conjunct_106 : decode cX9_conjunct 106 = .ok (.bipush 8, 2) := by decide +kernel
theorem dX9_conjunct_108 : decode cX9_conjunct 108 = .ok (.if_icmp .ne 8, 3) := by decide +kernel
theorem dX9_conjunct_111 : decode cX9_conjunct 111 = .ok (.lload 7, 2) := by decide +kernel
theorem dX9_conjunct_113 : decode cX9_conjunct 113 = .ok (.goto 6, 3) := by decide +kernel
theorem dX9_conjunct_116 : decode cX9_conjunct 116 = .ok (.ldc2_w 227, 3) := by decide +kernel
theorem dX9_conjunct_119 : decode cX9_conjunct 119 = .ok (.iload 4, 2) := by decide +kernel
theorem dX9_conjunct_121 : decode cX9_conjunct 121 = .ok (.bipush 8, 2) := by decide +kernel
theorem dX9_conjunct_123 : decode cX9_conjunct 123 = .ok (.if_icmp .ne 8, 3) := by decide +kernel
theorem dX9_conjunct_126 : decode cX9_conjunct 126 = .ok (.lload 7, 2) := by decide +kernel
theorem dX9_conjunct_128 : decode cX9_conjunct 128 = .ok (.goto 7, 3) := by decide +kernel
theorem dX9_conjunct_131 : decode cX9_conjunct 131 = .ok (.lload 7, 2) := by decide +kernel
theorem dX9_conjunct_133 : decode cX9_conjunct 133 = .ok (.lconst 1, 1) := by decide +kernel
theorem dX9_conjunct_134 : decode cX9_conjunct 134 = .ok (.lsub, 1) := by decide +kernel
theorem dX9_conjunct_135 : decode cX9_conjunct 135 = .ok (.invokevirtual 229, 3) := by decide +kernel
theorem dX9_conjunct_138 : decode cX9_conjunct 138 = .ok (.iload 6, 2) := by decide +kernel
theorem dX9_conjunct_140 : decode cX9_conjunct 140 = .ok (.iload 5, 2) := by decide +kernel
theorem dX9_conjunct_142 : decode cX9_conjunct 142 = .ok (.iconst 1, 1) := by decide +kernel
theorem dX9_conjunct_143 : decode cX9_conjunct 143 = .ok (.isub, 1) := by decide +kernel
theorem dX9_conjunct_144 : decode cX9_conjunct 144 = .ok (.if_icmp .ne 83, 3) := by decide +kernel
theorem dX9_conjunct_147 : decode cX9_conjunct 147 = .ok (.aload_n 0, 1) := by decide +kernel
theorem dX9_conjunct_148 : decode cX9_conjunct 148 = .ok (.getfield 13, 3) := by decide +kernel
theorem dX9_conjunct_151 : decode cX9_conjunct 151 = .ok (.bipush 15, 2) := by decide +kernel
theorem dX9_conjunct_153 : decode cX9_conjunct 153 = .ok (.iload_n 1, 1) := by decide +kernel
theorem dX9_conjunct_154 : decode cX9_conjunct 154 = .ok (.imul, 1) := by decide +kernel
theorem dX9_conjunct_155 : decode cX9_conjunct 155 = .ok (.iload 6, 2) := by decide +kernel
theorem dX9_conjunct_157 : decode cX9_conjunct 157 = .ok (.iadd, 1) := by decide +kernel
theorem dX9_conjunct_158 : decode cX9_conjunct 158 = .ok (.iaload, 1) := by decide +kernel
theorem dX9_conjunct_159 : decode cX9_conjunct 159 = .ok (.iconst 3, 1) := by decide +kernel
theorem dX9_conjunct_160 : decode cX9_conjunct 160 = .ok (.if_icmp .ne 67, 3) := by decide +kernel
theorem dX9_conjunct_163 : decode cX9_conjunct 163 = .ok (.aload_n 0, 1) := by decide +kernel
theorem dX9_conjunct_164 : decode cX9_conjunct 164 = .ok (.iload_n 1, 1) := by decide +kernel
theorem dX9_conjunct_165 : decode cX9_conjunct 165 = .ok (.iload 5, 2) := by decide +kernel
theorem dX9_conjunct_167 : decode cX9_conjunct 167 = .ok (.iload_n 2, 1) := by decide +kernel
theorem dX9_conjunct_168 : decode cX9_conjunct 168 = .ok (.iconst 1, 1) := by decide +kernel
theorem dX9_conjunct_169 : decode cX9_conjunct 169 = .ok (.isub, 1) := by decide +kernel
theorem dX9_conjunct_170 : decode cX9_conjunct 170 = .ok (.iload_n 3, 1) := by decide +kernel
theorem dX9_conjunct_171 : decode cX9_conjunct 171 = .ok (.invokevirtual 223, 3) := by decide +kernel
theorem dX9_conjunct_174 : decode cX9_conjunct 174 = .ok (.ifCond .eq 53, 3) := by decide +kernel
theorem dX9_conjunct_177 : decode cX9_conjunct 177 = .ok (.aload_n 0, 1) := by decide +kernel
theorem dX9_conjunct_178 : decode cX9_conjunct 178 = .ok (.getfield 16, 3) := by decide +kernel
theorem dX9_conjunct_181 : decode cX9_conjunct 181 = .ok (.bipush 15, 2) := by decide +kernel
theorem dX9_conjunct_183 : decode cX9_conjunct 183 = .ok (.iload_n 1, 1) := by decide +kernel
theorem dX9_conjunct_184 : decode cX9_conjunct 184 = .ok (.imul, 1) := by decide +kernel
theorem dX9_conjunct_185 : decode cX9_conjunct 185 = .ok (.iload 6, 2) := by decide +kernel
theorem dX9_conjunct_187 : decode cX9_conjunct 187 = .ok (.iadd, 1) := by decide +kernel
theorem dX9_conjunct_188 : decode cX9_conjunct 188 = .ok (.iaload, 1) := by decide +kernel
theorem dX9_conjunct_189 : decode cX9_conjunct 189 = .ok (.i2l, 1) := by decide +kernel
theorem dX9_conjunct_190 : decode cX9_conjunct 190 = .ok (.lstore 7, 2) := by decide +kernel
theorem dX9_conjunct_192 : decode cX9_conjunct 192 = .ok (.aload_n 0, 1) := by decide +kernel
theorem dX9_conjunct_193 : decode cX9_conjunct 193 = .ok (.iload 4, 2) := by decide +kernel
theorem dX9_conjunct_195 : decode cX9_conjunct 195 = .ok (.bipush 8, 2) := by decide +kernel
theorem dX9_conjunct_197 : decode cX9_conjunct 197 = .ok (.if_icmp .ne 8, 3) := by decide +kernel
theorem dX9_conjunct_200 : decode cX9_conjunct 200 = .ok (.lload 7, 2) := by decide +kernel
theorem dX9_conjunct_202 : decode cX9_conjunct 202 = .ok (.goto 7, 3) := by decide +kernel
theorem dX9_conjunct_205 : decode cX9_conjunct 205 = .ok (.lload 7, 2) := by decide +kernel
theorem dX9_conjunct_207 : decode cX9_conjunct 207 = .ok (.lconst 1, 1) := by decide +kernel
theorem dX9_conjunct_208 : decode cX9_conjunct 208 = .ok (.ladd, 1) := by decide +kernel
theorem dX9_conjunct_209 : decode cX9_conjunct 209 = .ok (.iload 4, 2) := by decide +kernel
theorem dX9_conjunct_211 : decode cX9_conjunct 211 = .ok (.bipush 8, 2) := by decide +kernel
theorem dX9_conjunct_213 : decode cX9_conjunct 213 = .ok (.if_icmp .ne 8, 3) := by decide +kernel
theorem dX9_conjunct_216 : decode cX9_conjunct 216 = .ok (.lload 7, 2) := by decide +kernel
theorem dX9_conjunct_218 : decode cX9_conjunct 218 = .ok (.goto 6, 3) := by decide +kernel
theorem dX9_conjunct_221 : decode cX9_conjunct 221 = .ok (.ldc2_w 233, 3) := by decide +kernel
theorem dX9_conjunct_224 : decode cX9_conjunct 224 = .ok (.invokevirtual 229, 3) := by decide +kernel
theorem dX9_conjunct_227 : decode cX9_conjunct 227 = .ok (.return_, 1) := by decide +kernel
theorem dX9_conjuncts_0 : decode cX9_conjuncts 0 = .ok (.aload_n 0, 1) := by decide +kernel
theorem dX9_conjuncts_1 : decode cX9_conjuncts 1 = .ok (.iconst 0, 1) := by decide +kernel
theorem dX9_conjuncts_2 : decode cX9_conjuncts 2 = .ok (.putfield 209, 3) := by decide +kernel
theorem dX9_conjuncts_5 : decode cX9_conjuncts 5 = .ok (.aload_n 0, 1) := by decide +kernel
theorem dX9_conjuncts_6 : decode cX9_conjuncts 6 = .ok (.ldc2_w 227, 3) := by decide +kernel
theorem dX9_conjuncts_9 : decode cX9_conjuncts 9 = .ok (.putfield 213, 3) := by decide +kernel
theorem dX9_conjuncts_12 : decode cX9_conjuncts 12 = .ok (.aload_n 0, 1) := by decide +kernel
theorem dX9_conjuncts_13 : decode cX9_conjuncts 13 = .ok (.ldc2_w 233, 3) := by decide +kernel
theorem dX9_conjuncts_16 : decode cX9_conjuncts 16 = .ok (.putfield 217, 3) := by decide +kernel
theorem dX9_conjuncts_19 : decode cX9_conjuncts 19 = .ok (.aload_n 0, 1) := by decide +kernel
theorem dX9_conjuncts_20 : decode cX9_conjuncts 20 = .ok (.getfield 65, 3) := by decide +kernel
theorem dX9_conjuncts_23 : decode cX9_conjuncts 23 = .ok (.iconst 0, 1) := by decide +kernel
theorem dX9_conjuncts_24 : decode cX9_conjuncts 24 = .ok (.aload_n 0, 1) := by decide +kernel
theorem dX9_conjuncts_25 : decode cX9_conjuncts 25 = .ok (.getfield 7, 3) := by decide +kernel
theorem dX9_conjuncts_28 : decode cX9_conjuncts 28 = .ok (.iload_n 1, 1) := by decide +kernel
theorem dX9_conjuncts_29 : decode cX9_conjuncts 29 = .ok (.iaload, 1) := by decide +kernel
theorem dX9_conjuncts_30 : decode cX9_conjuncts 30 = .ok (.iconst 1, 1) := by decide +kernel
theorem dX9_conjuncts_31 : decode cX9_conjuncts 31 = .ok (.isub, 1) := by decide +kernel
theorem dX9_conjuncts_32 : decode cX9_conjuncts 32 = .ok (.iastore, 1) := by decide +kernel
theorem dX9_conjuncts_33 : decode cX9_conjuncts 33 = .ok (.iconst 1, 1) := by decide +kernel
theorem dX9_conjuncts_34 : decode cX9_conjuncts 34 = .ok (.istore_n 3, 1) := by decide +kernel
theorem dX9_conjuncts_35 : decode cX9_conjuncts 35 = .ok (.iload_n 3, 1) := by decide +kernel
theorem dX9_conjuncts_36 : decode cX9_conjuncts 36 = .ok (.ifCond .le 77, 3) := by decide +kernel
theorem dX9_conjuncts_39 : decode cX9_conjuncts 39 = .ok (.iinc 3 (-1), 3) := by decide +kernel
theorem dX9_conjuncts_42 : decode cX9_conjuncts 42 = .ok (.aload_n 0, 1) := by decide +kernel
theorem dX9_conjuncts_43 : decode cX9_conjuncts 43 = .ok (.getfield 65, 3) := by decide +kernel
theorem dX9_conjuncts_46 : decode cX9_conjuncts 46 = .ok (.iload_n 3, 1) := by decide +kernel
theorem dX9_conjuncts_47 : decode cX9_conjuncts 47 = .ok (.iaload, 1) := by decide +kernel
theorem dX9_conjuncts_48 : decode cX9_conjuncts 48 = .ok (.istore 4, 2) := by decide +kernel
theorem dX9_conjuncts_50 : decode cX9_conjuncts 50 = .ok (.aload_n 0, 1) := by decide +kernel
theorem dX9_conjuncts_51 : decode cX9_conjuncts 51 = .ok (.getfield 13, 3) := by decide +kernel
theorem dX9_conjuncts_54 : decode cX9_conjuncts 54 = .ok (.bipush 15, 2) := by decide +kernel
theorem dX9_conjuncts_56 : decode cX9_conjuncts 56 = .ok (.iload_n 1, 1) := by decide +kernel
theorem dX9_conjuncts_57 : decode cX9_conjuncts 57 = .ok (.imul, 1) := by decide +kernel
theorem dX9_conjuncts_58 : decode cX9_conjuncts 58 = .ok (.iload 4, 2) := by decide +kernel
theorem dX9_conjuncts_60 : decode cX9_conjuncts 60 = .ok (.iadd, 1) := by decide +kernel
theorem dX9_conjuncts_61 : decode cX9_conjuncts 61 = .ok (.iaload, 1) := by decide +kernel
theorem dX9_conjuncts_62 : decode cX9_conjuncts 62 = .ok (.bipush 9, 2) := by decide +kernel
theorem dX9_conjuncts_64 : decode cX9_conjuncts 64 = .ok (.if_icmp .ne 38, 3) := by decide +kernel
theorem dX9_conjuncts_67 : decode cX9_conjuncts 67 = .ok (.aload_n 0, 1) := by decide +kernel
theorem dX9_conjuncts_68 : decode cX9_conjuncts 68 = .ok (.getfield 65, 3) := by decide +kernel
theorem dX9_conjuncts_71 : decode cX9_conjuncts 71 = .ok (.iload_n 3, 1) := by decide +kernel
theorem dX9_conjuncts_72 : decode cX9_conjuncts 72 = .ok (.iload 4, 2) := by decide +kernel
theorem dX9_conjuncts_74 : decode cX9_conjuncts 74 = .ok (.iconst 1, 1) := by decide +kernel
theorem dX9_conjuncts_75 : decode cX9_conjuncts 75 = .ok (.isub, 1) := by decide +kernel
theorem dX9_conjuncts_76 : decode cX9_conjuncts 76 = .ok (.iastore, 1) := by decide +kernel
theorem dX9_conjuncts_77 : decode cX9_conjuncts 77 = .ok (.aload_n 0, 1) := by decide +kernel
theorem dX9_conjuncts_78 : decode cX9_conjuncts 78 = .ok (.getfield 65, 3) := by decide +kernel
theorem dX9_conjuncts_81 : decode cX9_conjuncts 81 = .ok (.iload_n 3, 1) := by decide +kernel
theorem dX9_conjuncts_82 : decode cX9_conjuncts 82 = .ok (.iconst 1, 1) := by decide +kernel
theorem dX9_conjuncts_83 : decode cX9_conjuncts 83 = .ok (.iadd, 1) := by decide +kernel
theorem dX9_conjuncts_84 : decode cX9_conjuncts 84 = .ok (.aload_n 0, 1) := by decide +kernel
theorem dX9_conjuncts_85 : decode cX9_conjuncts 85 = .ok (.iload_n 1, 1) := by decide +kernel
theorem dX9_conjuncts_86 : decode cX9_conjuncts 86 = .ok (.iload 4, 2) := by decide +kernel
theorem dX9_conjuncts_88 : decode cX9_conjuncts 88 = .ok (.iconst 1, 1) := by decide +kernel
theorem dX9_conjuncts_89 : decode cX9_conjuncts 89 = .ok (.isub, 1) := by decide +kernel
theorem dX9_conjuncts_90 : decode cX9_conjuncts 90 = .ok (.invokevirtual 220, 3) := by decide +kernel
theorem dX9_conjuncts_93 : decode cX9_conjuncts 93 = .ok (.iconst 1, 1) := by decide +kernel
theorem dX9_conjuncts_94 : decode cX9_conjuncts 94 = .ok (.isub, 1) := by decide +kernel
theorem dX9_conjuncts_95 : decode cX9_conjuncts 95 = .ok (.iastore, 1) := by decide +kernel
theorem dX9_conjuncts_96 : decode cX9_conjuncts 96 = .ok (.iinc 3 2, 3) := by decide +kernel
theorem dX9_conjuncts_99 : decode cX9_conjuncts 99 = .ok (.goto 11, 3) := by decide +kernel
theorem dX9_conjuncts_102 : decode cX9_conjuncts 102 = .ok (.aload_n 0, 1) := by decide +kernel
theorem dX9_conjuncts_103 : decode cX9_conjuncts 103 = .ok (.iload_n 1, 1) := by decide +kernel
theorem dX9_conjuncts_104 : decode cX9_conjuncts 104 = .ok (.iload 4, 2) := by decide +kernel
theorem dX9_conjuncts_106 : decode cX9_conjuncts 106 = .ok (.iload_n 2, 1) := by decide +kernel
theorem dX9_conjuncts_107 : decode cX9_conjuncts 107 = .ok (.invokevirtual 235, 3) := by decide +kernel
theorem dX9_conjuncts_110 : decode cX9_conjuncts 110 = .ok (.goto (-75), 3) := by decide +kernel
theorem dX9_conjuncts_113 : decode cX9_conjuncts 113 = .ok (.return_, 1) := by decide +kernel
theorem dX9_query_0 : decode cX9_query 0 = .ok (.aload_n 0, 1) := by decide +kernel
theorem dX9_query_1 : decode cX9_query 1 = .ok (.iload_n 1, 1) := by decide +kernel
theorem dX9_query_2 : decode cX9_query 2 = .ok (.invokevirtual 123, 3) := by decide +kernel
theorem dX9_query_5 : decode cX9_query 5 = .ok (.ifCond .eq 24, 3) := by decide +kernel
theorem dX9_query_8 : decode cX9_query 8 = .ok (.aload_n 0, 1) := by decide +kernel
theorem dX9_query_9 : decode cX9_query 9 = .ok (.getfield 85, 3) := by decide +kernel
theorem dX9_query_12 : decode cX9_query 12 = .ok (.ifCond .eq 17, 3) := by decide +kernel
theorem dX9_query_15 : decode cX9_query 15 = .ok (.aload_n 0, 1) := by decide +kernel
theorem dX9_query_16 : decode cX9_query 16 = .ok (.getfield 19, 3) := by decide +kernel
theorem dX9_query_19 : decode cX9_query 19 = .ok (.aload_n 0, 1) := by decide +kernel
theorem dX9_query_20 : decode cX9_query 20 = .ok (.getfield 85, 3) := by decide +kernel
theorem dX9_query_23 : decode cX9_query 23 = .ok (.iconst 1, 1) := by decide +kernel
theorem dX9_query_24 : decode cX9_query 24 = .ok (.isub, 1) := by decide +kernel
theorem dX9_query_25 : decode cX9_query 25 = .ok (.baload, 1) := by decide +kernel
theorem dX9_query_26 : decode cX9_query 26 = .ok (.ifCond .ne 5, 3) := by decide +kernel
theorem dX9_query_29 : decode cX9_query 29 = .ok (.iconst (-1), 1) := by decide +kernel
theorem dX9_query_30 : decode cX9_query 30 = .ok (.ireturn, 1) := by decide +kernel
theorem dX9_query_31 : decode cX9_query 31 = .ok (.aload_n 0, 1) := by decide +kernel
theorem dX9_query_32 : decode cX9_query 32 = .ok (.getfield 85, 3) := by decide +kernel
theorem dX9_query_35 : decode cX9_query 35 = .ok (.iconst 1, 1) := by decide +kernel
theorem dX9_query_36 : decode cX9_query 36 = .ok (.isub, 1) := by decide +kernel
theorem dX9_query_37 : decode cX9_query 37 = .ok (.istore_n 2, 1) := by decide +kernel
theorem dX9_query_38 : decode cX9_query 38 = .ok (.aload_n 0, 1) := by decide +kernel
theorem dX9_query_39 : decode cX9_query 39 = .ok (.iconst (-1), 1) := by decide +kernel
theorem dX9_query_40 : decode cX9_query 40 = .ok (.putfield 71, 3) := by decide +kernel
theorem dX9_query_43 : decode cX9_query 43 = .ok (.aload_n 0, 1) := by decide +kernel
theorem dX9_query_44 : decode cX9_query 44 = .ok (.lconst 0, 1) := by decide +kernel
theorem dX9_query_45 : decode cX9_query 45 = .ok (.putfield 239, 3) := by decide +kernel
theorem dX9_query_48 : decode cX9_query 48 = .ok (.aload_n 0, 1) := by decide +kernel
theorem dX9_query_49 : decode cX9_query 49 = .ok (.lconst 0, 1) := by decide +kernel
theorem dX9_query_50 : decode cX9_query 50 = .ok (.putfield 242, 3) := by decide +kernel
theorem dX9_query_53 : decode cX9_query 53 = .ok (.iconst 0, 1) := by decide +kernel
theorem dX9_query_54 : decode cX9_query 54 = .ok (.istore_n 3, 1) := by decide +kernel
theorem dX9_query_55 : decode cX9_query 55 = .ok (.iload_n 3, 1) := by decide +kernel
theorem dX9_query_56 : decode cX9_query 56 = .ok (.aload_n 0, 1) := by decide +kernel
theorem dX9_query_57 : decode cX9_query 57 = .ok (.getfield 100, 3) := by decide +kernel
theorem dX9_query_60 : decode cX9_query 60 = .ok (.if_icmp .ge 72, 3) := by decide +kernel
theorem dX9_query_63 : decode cX9_query 63 = .ok (.aload_n 0, 1) := by decide +kernel
theorem dX9_query_64 : decode cX9_query 64 = .ok (.iload_n 2, 1) := by decide +kernel
theorem dX9_query_65 : decode cX9_query 65 = .ok (.iload_n 3, 1) := by decide +kernel
theorem dX9_query_66 : decode cX9_query 66 = .ok (.invokevirtual 245, 3) := by decide +kernel
theorem dX9_query_69 : decode cX9_query 69 = .ok (.aload_n 0, 1) := by decide +kernel
theorem dX9_query_70 : decode cX9_query 70 = .ok (.getfield 209, 3) := by decide +kernel
theorem dX9_query_73 : decode cX9_query 73 = .ok (.ifCond .eq 53, 3) := by decide +kernel
theorem dX9_query_76 : decode cX9_query 76 = .ok (.aload_n 0, 1) := by decide +kernel
theorem dX9_query_77 : decode cX9_query 77 = .ok (.getfield 71, 3) := by decide +kernel
theorem dX9_query_80 : decode cX9_query 80 = .ok (.ifCond .lt 25, 3) := by decide +kernel
theorem dX9_query_83 : decode cX9_query 83 = .ok (.aload_n 0, 1) := by decide +kernel
theorem dX9_query_84 : decode cX9_query 84 = .ok (.getfield 217, 3) := by decide +kernel
theorem dX9_query_87 : decode cX9_query 87 = .ok (.aload_n 0, 1) := by decide +kernel
theorem dX9_query_88 : decode cX9_query 88 = .ok (.getfield 213, 3) := by decide +kernel
theorem dX9_query_91 : decode cX9_query 91 = .ok (.lsub, 1) := by decide +kernel
theorem dX9_query_92 : decode cX9_query 92 = .ok (.aload_n 0, 1) := by decide +kernel
theorem dX9_query_93 : decode cX9_query 93 = .ok (.getfield 242, 3) := by decide +kernel
theorem dX9_query_96 : decode cX9_query 96 = .ok (.aload_n 0, 1) := by decide +kernel
theorem dX9_query_97 : decode cX9_query 97 = .ok (.getfield 239, 3) := by decide +kernel
theorem dX9_query_100 : decode cX9_query 100 = .ok (.lsub, 1) := by decide +kernel
theorem dX9_query_101 : decode cX9_query 101 = .ok (.lcmp, 1) := by decide +kernel
theorem dX9_query_102 : decode cX9_query 102 = .ok (.ifCond .ge 24, 3) := by decide +kernel
theorem dX9_query_105 : decode cX9_query 105 = .ok (.aload_n 0, 1) := by decide +kernel
theorem dX9_query_106 : decode cX9_query 106 = .ok (.iload_n 3, 1) := by decide +kernel
theorem dX9_query_107 : decode cX9_query 107 = .ok (.putfield 71, 3) := by decide +kernel
theorem dX9_query_110 : decode cX9_query 110 = .ok (.aload_n 0, 1) := by decide +kernel
theorem dX9_query_111 : decode cX9_query 111 = .ok (.aload_n 0, 1) := by decide +kernel
theorem dX9_query_112 : decode cX9_query 112 = .ok (.getfield 213, 3) := by decide +kernel
theorem dX9_query_115 : decode cX9_query 115 = .ok (.putfield 239, 3) := by decide +kernel
theorem dX9_query_118 : decode cX9_query 118 = .ok (.aload_n 0, 1) := by decide +kernel
theorem dX9_query_119 : decode cX9_query 119 = .ok (.aload_n 0, 1) := by decide +kernel
theorem dX9_query_120 : decode cX9_query 120 = .ok (.getfield 217, 3) := by decide +kernel
theorem dX9_query_123 : decode cX9_query 123 = .ok (.putfield 242, 3) := by decide +kernel
theorem dX9_query_126 : decode cX9_query 126 = .ok (.iinc 3 1, 3) := by decide +kernel
theorem dX9_query_129 : decode cX9_query 129 = .ok (.goto (-74), 3) := by decide +kernel
theorem dX9_query_132 : decode cX9_query 132 = .ok (.aload_n 0, 1) := by decide +kernel
theorem dX9_query_133 : decode cX9_query 133 = .ok (.iconst 0, 1) := by decide +kernel
theorem dX9_query_134 : decode cX9_query 134 = .ok (.putfield 249, 3) := by decide +kernel
theorem dX9_query_137 : decode cX9_query 137 = .ok (.iconst 0, 1) := by decide +kernel
theorem dX9_query_138 : decode cX9_query 138 = .ok (.istore_n 3, 1) := by decide +kernel
theorem dX9_query_139 : decode cX9_query 139 = .ok (.iload_n 3, 1) := by decide +kernel
theorem dX9_query_140 : decode cX9_query 140 = .ok (.aload_n 0, 1) := by decide +kernel
theorem dX9_query_141 : decode cX9_query 141 = .ok (.getfield 106, 3) := by decide +kernel
theorem dX9_query_144 : decode cX9_query 144 = .ok (.if_icmp .ge 145, 3) := by decide +kernel
theorem dX9_query_147 : decode cX9_query 147 = .ok (.aload_n 0, 1) := by decide +kernel
theorem dX9_query_148 : decode cX9_query 148 = .ok (.getfield 71, 3) := by decide +kernel
theorem dX9_query_151 : decode cX9_query 151 = .ok (.ifCond .ge 20, 3) := by decide +kernel
theorem dX9_query_154 : decode cX9_query 154 = .ok (.aload_n 0, 1) := by decide +kernel
theorem dX9_query_155 : decode cX9_query 155 = .ok (.getfield 23, 3) := by decide +kernel
theorem dX9_query_158 : decode cX9_query 158 = .ok (.iload_n 3, 1) := by decide +kernel
theorem dX9_query_159 : decode cX9_query 159 = .ok (.iaload, 1) := by decide +kernel
theorem dX9_query_160 : decode cX9_query 160 = .ok (.ifCond .ne 7, 3) := by decide +kernel
theorem dX9_query_163 : decode cX9_query 163 = .ok (.iconst 1, 1) := by decide +kernel
theorem dX9_query_164 : decode cX9_query 164 = .ok (.goto 57, 3) := by decide +kernel
theorem dX9_query_167 : decode cX9_query 167 = .ok (.iconst 0, 1) := by decide +kernel
theorem dX9_query_168 : decode cX9_query 168 = .ok (.goto 53, 3) := by decide +kernel
theorem dX9_query_171 : decode cX9_query 171 = .ok (.aload_n 0, 1) := by decide +kernel
theorem dX9_query_172 : decode cX9_query 172 = .ok (.getfield 23, 3) := by decide +kernel
theorem dX9_query_175 : decode cX9_query 175 = .ok (.iload_n 3, 1) := by decide +kernel
theorem dX9_query_176 : decode cX9_query 176 = .ok (.iaload, 1) := by decide +kernel
theorem dX9_query_177 : decode cX9_query 177 = .ok (.aload_n 0, 1) := by decide +kernel
theorem dX9_query_178 : decode cX9_query 178 = .ok (.getfield 71, 3) := by decide +kernel
theorem dX9_query_181 : decode cX9_query 181 = .ok (.iconst 1, 1) := by decide +kernel
theorem dX9_query_182 : decode cX9_query 182 = .ok (.iadd, 1) := by decide +kernel
theorem dX9_query_183 : decode cX9_query 183 = .ok (.if_icmp .ne 37, 3) := by decide +kernel
theorem dX9_query_186 : decode cX9_query 186 = .ok (.aload_n 0, 1) := by decide +kernel
theorem dX9_query_187 : decode cX9_query 187 = .ok (.getfield 26, 3) := by decide +kernel
theorem dX9_query_190 : decode cX9_query 190 = .ok (.iload_n 3, 1) := by decide +kernel
theorem dX9_query_191 : decode cX9_query 191 = .ok (.iaload, 1) := by decide +kernel
theorem dX9_query_192 : decode cX9_query 192 = .ok (.i2l, 1) := by decide +kernel
theorem dX9_query_193 : decode cX9_query 193 = .ok (.aload_n 0, 1) := by decide +kernel
theorem dX9_query_194 : decode cX9_query 194 = .ok (.getfield 239, 3) := by decide +kernel
theorem dX9_query_197 : decode cX9_query 197 = .ok (.lcmp, 1) := by decide +kernel
theorem dX9_query_198 : decode cX9_query 198 = .ok (.ifCond .lt 22, 3) := by decide +kernel
theorem dX9_query_201 : decode cX9_query 201 = .ok (.aload_n 0, 1) := by decide +kernel
theorem dX9_query_202 : decode cX9_query 202 = .ok (.getfield 26, 3) := by decide +kernel
theorem dX9_query_205 : decode cX9_query 205 = .ok (.iload_n 3, 1) := by decide +kernel
theorem dX9_query_206 : decode cX9_query 206 = .ok (.iaload, 1) := by decide +kernel
theorem dX9_query_207 : decode cX9_query 207 = .ok (.i2l, 1) := by decide +kernel
theorem dX9_query_208 : decode cX9_query 208 = .ok (.aload_n 0, 1) := by decide +kernel
theorem dX9_query_209 : decode cX9_query 209 = .ok (.getfield 242, 3) := by decide +kernel
theorem dX9_query_212 : decode cX9_query 212 = .ok (.lcmp, 1) := by decide +kernel
theorem dX9_query_213 : decode cX9_query 213 = .ok (.ifCond .gt 7, 3) := by decide +kernel
theorem dX9_query_216 : decode cX9_query 216 = .ok (.iconst 1, 1) := by decide +kernel
theorem dX9_query_217 : decode cX9_query 217 = .ok (.goto 4, 3) := by decide +kernel
theorem dX9_query_220 : decode cX9_query 220 = .ok (.iconst 0, 1) := by decide +kernel
theorem dX9_query_221 : decode cX9_query 221 = .ok (.istore 4, 2) := by decide +kernel
theorem dX9_query_223 : decode cX9_query 223 = .ok (.aload_n 0, 1) := by decide +kernel
theorem dX9_query_224 : decode cX9_query 224 = .ok (.dup, 1) := by decide +kernel
theorem dX9_query_225 : decode cX9_query 225 = .ok (.getfield 249, 3) := by decide +kernel
theorem dX9_query_228 : decode cX9_query 228 = .ok (.iload 4, 2) := by decide +kernel
theorem dX9_query_230 : decode cX9_query 230 = .ok (.ifCond .eq 48, 3) := by decide +kernel
theorem dX9_query_233 : decode cX9_query 233 = .ok (.aload_n 0, 1) := by decide +kernel
theorem dX9_query_234 : decode cX9_query 234 = .ok (.getfield 35, 3) := by decide +kernel
theorem dX9_query_237 : decode cX9_query 237 = .ok (.iload_n 3, 1) := by decide +kernel
theorem dX9_query_238 : decode cX9_query 238 = .ok (.baload, 1) := by decide +kernel
theorem dX9_query_239 : decode cX9_query 239 = .ok (.ifCond .eq 39, 3) := by decide +kernel
theorem dX9_query_242 : decode cX9_query 242 = .ok (.aload_n 0, 1) := by decide +kernel
theorem dX9_query_243 : decode cX9_query 243 = .ok (.aload_n 0, 1) := by decide +kernel
theorem dX9_query_244 : decode cX9_query 244 = .ok (.getfield 23, 3) := by decide +kernel
theorem dX9_query_247 : decode cX9_query 247 = .ok (.iload_n 3, 1) := by decide +kernel
theorem dX9_query_248 : decode cX9_query 248 = .ok (.iaload, 1) := by decide +kernel
theorem dX9_query_249 : decode cX9_query 249 = .ok (.aload_n 0, 1) := by decide +kernel
theorem dX9_query_250 : decode cX9_query 250 = .ok (.getfield 26, 3) := by decide +kernel
theorem dX9_query_253 : decode cX9_query 253 = .ok (.iload_n 3, 1) := by decide +kernel
theorem dX9_query_254 : decode cX9_query 254 = .ok (.iaload, 1) := by decide +kernel
theorem dX9_query_255 : decode cX9_query 255 = .ok (.aload_n 0, 1) := by decide +kernel
theorem dX9_query_256 : decode cX9_query 256 = .ok (.getfield 29, 3) := by decide +kernel
theorem dX9_query_259 : decode cX9_query 259 = .ok (.iload_n 3, 1) := by decide +kernel
theorem dX9_query_260 : decode cX9_query 260 = .ok (.iaload, 1) := by decide +kernel
theorem dX9_query_261 : decode cX9_query 261 = .ok (.aload_n 0, 1) := by decide +kernel
theorem dX9_query_262 : decode cX9_query 262 = .ok (.getfield 53, 3) := by decide +kernel
theorem dX9_query_265 : decode cX9_query 265 = .ok (.iload_n 1, 1) := by decide +kernel
theorem dX9_query_266 : decode cX9_query 266 = .ok (.iaload, 1) := by decide +kernel
theorem dX9_query_267 : decode cX9_query 267 = .ok (.invokevirtual 109, 3) := by decide +kernel
theorem dX9_query_270 : decode cX9_query 270 = .ok (.iload_n 3, 1) := by decide +kernel
theorem dX9_query_271 : decode cX9_query 271 = .ok (.if_icmp .ne 7, 3) := by decide +kernel
theorem dX9_query_274 : decode cX9_query 274 = .ok (.iconst 1, 1) := by decide +kernel
theorem dX9_query_275 : decode cX9_query 275 = .ok (.goto 4, 3) := by decide +kernel
theorem dX9_query_278 : decode cX9_query 278 = .ok (.iconst 0, 1) := by decide +kernel
theorem dX9_query_279 : decode cX9_query 279 = .ok (.iadd, 1) := by decide +kernel
theorem dX9_query_280 : decode cX9_query 280 = .ok (.putfield 249, 3) := by decide +kernel
theorem dX9_query_283 : decode cX9_query 283 = .ok (.iinc 3 1, 3) := by decide +kernel
theorem dX9_query_286 : decode cX9_query 286 = .ok (.goto (-147), 3) := by decide +kernel
theorem dX9_query_289 : decode cX9_query 289 = .ok (.aload_n 0, 1) := by decide +kernel
theorem dX9_query_290 : decode cX9_query 290 = .ok (.iconst 0, 1) := by decide +kernel
theorem dX9_query_291 : decode cX9_query 291 = .ok (.putfield 252, 3) := by decide +kernel
theorem dX9_query_294 : decode cX9_query 294 = .ok (.iconst 0, 1) := by decide +kernel
theorem dX9_query_295 : decode cX9_query 295 = .ok (.istore_n 3, 1) := by decide +kernel
theorem dX9_query_296 : decode cX9_query 296 = .ok (.iload_n 3, 1) := by decide +kernel
theorem dX9_query_297 : decode cX9_query 297 = .ok (.bipush 32, 2) := by decide +kernel
theorem dX9_query_299 : decode cX9_query 299 = .ok (.if_icmp .ge 47, 3) := by decide +kernel
theorem dX9_query_302 : decode cX9_query 302 = .ok (.aload_n 0, 1) := by decide +kernel
theorem dX9_query_303 : decode cX9_query 303 = .ok (.iload_n 1, 1) := by decide +kernel
theorem dX9_query_304 : decode cX9_query 304 = .ok (.iload_n 3, 1) := by decide +kernel
theorem dX9_query_305 : decode cX9_query 305 = .ok (.invokevirtual 129, 3) := by decide +kernel
theorem dX9_query_308 : decode cX9_query 308 = .ok (.ifCond .eq 32, 3) := by decide +kernel
theorem dX9_query_311 : decode cX9_query 311 = .ok (.aload_n 0, 1) := by decide +kernel
theorem dX9_query_312 : decode cX9_query 312 = .ok (.iload_n 2, 1) := by decide +kernel
theorem dX9_query_313 : decode cX9_query 313 = .ok (.invokevirtual 132, 3) := by decide +kernel
theorem dX9_query_316 : decode cX9_query 316 = .ok (.iconst 1, 1) := by decide +kernel
theorem dX9_query_317 : decode cX9_query 317 = .ok (.if_icmp .ne 23, 3) := by decide +kernel
theorem dX9_query_320 : decode cX9_query 320 = .ok (.aload_n 0, 1) := by decide +kernel
theorem dX9_query_321 : decode cX9_query 321 = .ok (.getfield 68, 3) := by decide +kernel
theorem dX9_query_324 : decode cX9_query 324 = .ok (.aload_n 0, 1) := by decide +kernel
theorem dX9_query_325 : decode cX9_query 325 = .ok (.getfield 252, 3) := by decide +kernel
theorem dX9_query_328 : decode cX9_query 328 = .ok (.iload_n 3, 1) := by decide +kernel
theorem dX9_query_329 : decode cX9_query 329 = .ok (.iastore, 1) := by decide +kernel
theorem dX9_query_330 : decode cX9_query 330 = .ok (.aload_n 0, 1) := by decide +kernel
theorem dX9_query_331 : decode cX9_query 331 = .ok (.dup, 1) := by decide +kernel
theorem dX9_query_332 : decode cX9_query 332 = .ok (.getfield 252, 3) := by decide +kernel
theorem dX9_query_335 : decode cX9_query 335 = .ok (.iconst 1, 1) := by decide +kernel
theorem dX9_query_336 : decode cX9_query 336 = .ok (.iadd, 1) := by decide +kernel
theorem dX9_query_337 : decode cX9_query 337 = .ok (.putfield 252, 3) := by decide +kernel
theorem dX9_query_340 : decode cX9_query 340 = .ok (.iinc 3 1, 3) := by decide +kernel
theorem dX9_query_343 : decode cX9_query 343 = .ok (.goto (-47), 3) := by decide +kernel
theorem dX9_query_346 : decode cX9_query 346 = .ok (.aload_n 0, 1) := by decide +kernel
theorem dX9_query_347 : decode cX9_query 347 = .ok (.dup, 1) := by decide +kernel
theorem dX9_query_348 : decode cX9_query 348 = .ok (.getfield 85, 3) := by decide +kernel
theorem dX9_query_351 : decode cX9_query 351 = .ok (.iconst 1, 1) := by decide +kernel
theorem dX9_query_352 : decode cX9_query 352 = .ok (.isub, 1) := by decide +kernel
theorem dX9_query_353 : decode cX9_query 353 = .ok (.putfield 85, 3) := by decide +kernel
theorem dX9_query_356 : decode cX9_query 356 = .ok (.aload_n 0, 1) := by decide +kernel
theorem dX9_query_357 : decode cX9_query 357 = .ok (.getfield 252, 3) := by decide +kernel
theorem dX9_query_360 : decode cX9_query 360 = .ok (.ireturn, 1) := by decide +kernel
theorem dX9_result_0 : decode cX9_result 0 = .ok (.iload_n 1, 1) := by decide +kernel
theorem dX9_result_1 : decode cX9_result 1 = .ok (.ifCond .lt 20, 3) := by decide +kernel
theorem dX9_result_4 : decode cX9_result 4 = .ok (.iload_n 1, 1) := by decide +kernel
theorem dX9_result_5 : decode cX9_result 5 = .ok (.aload_n 0, 1) := by decide +kernel
theorem dX9_result_6 : decode cX9_result 6 = .ok (.getfield 252, 3) := by decide +kernel
theorem dX9_result_9 : decode cX9_result 9 = .ok (.if_icmp .ge 12, 3) := by decide +kernel
theorem dX9_result_12 : decode cX9_result 12 = .ok (.aload_n 0, 1) := by decide +kernel
theorem dX9_result_13 : decode cX9_result 13 = .ok (.getfield 68, 3) := by decide +kernel
theorem dX9_result_16 : decode cX9_result 16 = .ok (.iload_n 1, 1) := by decide +kernel
theorem dX9_result_17 : decode cX9_result 17 = .ok (.iaload, 1) := by decide +kernel
theorem dX9_result_18 : decode cX9_result 18 = .ok (.goto 4, 3) := by decide +kernel
theorem dX9_result_21 : decode cX9_result 21 = .ok (.iconst (-1), 1) := by decide +kernel
theorem dX9_result_22 : decode cX9_result 22 = .ok (.ireturn, 1) := by decide +kernel
theorem dX9_plan_0 : decode cX9_plan 0 = .ok (.iload_n 1, 1) := by decide +kernel
theorem dX9_plan_1 : decode cX9_plan 1 = .ok (.ifCond .lt 8, 3) := by decide +kernel
theorem dX9_plan_4 : decode cX9_plan 4 = .ok (.iload_n 1, 1) := by decide +kernel
theorem dX9_plan_5 : decode cX9_plan 5 = .ok (.iconst 3, 1) := by decide +kernel
theorem dX9_plan_6 : decode cX9_plan 6 = .ok (.if_icmp .le 7, 3) := by decide +kernel
theorem dX9_plan_9 : decode cX9_plan 9 = .ok (.ldc2_w 255, 3) := by decide +kernel
theorem dX9_plan_12 : decode cX9_plan 12 = .ok (.lreturn, 1) := by decide +kernel
theorem dX9_plan_13 : decode cX9_plan 13 = .ok (.iload_n 1, 1) := by decide +kernel
theorem dX9_plan_14 : decode cX9_plan 14 = .ok (.ifCond .ne 11, 3) := by decide +kernel
theorem dX9_plan_17 : decode cX9_plan 17 = .ok (.aload_n 0, 1) := by decide +kernel
theorem dX9_plan_18 : decode cX9_plan 18 = .ok (.getfield 71, 3) := by decide +kernel
theorem dX9_plan_21 : decode cX9_plan 21 = .ok (.i2l, 1) := by decide +kernel
theorem dX9_plan_22 : decode cX9_plan 22 = .ok (.goto 32, 3) := by decide +kernel
theorem dX9_plan_25 : decode cX9_plan 25 = .ok (.iload_n 1, 1) := by decide +kernel
theorem dX9_plan_26 : decode cX9_plan 26 = .ok (.iconst 1, 1) := by decide +kernel
theorem dX9_plan_27 : decode cX9_plan 27 = .ok (.if_icmp .ne 11, 3) := by decide +kernel
theorem dX9_plan_30 : decode cX9_plan 30 = .ok (.aload_n 0, 1) := by decide +kernel
theorem dX9_plan_31 : decode cX9_plan 31 = .ok (.getfield 249, 3) := by decide +kernel
theorem dX9_plan_34 : decode cX9_plan 34 = .ok (.i2l, 1) := by decide +kernel
theorem dX9_plan_35 : decode cX9_plan 35 = .ok (.goto 19, 3) := by decide +kernel
theorem dX9_plan_38 : decode cX9_plan 38 = .ok (.iload_n 1, 1) := by decide +kernel
theorem dX9_plan_39 : decode cX9_plan 39 = .ok (.iconst 2, 1) := by decide +kernel
theorem dX9_plan_40 : decode cX9_plan 40 = .ok (.if_icmp .ne 10, 3) := by decide +kernel
theorem dX9_plan_43 : decode cX9_plan 43 = .ok (.aload_n 0, 1) := by decide +kernel
theorem dX9_plan_44 : decode cX9_plan 44 = .ok (.getfield 239, 3) := by decide +kernel
theorem dX9_plan_47 : decode cX9_plan 47 = .ok (.goto 7, 3) := by decide +kernel
theorem dX9_plan_50 : decode cX9_plan 50 = .ok (.aload_n 0, 1) := by decide +kernel
theorem dX9_plan_51 : decode cX9_plan 51 = .ok (.getfield 242, 3) := by decide +kernel
theorem dX9_plan_54 : decode cX9_plan 54 = .ok (.lreturn, 1) := by decide +kernel
theorem dX9_state_0 : decode cX9_state 0 = .ok (.iload_n 1, 1) := by decide +kernel
theorem dX9_state_1 : decode cX9_state 1 = .ok (.ifCond .lt 20, 3) := by decide +kernel
theorem dX9_state_4 : decode cX9_state 4 = .ok (.iload_n 1, 1) := by decide +kernel
theorem dX9_state_5 : decode cX9_state 5 = .ok (.aload_n 0, 1) := by decide +kernel
theorem dX9_state_6 : decode cX9_state 6 = .ok (.getfield 116, 3) := by decide +kernel
theorem dX9_state_9 : decode cX9_state 9 = .ok (.if_icmp .ge 12, 3) := by decide +kernel
theorem dX9_state_12 : decode cX9_state 12 = .ok (.aload_n 0, 1) := by decide +kernel
theorem dX9_state_13 : decode cX9_state 13 = .ok (.getfield 50, 3) := by decide +kernel
theorem dX9_state_16 : decode cX9_state 16 = .ok (.iload_n 1, 1) := by decide +kernel
theorem dX9_state_17 : decode cX9_state 17 = .ok (.iaload, 1) := by decide +kernel
theorem dX9_state_18 : decode cX9_state 18 = .ok (.goto 4, 3) := by decide +kernel
theorem dX9_state_21 : decode cX9_state 21 = .ok (.iconst (-1), 1) := by decide +kernel
theorem dX9_state_22 : decode cX9_state 22 = .ok (.ireturn, 1) := by decide +kernel
theorem dX9_about_0 : decode cX9_about 0 = .ok (.iload_n 1, 1) := by decide +kernel
theorem dX9_about_1 : decode cX9_about 1 = .ok (.tableswitch 111 0 6 #[43, 48, 53, 59, 70, 75, 106], 43) := by decide +kernel
theorem dX9_about_44 : decode cX9_about 44 = .ok (.aload_n 0, 1) := by decide +kernel
theorem dX9_about_45 : decode cX9_about 45 = .ok (.getfield 103, 3) := by decide +kernel
theorem dX9_about_48 : decode cX9_about 48 = .ok (.ireturn, 1) := by decide +kernel
theorem dX9_about_49 : decode cX9_about 49 = .ok (.aload_n 0, 1) := by decide +kernel
theorem dX9_about_50 : decode cX9_about 50 = .ok (.invokevirtual 203, 3) := by decide +kernel
theorem dX9_about_53 : decode cX9_about 53 = .ok (.ireturn, 1) := by decide +kernel
theorem dX9_about_54 : decode cX9_about 54 = .ok (.aload_n 0, 1) := by decide +kernel
theorem dX9_about_55 : decode cX9_about 55 = .ok (.iconst 0, 1) := by decide +kernel
theorem dX9_about_56 : decode cX9_about 56 = .ok (.invokevirtual 152, 3) := by decide +kernel
theorem dX9_about_59 : decode cX9_about 59 = .ok (.ireturn, 1) := by decide +kernel
theorem dX9_about_60 : decode cX9_about 60 = .ok (.aload_n 0, 1) := by decide +kernel
theorem dX9_about_61 : decode cX9_about 61 = .ok (.getfield 106, 3) := by decide +kernel
theorem dX9_about_64 : decode cX9_about 64 = .ok (.aload_n 0, 1) := by decide +kernel
theorem dX9_about_65 : decode cX9_about 65 = .ok (.iconst 0, 1) := by decide +kernel
theorem dX9_about_66 : decode cX9_about 66 = .ok (.invokevirtual 152, 3) := by decide +kernel
theorem dX9_about_69 : decode cX9_about 69 = .ok (.isub, 1) := by decide +kernel
theorem dX9_about_70 : decode cX9_about 70 = .ok (.ireturn, 1) := by decide +kernel
theorem dX9_about_71 : decode cX9_about 71 = .ok (.aload_n 0, 1) := by decide +kernel
theorem dX9_about_72 : decode cX9_about 72 = .ok (.getfield 85, 3) := by decide +kernel
theorem dX9_about_75 : decode cX9_about 75 = .ok (.ireturn, 1) := by decide +kernel
theorem dX9_about_76 : decode cX9_about 76 = .ok (.aload_n 0, 1) := by decide +kernel
theorem dX9_about_77 : decode cX9_about 77 = .ok (.getfield 85, 3) := by decide +kernel
theorem dX9_about_80 : decode cX9_about 80 = .ok (.ifCond .ne 7, 3) := by decide +kernel
theorem dX9_about_83 : decode cX9_about 83 = .ok (.iconst (-1), 1) := by decide +kernel
theorem dX9_about_84 : decode cX9_about 84 = .ok (.goto 22, 3) := by decide +kernel
theorem dX9_about_87 : decode cX9_about 87 = .ok (.aload_n 0, 1) := by decide +kernel
theorem dX9_about_88 : decode cX9_about 88 = .ok (.getfield 19, 3) := by decide +kernel
theorem dX9_about_91 : decode cX9_about 91 = .ok (.aload_n 0, 1) := by decide +kernel
theorem dX9_about_92 : decode cX9_about 92 = .ok (.getfield 85, 3) := by decide +kernel
theorem dX9_about_95 : decode cX9_about 95 = .ok (.iconst 1, 1) := by decide +kernel
theorem dX9_about_96 : decode cX9_about 96 = .ok (.isub, 1) := by decide +kernel
theorem dX9_about_97 : decode cX9_about 97 = .ok (.baload, 1) := by decide +kernel
theorem dX9_about_98 : decode cX9_about 98 = .ok (.ifCond .eq 7, 3) := by decide +kernel
theorem dX9_about_101 : decode cX9_about 101 = .ok (.iconst 1, 1) := by decide +kernel
theorem dX9_about_102 : decode cX9_about 102 = .ok (.goto 4, 3) := by decide +kernel
theorem dX9_about_105 : decode cX9_about 105 = .ok (.iconst 0, 1) := by decide +kernel
theorem dX9_about_106 : decode cX9_about 106 = .ok (.ireturn, 1) := by decide +kernel
theorem dX9_about_107 : decode cX9_about 107 = .ok (.aload_n 0, 1) := by decide +kernel
theorem dX9_about_108 : decode cX9_about 108 = .ok (.getfield 100, 3) := by decide +kernel
theorem dX9_about_111 : decode cX9_about 111 = .ok (.ireturn, 1) := by decide +kernel
theorem dX9_about_112 : decode cX9_about 112 = .ok (.iconst (-1), 1) := by decide +kernel
theorem dX9_about_113 : decode cX9_about 113 = .ok (.ireturn, 1) := by decide +kernel
theorem dX9_file_0 : decode cX9_file 0 = .ok (.iload_n 1, 1) := by decide +kernel
theorem dX9_file_1 : decode cX9_file 1 = .ok (.ifCond .lt 22, 3) := by decide +kernel
theorem dX9_file_4 : decode cX9_file 4 = .ok (.iload_n 1, 1) := by decide +kernel
theorem dX9_file_5 : decode cX9_file 5 = .ok (.iconst 2, 1) := by decide +kernel
theorem dX9_file_6 : decode cX9_file 6 = .ok (.if_icmp .gt 17, 3) := by decide +kernel
theorem dX9_file_9 : decode cX9_file 9 = .ok (.iload_n 2, 1) := by decide +kernel
theorem dX9_file_10 : decode cX9_file 10 = .ok (.ifCond .lt 13, 3) := by decide +kernel
theorem dX9_file_13 : decode cX9_file 13 = .ok (.iload_n 3, 1) := by decide +kernel
theorem dX9_file_14 : decode cX9_file 14 = .ok (.ifCond .lt 9, 3) := by decide +kernel
theorem dX9_file_17 : decode cX9_file 17 = .ok (.iload_n 3, 1) := by decide +kernel
theorem dX9_file_18 : decode cX9_file 18 = .ok (.bipush 7, 2) := by decide +kernel
theorem dX9_file_20 : decode cX9_file 20 = .ok (.if_icmp .le 5, 3) := by decide +kernel
theorem dX9_file_23 : decode cX9_file 23 = .ok (.iconst (-1), 1) := by decide +kernel
theorem dX9_file_24 : decode cX9_file 24 = .ok (.ireturn, 1) := by decide +kernel
theorem dX9_file_25 : decode cX9_file 25 = .ok (.iload_n 2, 1) := by decide +kernel
theorem dX9_file_26 : decode cX9_file 26 = .ok (.istore 4, 2) := by decide +kernel
theorem dX9_file_28 : decode cX9_file 28 = .ok (.iconst 0, 1) := by decide +kernel
theorem dX9_file_29 : decode cX9_file 29 = .ok (.istore 5, 2) := by decide +kernel
theorem dX9_file_31 : decode cX9_file 31 = .ok (.iload 5, 2) := by decide +kernel
theorem dX9_file_33 : decode cX9_file 33 = .ok (.aload_n 0, 1) := by decide +kernel
theorem dX9_file_34 : decode cX9_file 34 = .ok (.getfield 167, 3) := by decide +kernel
theorem dX9_file_37 : decode cX9_file 37 = .ok (.if_icmp .ge 41, 3) := by decide +kernel
theorem dX9_file_40 : decode cX9_file 40 = .ok (.aload_n 0, 1) := by decide +kernel
theorem dX9_file_41 : decode cX9_file 41 = .ok (.getfield 47, 3) := by decide +kernel
theorem dX9_file_44 : decode cX9_file 44 = .ok (.iload 5, 2) := by decide +kernel
theorem dX9_file_46 : decode cX9_file 46 = .ok (.iaload, 1) := by decide +kernel
theorem dX9_file_47 : decode cX9_file 47 = .ok (.iload_n 1, 1) := by decide +kernel
theorem dX9_file_48 : decode cX9_file 48 = .ok (.if_icmp .ne 24, 3) := by decide +kernel
theorem dX9_file_51 : decode cX9_file 51 = .ok (.iload 4, 2) := by decide +kernel
theorem dX9_file_53 : decode cX9_file 53 = .ok (.ifCond .ne 16, 3) := by decide +kernel
theorem dX9_file_56 : decode cX9_file 56 = .ok (.aload_n 0, 1) := by decide +kernel
theorem dX9_file_57 : decode cX9_file 57 = .ok (.aload_n 0, 1) := by decide +kernel
theorem dX9_file_58 : decode cX9_file 58 = .ok (.getfield 44, 3) := by decide +kernel
theorem dX9_file_61 : decode cX9_file 61 = .ok (.iload 5, 2) := by decide +kernel
theorem dX9_file_63 : decode cX9_file 63 = .ok (.iaload, 1) := by decide +kernel
theorem dX9_file_64 : decode cX9_file 64 = .ok (.iload_n 3, 1) := by decide +kernel
theorem dX9_file_65 : decode cX9_file 65 = .ok (.invokevirtual 257, 3) := by decide +kernel
theorem dX9_file_68 : decode cX9_file 68 = .ok (.ireturn, 1) := by decide +kernel
theorem dX9_file_69 : decode cX9_file 69 = .ok (.iinc 4 (-1), 3) := by decide +kernel
theorem dX9_file_72 : decode cX9_file 72 = .ok (.iinc 5 1, 3) := by decide +kernel
theorem dX9_file_75 : decode cX9_file 75 = .ok (.goto (-44), 3) := by decide +kernel
theorem dX9_file_78 : decode cX9_file 78 = .ok (.iconst (-1), 1) := by decide +kernel
theorem dX9_file_79 : decode cX9_file 79 = .ok (.ireturn, 1) := by decide +kernel
theorem dX9_aboutFile_0 : decode cX9_aboutFile 0 = .ok (.iload_n 2, 1) := by decide +kernel
theorem dX9_aboutFile_1 : decode cX9_aboutFile 1 = .ok (.iconst 2, 1) := by decide +kernel
theorem dX9_aboutFile_2 : decode cX9_aboutFile 2 = .ok (.if_icmp .ge 17, 3) := by decide +kernel
theorem dX9_aboutFile_5 : decode cX9_aboutFile 5 = .ok (.iload_n 2, 1) := by decide +kernel
theorem dX9_aboutFile_6 : decode cX9_aboutFile 6 = .ok (.ifCond .ne 7, 3) := by decide +kernel
theorem dX9_aboutFile_9 : decode cX9_aboutFile 9 = .ok (.iload_n 1, 1) := by decide +kernel
theorem dX9_aboutFile_10 : decode cX9_aboutFile 10 = .ok (.goto 8, 3) := by decide +kernel
theorem dX9_aboutFile_13 : decode cX9_aboutFile 13 = .ok (.aload_n 0, 1) := by decide +kernel
theorem dX9_aboutFile_14 : decode cX9_aboutFile 14 = .ok (.iload_n 1, 1) := by decide +kernel
theorem dX9_aboutFile_15 : decode cX9_aboutFile 15 = .ok (.invokevirtual 152, 3) := by decide +kernel
theorem dX9_aboutFile_18 : decode cX9_aboutFile 18 = .ok (.ireturn, 1) := by decide +kernel
theorem dX9_aboutFile_19 : decode cX9_aboutFile 19 = .ok (.aload_n 0, 1) := by decide +kernel
theorem dX9_aboutFile_20 : decode cX9_aboutFile 20 = .ok (.iload_n 1, 1) := by decide +kernel
theorem dX9_aboutFile_21 : decode cX9_aboutFile 21 = .ok (.iload_n 2, 1) := by decide +kernel
theorem dX9_aboutFile_22 : decode cX9_aboutFile 22 = .ok (.iconst 5, 1) := by decide +kernel
theorem dX9_aboutFile_23 : decode cX9_aboutFile 23 = .ok (.if_icmp .ge 7, 3) := by decide +kernel
theorem dX9_aboutFile_26 : decode cX9_aboutFile 26 = .ok (.iconst 1, 1) := by decide +kernel
theorem dX9_aboutFile_27 : decode cX9_aboutFile 27 = .ok (.goto 4, 3) := by decide +kernel
theorem dX9_aboutFile_30 : decode cX9_aboutFile 30 = .ok (.iconst 0, 1) := by decide +kernel
theorem dX9_aboutFile_31 : decode cX9_aboutFile 31 = .ok (.invokevirtual 185, 3) := by decide +kernel
theorem dX9_aboutFile_34 : decode cX9_aboutFile 34 = .ok (.istore_n 3, 1) := by decide +kernel
theorem dX9_aboutFile_35 : decode cX9_aboutFile 35 = .ok (.iload_n 2, 1) := by decide +kernel
theorem dX9_aboutFile_36 : decode cX9_aboutFile 36 = .ok (.iconst 2, 1) := by decide +kernel
theorem dX9_aboutFile_37 : decode cX9_aboutFile 37 = .ok (.isub, 1) := by decide +kernel
theorem dX9_aboutFile_38 : decode cX9_aboutFile 38 = .ok (.iconst 3, 1) := by decide +kernel
theorem dX9_aboutFile_39 : decode cX9_aboutFile 39 = .ok (.irem, 1) := by decide +kernel
theorem dX9_aboutFile_40 : decode cX9_aboutFile 40 = .ok (.istore 4, 2) := by decide +kernel
theorem dX9_aboutFile_42 : decode cX9_aboutFile 42 = .ok (.iload 4, 2) := by decide +kernel
theorem dX9_aboutFile_44 : decode cX9_aboutFile 44 = .ok (.ifCond .ne 12, 3) := by decide +kernel
theorem dX9_aboutFile_47 : decode cX9_aboutFile 47 = .ok (.aload_n 0, 1) := by decide +kernel
theorem dX9_aboutFile_48 : decode cX9_aboutFile 48 = .ok (.getfield 23, 3) := by decide +kernel
theorem dX9_aboutFile_51 : decode cX9_aboutFile 51 = .ok (.iload_n 3, 1) := by decide +kernel
theorem dX9_aboutFile_52 : decode cX9_aboutFile 52 = .ok (.iaload, 1) := by decide +kernel
theorem dX9_aboutFile_53 : decode cX9_aboutFile 53 = .ok (.goto 24, 3) := by decide +kernel
theorem dX9_aboutFile_56 : decode cX9_aboutFile 56 = .ok (.iload 4, 2) := by decide +kernel
theorem dX9_aboutFile_58 : decode cX9_aboutFile 58 = .ok (.iconst 1, 1) := by decide +kernel
theorem dX9_aboutFile_59 : decode cX9_aboutFile 59 = .ok (.if_icmp .ne 12, 3) := by decide +kernel
theorem dX9_aboutFile_62 : decode cX9_aboutFile 62 = .ok (.aload_n 0, 1) := by decide +kernel
theorem dX9_aboutFile_63 : decode cX9_aboutFile 63 = .ok (.getfield 26, 3) := by decide +kernel
theorem dX9_aboutFile_66 : decode cX9_aboutFile 66 = .ok (.iload_n 3, 1) := by decide +kernel
theorem dX9_aboutFile_67 : decode cX9_aboutFile 67 = .ok (.iaload, 1) := by decide +kernel
theorem dX9_aboutFile_68 : decode cX9_aboutFile 68 = .ok (.goto 9, 3) := by decide +kernel
theorem dX9_aboutFile_71 : decode cX9_aboutFile 71 = .ok (.aload_n 0, 1) := by decide +kernel
theorem dX9_aboutFile_72 : decode cX9_aboutFile 72 = .ok (.getfield 29, 3) := by decide +kernel
theorem dX9_aboutFile_75 : decode cX9_aboutFile 75 = .ok (.iload_n 3, 1) := by decide +kernel
theorem dX9_aboutFile_76 : decode cX9_aboutFile 76 = .ok (.iaload, 1) := by decide +kernel
theorem dX9_aboutFile_77 : decode cX9_aboutFile 77 = .ok (.ireturn, 1) := by decide +kernel
end
section
theorem dX0_init_0 : decode cX0_init 0 = .ok (.aload_n 0, 1) := by decide +kernel
theorem dX0_init_1 : decode cX0_init 1 = .ok (.invokespecial 1, 3) := by decide +kernel
theorem dX0_init_4 : decode cX0_init 4 = .ok (.aload_n 0, 1) := by decide +kernel
theorem dX0_init_5 : decode cX0_init 5 = .ok (.iload_n 1, 1) := by decide +kernel
theorem dX0_init_6 : decode cX0_init 6 = .ok (.putfield 7, 3) := by decide +kernel
theorem dX0_init_9 : decode cX0_init 9 = .ok (.aload_n 0, 1) := by decide +kernel
theorem dX0_init_10 : decode cX0_init 10 = .ok (.iload_n 2, 1) := by decide +kernel
theorem dX0_init_11 : decode cX0_init 11 = .ok (.putfield 13, 3) := by decide +kernel
theorem dX0_init_14 : decode cX0_init 14 = .ok (.aload_n 0, 1) := by decide +kernel
theorem dX0_init_15 : decode cX0_init 15 = .ok (.iload_n 3, 1) := by decide +kernel
theorem dX0_init_16 : decode cX0_init 16 = .ok (.putfield 16, 3) := by decide +kernel
theorem dX0_init_19 : decode cX0_init 19 = .ok (.aload_n 0, 1) := by decide +kernel
theorem dX0_init_20 : decode cX0_init 20 = .ok (.iload_n 1, 1) := by decide +kernel
theorem dX0_init_21 : decode cX0_init 21 = .ok (.iload_n 2, 1) := by decide +kernel
theorem dX0_init_22 : decode cX0_init 22 = .ok (.iload_n 3, 1) := by decide +kernel
theorem dX0_init_23 : decode cX0_init 23 = .ok (.invokestatic 19, 3) := by decide +kernel
theorem dX0_init_26 : decode cX0_init 26 = .ok (.putfield 23, 3) := by decide +kernel
theorem dX0_init_29 : decode cX0_init 29 = .ok (.aload_n 0, 1) := by decide +kernel
theorem dX0_init_30 : decode cX0_init 30 = .ok (.iload 4, 2) := by decide +kernel
theorem dX0_init_32 : decode cX0_init 32 = .ok (.putfield 27, 3) := by decide +kernel
theorem dX0_init_35 : decode cX0_init 35 = .ok (.aload_n 0, 1) := by decide +kernel
theorem dX0_init_36 : decode cX0_init 36 = .ok (.aload 5, 2) := by decide +kernel
theorem dX0_init_38 : decode cX0_init 38 = .ok (.putfield 30, 3) := by decide +kernel
theorem dX0_init_41 : decode cX0_init 41 = .ok (.return_, 1) := by decide +kernel
theorem dX0_placeOf_0 : decode cX0_placeOf 0 = .ok (.iload_n 0, 1) := by decide +kernel
theorem dX0_placeOf_1 : decode cX0_placeOf 1 = .ok (.i2l, 1) := by decide +kernel
theorem dX0_placeOf_2 : decode cX0_placeOf 2 = .ok (.bipush 37, 2) := by decide +kernel
theorem dX0_placeOf_4 : decode cX0_placeOf 4 = .ok (.lshl, 1) := by decide +kernel
theorem dX0_placeOf_5 : decode cX0_placeOf 5 = .ok (.iload_n 1, 1) := by decide +kernel
theorem dX0_placeOf_6 : decode cX0_placeOf 6 = .ok (.i2l, 1) := by decide +kernel
theorem dX0_placeOf_7 : decode cX0_placeOf 7 = .ok (.ldc2_w 36, 3) := by decide +kernel
theorem dX0_placeOf_10 : decode cX0_placeOf 10 = .ok (.lsub, 1) := by decide +kernel
theorem dX0_placeOf_11 : decode cX0_placeOf 11 = .ok (.iconst 5, 1) := by decide +kernel
theorem dX0_placeOf_12 : decode cX0_placeOf 12 = .ok (.lshl, 1) := by decide +kernel
theorem dX0_placeOf_13 : decode cX0_placeOf 13 = .ok (.ladd, 1) := by decide +kernel
theorem dX0_placeOf_14 : decode cX0_placeOf 14 = .ok (.iload_n 2, 1) := by decide +kernel
theorem dX0_placeOf_15 : decode cX0_placeOf 15 = .ok (.i2l, 1) := by decide +kernel
theorem dX0_placeOf_16 : decode cX0_placeOf 16 = .ok (.ladd, 1) := by decide +kernel
theorem dX0_placeOf_17 : decode cX0_placeOf 17 = .ok (.lreturn, 1) := by decide +kernel
theorem dX0_isBefore_0 : decode cX0_isBefore 0 = .ok (.aload_n 0, 1) := by decide +kernel
theorem dX0_isBefore_1 : decode cX0_isBefore 1 = .ok (.getfield 23, 3) := by decide +kernel
theorem dX0_isBefore_4 : decode cX0_isBefore 4 = .ok (.lload_n 1, 1) := by decide +kernel
theorem dX0_isBefore_5 : decode cX0_isBefore 5 = .ok (.lcmp, 1) := by decide +kernel
theorem dX0_isBefore_6 : decode cX0_isBefore 6 = .ok (.ifCond .lt 20, 3) := by decide +kernel
theorem dX0_isBefore_9 : decode cX0_isBefore 9 = .ok (.aload_n 0, 1) := by decide +kernel
theorem dX0_isBefore_10 : decode cX0_isBefore 10 = .ok (.getfield 23, 3) := by decide +kernel
theorem dX0_isBefore_13 : decode cX0_isBefore 13 = .ok (.lload_n 1, 1) := by decide +kernel
theorem dX0_isBefore_14 : decode cX0_isBefore 14 = .ok (.lcmp, 1) := by decide +kernel
theorem dX0_isBefore_15 : decode cX0_isBefore 15 = .ok (.ifCond .ne 15, 3) := by decide +kernel
theorem dX0_isBefore_18 : decode cX0_isBefore 18 = .ok (.aload_n 0, 1) := by decide +kernel
theorem dX0_isBefore_19 : decode cX0_isBefore 19 = .ok (.getfield 27, 3) := by decide +kernel
theorem dX0_isBefore_22 : decode cX0_isBefore 22 = .ok (.iload_n 3, 1) := by decide +kernel
theorem dX0_isBefore_23 : decode cX0_isBefore 23 = .ok (.if_icmp .le 7, 3) := by decide +kernel
theorem dX0_isBefore_26 : decode cX0_isBefore 26 = .ok (.iconst 1, 1) := by decide +kernel
theorem dX0_isBefore_27 : decode cX0_isBefore 27 = .ok (.goto 4, 3) := by decide +kernel
theorem dX0_isBefore_30 : decode cX0_isBefore 30 = .ok (.iconst 0, 1) := by decide +kernel
theorem dX0_isBefore_31 : decode cX0_isBefore 31 = .ok (.ireturn, 1) := by decide +kernel
theorem dX0_isWithin_0 : decode cX0_isWithin 0 = .ok (.aload_n 0, 1) := by decide +kernel
theorem dX0_isWithin_1 : decode cX0_isWithin 1 = .ok (.getfield 7, 3) := by decide +kernel
theorem dX0_isWithin_4 : decode cX0_isWithin 4 = .ok (.iload_n 1, 1) := by decide +kernel
theorem dX0_isWithin_5 : decode cX0_isWithin 5 = .ok (.if_icmp .ne 28, 3) := by decide +kernel
theorem dX0_isWithin_8 : decode cX0_isWithin 8 = .ok (.aload_n 0, 1) := by decide +kernel
theorem dX0_isWithin_9 : decode cX0_isWithin 9 = .ok (.getfield 13, 3) := by decide +kernel
theorem dX0_isWithin_12 : decode cX0_isWithin 12 = .ok (.i2l, 1) := by decide +kernel
theorem dX0_isWithin_13 : decode cX0_isWithin 13 = .ok (.lload_n 2, 1) := by decide +kernel
theorem dX0_isWithin_14 : decode cX0_isWithin 14 = .ok (.lcmp, 1) := by decide +kernel
theorem dX0_isWithin_15 : decode cX0_isWithin 15 = .ok (.ifCond .lt 18, 3) := by decide +kernel
theorem dX0_isWithin_18 : decode cX0_isWithin 18 = .ok (.aload_n 0, 1) := by decide +kernel
theorem dX0_isWithin_19 : decode cX0_isWithin 19 = .ok (.getfield 13, 3) := by decide +kernel
theorem dX0_isWithin_22 : decode cX0_isWithin 22 = .ok (.i2l, 1) := by decide +kernel
theorem dX0_isWithin_23 : decode cX0_isWithin 23 = .ok (.lload 4, 2) := by decide +kernel
theorem dX0_isWithin_25 : decode cX0_isWithin 25 = .ok (.lcmp, 1) := by decide +kernel
theorem dX0_isWithin_26 : decode cX0_isWithin 26 = .ok (.ifCond .gt 7, 3) := by decide +kernel
theorem dX0_isWithin_29 : decode cX0_isWithin 29 = .ok (.iconst 1, 1) := by decide +kernel
theorem dX0_isWithin_30 : decode cX0_isWithin 30 = .ok (.goto 4, 3) := by decide +kernel
theorem dX0_isWithin_33 : decode cX0_isWithin 33 = .ok (.iconst 0, 1) := by decide +kernel
theorem dX0_isWithin_34 : decode cX0_isWithin 34 = .ok (.ireturn, 1) := by decide +kernel
theorem dX0_isInRetiredFile_0 : decode cX0_isInRetiredFile 0 = .ok (.aload_n 0, 1) := by decide +kernel
theorem dX0_isInRetiredFile_1 : decode cX0_isInRetiredFile 1 = .ok (.getfield 38, 3) := by decide +kernel
theorem dX0_isInRetiredFile_4 : decode cX0_isInRetiredFile 4 = .ok (.ifnull 17, 3) := by decide +kernel
theorem dX0_isInRetiredFile_7 : decode cX0_isInRetiredFile 7 = .ok (.aload_n 0, 1) := by decide +kernel
theorem dX0_isInRetiredFile_8 : decode cX0_isInRetiredFile 8 = .ok (.getfield 38, 3) := by decide +kernel
theorem dX0_isInRetiredFile_11 : decode cX0_isInRetiredFile 11 = .ok (.getfield 42, 3) := by decide +kernel
theorem dX0_isInRetiredFile_14 : decode cX0_isInRetiredFile 14 = .ok (.ifCond .eq 7, 3) := by decide +kernel
theorem dX0_isInRetiredFile_17 : decode cX0_isInRetiredFile 17 = .ok (.iconst 1, 1) := by decide +kernel
theorem dX0_isInRetiredFile_18 : decode cX0_isInRetiredFile 18 = .ok (.goto 4, 3) := by decide +kernel
theorem dX0_isInRetiredFile_21 : decode cX0_isInRetiredFile 21 = .ok (.iconst 0, 1) := by decide +kernel
theorem dX0_isInRetiredFile_22 : decode cX0_isInRetiredFile 22 = .ok (.ireturn, 1) := by decide +kernel
theorem dX1_init_0 : decode cX1_init 0 = .ok (.aload_n 0, 1) := by decide +kernel
theorem dX1_init_1 : decode cX1_init 1 = .ok (.invokespecial 3, 3) := by decide +kernel
theorem dX1_init_4 : decode cX1_init 4 = .ok (.aload_n 0, 1) := by decide +kernel
theorem dX1_init_5 : decode cX1_init 5 = .ok (.iload_n 1, 1) := by decide +kernel
theorem dX1_init_6 : decode cX1_init 6 = .ok (.putfield 9, 3) := by decide +kernel
theorem dX1_init_9 : decode cX1_init 9 = .ok (.aload_n 0, 1) := by decide +kernel
theorem dX1_init_10 : decode cX1_init 10 = .ok (.iload_n 2, 1) := by decide +kernel
theorem dX1_init_11 : decode cX1_init 11 = .ok (.putfield 15, 3) := by decide +kernel
theorem dX1_init_14 : decode cX1_init 14 = .ok (.aload_n 0, 1) := by decide +kernel
theorem dX1_init_15 : decode cX1_init 15 = .ok (.aload_n 3, 1) := by decide +kernel
theorem dX1_init_16 : decode cX1_init 16 = .ok (.putfield 18, 3) := by decide +kernel
theorem dX1_init_19 : decode cX1_init 19 = .ok (.aload_n 0, 1) := by decide +kernel
theorem dX1_init_20 : decode cX1_init 20 = .ok (.aload 4, 2) := by decide +kernel
theorem dX1_init_22 : decode cX1_init 22 = .ok (.putfield 22, 3) := by decide +kernel
theorem dX1_init_25 : decode cX1_init 25 = .ok (.aload_n 0, 1) := by decide +kernel
theorem dX1_init_26 : decode cX1_init 26 = .ok (.iconst 1, 1) := by decide +kernel
theorem dX1_init_27 : decode cX1_init 27 = .ok (.aload_n 3, 1) := by decide +kernel
theorem dX1_init_28 : decode cX1_init 28 = .ok (.invokestatic 25, 3) := by decide +kernel
theorem dX1_init_31 : decode cX1_init 31 = .ok (.iadd, 1) := by decide +kernel
theorem dX1_init_32 : decode cX1_init 32 = .ok (.aload 4, 2) := by decide +kernel
theorem dX1_init_34 : decode cX1_init 34 = .ok (.invokestatic 25, 3) := by decide +kernel
theorem dX1_init_37 : decode cX1_init 37 = .ok (.iadd, 1) := by decide +kernel
theorem dX1_init_38 : decode cX1_init 38 = .ok (.putfield 29, 3) := by decide +kernel
theorem dX1_init_41 : decode cX1_init 41 = .ok (.return_, 1) := by decide +kernel
theorem dX1_nodesOf_0 : decode cX1_nodesOf 0 = .ok (.aload_n 0, 1) := by decide +kernel
theorem dX1_nodesOf_1 : decode cX1_nodesOf 1 = .ok (.ifnonnull 7, 3) := by decide +kernel
theorem dX1_nodesOf_4 : decode cX1_nodesOf 4 = .ok (.iconst 0, 1) := by decide +kernel
theorem dX1_nodesOf_5 : decode cX1_nodesOf 5 = .ok (.goto 7, 3) := by decide +kernel
theorem dX1_nodesOf_8 : decode cX1_nodesOf 8 = .ok (.aload_n 0, 1) := by decide +kernel
theorem dX1_nodesOf_9 : decode cX1_nodesOf 9 = .ok (.getfield 29, 3) := by decide +kernel
theorem dX1_nodesOf_12 : decode cX1_nodesOf 12 = .ok (.ireturn, 1) := by decide +kernel
theorem dX1_isBool_0 : decode cX1_isBool 0 = .ok (.aload_n 0, 1) := by decide +kernel
theorem dX1_isBool_1 : decode cX1_isBool 1 = .ok (.getfield 9, 3) := by decide +kernel
theorem dX1_isBool_4 : decode cX1_isBool 4 = .ok (.bipush 7, 2) := by decide +kernel
theorem dX1_isBool_6 : decode cX1_isBool 6 = .ok (.if_icmp .lt 7, 3) := by decide +kernel
theorem dX1_isBool_9 : decode cX1_isBool 9 = .ok (.iconst 1, 1) := by decide +kernel
theorem dX1_isBool_10 : decode cX1_isBool 10 = .ok (.goto 4, 3) := by decide +kernel
theorem dX1_isBool_13 : decode cX1_isBool 13 = .ok (.iconst 0, 1) := by decide +kernel
theorem dX1_isBool_14 : decode cX1_isBool 14 = .ok (.ireturn, 1) := by decide +kernel
theorem dX1_isConst_0 : decode cX1_isConst 0 = .ok (.aload_n 0, 1) := by decide +kernel
theorem dX1_isConst_1 : decode cX1_isConst 1 = .ok (.getfield 9, 3) := by decide +kernel
theorem dX1_isConst_4 : decode cX1_isConst 4 = .ok (.iconst 3, 1) := by decide +kernel
theorem dX1_isConst_5 : decode cX1_isConst 5 = .ok (.if_icmp .ne 7, 3) := by decide +kernel
theorem dX1_isConst_8 : decode cX1_isConst 8 = .ok (.iconst 1, 1) := by decide +kernel
theorem dX1_isConst_9 : decode cX1_isConst 9 = .ok (.goto 4, 3) := by decide +kernel
theorem dX1_isConst_12 : decode cX1_isConst 12 = .ok (.iconst 0, 1) := by decide +kernel
theorem dX1_isConst_13 : decode cX1_isConst 13 = .ok (.ireturn, 1) := by decide +kernel
theorem dX1_areSame_0 : decode cX1_areSame 0 = .ok (.aload_n 0, 1) := by decide +kernel
theorem dX1_areSame_1 : decode cX1_areSame 1 = .ok (.ifnull 7, 3) := by decide +kernel
theorem dX1_areSame_4 : decode cX1_areSame 4 = .ok (.aload_n 1, 1) := by decide +kernel
theorem dX1_areSame_5 : decode cX1_areSame 5 = .ok (.ifnonnull 14, 3) := by decide +kernel
theorem dX1_areSame_8 : decode cX1_areSame 8 = .ok (.aload_n 0, 1) := by decide +kernel
theorem dX1_areSame_9 : decode cX1_areSame 9 = .ok (.aload_n 1, 1) := by decide +kernel
theorem dX1_areSame_10 : decode cX1_areSame 10 = .ok (.if_acmp .ne 7, 3) := by decide +kernel
theorem dX1_areSame_13 : decode cX1_areSame 13 = .ok (.iconst 1, 1) := by decide +kernel
theorem dX1_areSame_14 : decode cX1_areSame 14 = .ok (.goto 4, 3) := by decide +kernel
theorem dX1_areSame_17 : decode cX1_areSame 17 = .ok (.iconst 0, 1) := by decide +kernel
theorem dX1_areSame_18 : decode cX1_areSame 18 = .ok (.ireturn, 1) := by decide +kernel
theorem dX1_areSame_19 : decode cX1_areSame 19 = .ok (.aload_n 0, 1) := by decide +kernel
theorem dX1_areSame_20 : decode cX1_areSame 20 = .ok (.getfield 9, 3) := by decide +kernel
theorem dX1_areSame_23 : decode cX1_areSame 23 = .ok (.aload_n 1, 1) := by decide +kernel
theorem dX1_areSame_24 : decode cX1_areSame 24 = .ok (.getfield 9, 3) := by decide +kernel
theorem dX1_areSame_27 : decode cX1_areSame 27 = .ok (.if_icmp .ne 46, 3) := by decide +kernel
theorem dX1_areSame_30 : decode cX1_areSame 30 = .ok (.aload_n 0, 1) := by decide +kernel
theorem dX1_areSame_31 : decode cX1_areSame 31 = .ok (.getfield 15, 3) := by decide +kernel
theorem dX1_areSame_34 : decode cX1_areSame 34 = .ok (.aload_n 1, 1) := by decide +kernel
theorem dX1_areSame_35 : decode cX1_areSame 35 = .ok (.getfield 15, 3) := by decide +kernel
theorem dX1_areSame_38 : decode cX1_areSame 38 = .ok (.if_icmp .ne 35, 3) := by decide +kernel
theorem dX1_areSame_41 : decode cX1_areSame 41 = .ok (.aload_n 0, 1) := by decide +kernel
theorem dX1_areSame_42 : decode cX1_areSame 42 = .ok (.getfield 18, 3) := by decide +kernel
theorem dX1_areSame_45 : decode cX1_areSame 45 = .ok (.aload_n 1, 1) := by decide +kernel
theorem dX1_areSame_46 : decode cX1_areSame 46 = .ok (.getfield 18, 3) := by decide +kernel
theorem dX1_areSame_49 : decode cX1_areSame 49 = .ok (.invokestatic 32, 3) := by decide +kernel
theorem dX1_areSame_52 : decode cX1_areSame 52 = .ok (.ifCond .eq 21, 3) := by decide +kernel
theorem dX1_areSame_55 : decode cX1_areSame 55 = .ok (.aload_n 0, 1) := by decide +kernel
theorem dX1_areSame_56 : decode cX1_areSame 56 = .ok (.getfield 22, 3) := by decide +kernel
theorem dX1_areSame_59 : decode cX1_areSame 59 = .ok (.aload_n 1, 1) := by decide +kernel
theorem dX1_areSame_60 : decode cX1_areSame 60 = .ok (.getfield 22, 3) := by decide +kernel
theorem dX1_areSame_63 : decode cX1_areSame 63 = .ok (.invokestatic 32, 3) := by decide +kernel
theorem dX1_areSame_66 : decode cX1_areSame 66 = .ok (.ifCond .eq 7, 3) := by decide +kernel
theorem dX1_areSame_69 : decode cX1_areSame 69 = .ok (.iconst 1, 1) := by decide +kernel
theorem dX1_areSame_70 : decode cX1_areSame 70 = .ok (.goto 4, 3) := by decide +kernel
theorem dX1_areSame_73 : decode cX1_areSame 73 = .ok (.iconst 0, 1) := by decide +kernel
theorem dX1_areSame_74 : decode cX1_areSame 74 = .ok (.ireturn, 1) := by decide +kernel
theorem dX1_numberOf_0 : decode cX1_numberOf 0 = .ok (.aload_n 0, 1) := by decide +kernel
theorem dX1_numberOf_1 : decode cX1_numberOf 1 = .ok (.ifnonnull 5, 3) := by decide +kernel
theorem dX1_numberOf_4 : decode cX1_numberOf 4 = .ok (.iconst 0, 1) := by decide +kernel
theorem dX1_numberOf_5 : decode cX1_numberOf 5 = .ok (.ireturn, 1) := by decide +kernel
theorem dX1_numberOf_6 : decode cX1_numberOf 6 = .ok (.aload_n 0, 1) := by decide +kernel
theorem dX1_numberOf_7 : decode cX1_numberOf 7 = .ok (.getfield 9, 3) := by decide +kernel
theorem dX1_numberOf_10 : decode cX1_numberOf 10 = .ok (.tableswitch 111 0 6 #[42, 47, 52, 111, 57, 75, 93], 42) := by decide +kernel
theorem dX1_numberOf_52 : decode cX1_numberOf 52 = .ok (.aload_n 1, 1) := by decide +kernel
theorem dX1_numberOf_53 : decode cX1_numberOf 53 = .ok (.getfield 36, 3) := by decide +kernel
theorem dX1_numberOf_56 : decode cX1_numberOf 56 = .ok (.ireturn, 1) := by decide +kernel
theorem dX1_numberOf_57 : decode cX1_numberOf 57 = .ok (.aload_n 1, 1) := by decide +kernel
theorem dX1_numberOf_58 : decode cX1_numberOf 58 = .ok (.getfield 41, 3) := by decide +kernel
theorem dX1_numberOf_61 : decode cX1_numberOf 61 = .ok (.ireturn, 1) := by decide +kernel
theorem dX1_numberOf_62 : decode cX1_numberOf 62 = .ok (.aload_n 1, 1) := by decide +kernel
theorem dX1_numberOf_63 : decode cX1_numberOf 63 = .ok (.getfield 44, 3) := by decide +kernel
theorem dX1_numberOf_66 : decode cX1_numberOf 66 = .ok (.ireturn, 1) := by decide +kernel
theorem dX1_numberOf_67 : decode cX1_numberOf 67 = .ok (.aload_n 0, 1) := by decide +kernel
theorem dX1_numberOf_68 : decode cX1_numberOf 68 = .ok (.getfield 18, 3) := by decide +kernel
theorem dX1_numberOf_71 : decode cX1_numberOf 71 = .ok (.aload_n 1, 1) := by decide +kernel
theorem dX1_numberOf_72 : decode cX1_numberOf 72 = .ok (.invokestatic 47, 3) := by decide +kernel
theorem dX1_numberOf_75 : decode cX1_numberOf 75 = .ok (.aload_n 0, 1) := by decide +kernel
theorem dX1_numberOf_76 : decode cX1_numberOf 76 = .ok (.getfield 22, 3) := by decide +kernel
theorem dX1_numberOf_79 : decode cX1_numberOf 79 = .ok (.aload_n 1, 1) := by decide +kernel
theorem dX1_numberOf_80 : decode cX1_numberOf 80 = .ok (.invokestatic 47, 3) := by decide +kernel
theorem dX1_numberOf_83 : decode cX1_numberOf 83 = .ok (.iadd, 1) := by decide +kernel
theorem dX1_numberOf_84 : decode cX1_numberOf 84 = .ok (.ireturn, 1) := by decide +kernel
theorem dX1_numberOf_85 : decode cX1_numberOf 85 = .ok (.aload_n 0, 1) := by decide +kernel
theorem dX1_numberOf_86 : decode cX1_numberOf 86 = .ok (.getfield 18, 3) := by decide +kernel
theorem dX1_numberOf_89 : decode cX1_numberOf 89 = .ok (.aload_n 1, 1) := by decide +kernel
theorem dX1_numberOf_90 : decode cX1_numberOf 90 = .ok (.invokestatic 47, 3) := by decide +kernel
theorem dX1_numberOf_93 : decode cX1_numberOf 93 = .ok (.aload_n 0, 1) := by decide +kernel
theorem dX1_numberOf_94 : decode cX1_numberOf 94 = .ok (.getfield 22, 3) := by decide +kernel
theorem dX1_numberOf_97 : decode cX1_numberOf 97 = .ok (.aload_n 1, 1) := by decide +kernel
theorem dX1_numberOf_98 : decode cX1_numberOf 98 = .ok (.invokestatic 47, 3) := by decide +kernel
theorem dX1_numberOf_101 : decode cX1_numberOf 101 = .ok (.isub, 1) := by decide +kernel
theorem dX1_numberOf_102 : decode cX1_numberOf 102 = .ok (.ireturn, 1) := by decide +kernel
theorem dX1_numberOf_103 : decode cX1_numberOf 103 = .ok (.aload_n 0, 1) := by decide +kernel
theorem dX1_numberOf_104 : decode cX1_numberOf 104 = .ok (.getfield 18, 3) := by decide +kernel
theorem dX1_numberOf_107 : decode cX1_numberOf 107 = .ok (.aload_n 1, 1) := by decide +kernel
theorem dX1_numberOf_108 : decode cX1_numberOf 108 = .ok (.invokestatic 47, 3) := by decide +kernel
theorem dX1_numberOf_111 : decode cX1_numberOf 111 = .ok (.aload_n 0, 1) := by decide +kernel
theorem dX1_numberOf_112 : decode cX1_numberOf 112 = .ok (.getfield 22, 3) := by decide +kernel
theorem dX1_numberOf_115 : decode cX1_numberOf 115 = .ok (.aload_n 1, 1) := by decide +kernel
theorem dX1_numberOf_116 : decode cX1_numberOf 116 = .ok (.invokestatic 47, 3) := by decide +kernel
theorem dX1_numberOf_119 : decode cX1_numberOf 119 = .ok (.imul, 1) := by decide +kernel
theorem dX1_numberOf_120 : decode cX1_numberOf 120 = .ok (.ireturn, 1) := by decide +kernel
theorem dX1_numberOf_121 : decode cX1_numberOf 121 = .ok (.aload_n 0, 1) := by decide +kernel
theorem dX1_numberOf_122 : decode cX1_numberOf 122 = .ok (.getfield 15, 3) := by decide +kernel
theorem dX1_numberOf_125 : decode cX1_numberOf 125 = .ok (.ireturn, 1) := by decide +kernel
theorem dX1_isTrueOf_0 : decode cX1_isTrueOf 0 = .ok (.aload_n 0, 1) := by decide +kernel
theorem dX1_isTrueOf_1 : decode cX1_isTrueOf 1 = .ok (.ifnonnull 5, 3) := by decide +kernel
theorem dX1_isTrueOf_4 : decode cX1_isTrueOf 4 = .ok (.iconst 0, 1) := by decide +kernel
theorem dX1_isTrueOf_5 : decode cX1_isTrueOf 5 = .ok (.ireturn, 1) := by decide +kernel
theorem dX1_isTrueOf_6 : decode cX1_isTrueOf 6 = .ok (.aload_n 0, 1) := by decide +kernel
theorem dX1_isTrueOf_7 : decode cX1_isTrueOf 7 = .ok (.getfield 9, 3) := by decide +kernel
theorem dX1_isTrueOf_10 : decode cX1_isTrueOf 10 = .ok (.tableswitch 157 7 11 #[34, 59, 84, 112, 140], 34) := by decide +kernel
theorem dX1_isTrueOf_44 : decode cX1_isTrueOf 44 = .ok (.aload_n 0, 1) := by decide +kernel
theorem dX1_isTrueOf_45 : decode cX1_isTrueOf 45 = .ok (.getfield 18, 3) := by decide +kernel
theorem dX1_isTrueOf_48 : decode cX1_isTrueOf 48 = .ok (.aload_n 1, 1) := by decide +kernel
theorem dX1_isTrueOf_49 : decode cX1_isTrueOf 49 = .ok (.invokestatic 47, 3) := by decide +kernel
theorem dX1_isTrueOf_52 : decode cX1_isTrueOf 52 = .ok (.aload_n 0, 1) := by decide +kernel
theorem dX1_isTrueOf_53 : decode cX1_isTrueOf 53 = .ok (.getfield 22, 3) := by decide +kernel
theorem dX1_isTrueOf_56 : decode cX1_isTrueOf 56 = .ok (.aload_n 1, 1) := by decide +kernel
theorem dX1_isTrueOf_57 : decode cX1_isTrueOf 57 = .ok (.invokestatic 47, 3) := by decide +kernel
theorem dX1_isTrueOf_60 : decode cX1_isTrueOf 60 = .ok (.if_icmp .ge 7, 3) := by decide +kernel
theorem dX1_isTrueOf_63 : decode cX1_isTrueOf 63 = .ok (.iconst 1, 1) := by decide +kernel
theorem dX1_isTrueOf_64 : decode cX1_isTrueOf 64 = .ok (.goto 4, 3) := by decide +kernel
theorem dX1_isTrueOf_67 : decode cX1_isTrueOf 67 = .ok (.iconst 0, 1) := by decide +kernel
theorem dX1_isTrueOf_68 : decode cX1_isTrueOf 68 = .ok (.ireturn, 1) := by decide +kernel
theorem dX1_isTrueOf_69 : decode cX1_isTrueOf 69 = .ok (.aload_n 0, 1) := by decide +kernel
theorem dX1_isTrueOf_70 : decode cX1_isTrueOf 70 = .ok (.getfield 18, 3) := by decide +kernel
theorem dX1_isTrueOf_73 : decode cX1_isTrueOf 73 = .ok (.aload_n 1, 1) := by decide +kernel
theorem dX1_isTrueOf_74 : decode cX1_isTrueOf 74 = .ok (.invokestatic 47, 3) := by decide +kernel
theorem dX1_isTrueOf_77 : decode cX1_isTrueOf 77 = .ok (.aload_n 0, 1) := by decide +kernel
theorem dX1_isTrueOf_78 : decode cX1_isTrueOf 78 = .ok (.getfield 22, 3) := by decide +kernel
theorem dX1_isTrueOf_81 : decode cX1_isTrueOf 81 = .ok (.aload_n 1, 1) := by decide +kernel
theorem dX1_isTrueOf_82 : decode cX1_isTrueOf 82 = .ok (.invokestatic 47, 3) := by decide +kernel
theorem dX1_isTrueOf_85 : decode cX1_isTrueOf 85 = .ok (.if_icmp .ne 7, 3) := by decide +kernel
theorem dX1_isTrueOf_88 : decode cX1_isTrueOf 88 = .ok (.iconst 1, 1) := by decide +kernel
theorem dX1_isTrueOf_89 : decode cX1_isTrueOf 89 = .ok (.goto 4, 3) := by decide +kernel
theorem dX1_isTrueOf_92 : decode cX1_isTrueOf 92 = .ok (.iconst 0, 1) := by decide +kernel
theorem dX1_isTrueOf_93 : decode cX1_isTrueOf 93 = .ok (.ireturn, 1) := by decide +kernel
theorem dX1_isTrueOf_94 : decode cX1_isTrueOf 94 = .ok (.aload_n 0, 1) := by decide +kernel
theorem dX1_isTrueOf_95 : decode cX1_isTrueOf 95 = .ok (.getfield 18, 3) := by decide +kernel
theorem dX1_isTrueOf_98 : decode cX1_isTrueOf 98 = .ok (.aload_n 1, 1) := by decide +kernel
theorem dX1_isTrueOf_99 : decode cX1_isTrueOf 99 = .ok (.invokestatic 51, 3) := by decide +kernel
theorem dX1_isTrueOf_102 : decode cX1_isTrueOf 102 = .ok (.ifCond .eq 18, 3) := by decide +kernel
theorem dX1_isTrueOf_105 : decode cX1_isTrueOf 105 = .ok (.aload_n 0, 1) := by decide +kernel
theorem dX1_isTrueOf_106 : decode cX1_isTrueOf 106 = .ok (.getfield 22, 3) := by decide +kernel
theorem dX1_isTrueOf_109 : decode cX1_isTrueOf 109 = .ok (.aload_n 1, 1) := by decide +kernel
theorem dX1_isTrueOf_110 : decode cX1_isTrueOf 110 = .ok (.invokestatic 51, 3) := by decide +kernel
theorem dX1_isTrueOf_113 : decode cX1_isTrueOf 113 = .ok (.ifCond .eq 7, 3) := by decide +kernel
theorem dX1_isTrueOf_116 : decode cX1_isTrueOf 116 = .ok (.iconst 1, 1) := by decide +kernel
theorem dX1_isTrueOf_117 : decode cX1_isTrueOf 117 = .ok (.goto 4, 3) := by decide +kernel
theorem dX1_isTrueOf_120 : decode cX1_isTrueOf 120 = .ok (.iconst 0, 1) := by decide +kernel
theorem dX1_isTrueOf_121 : decode cX1_isTrueOf 121 = .ok (.ireturn, 1) := by decide +kernel
theorem dX1_isTrueOf_122 : decode cX1_isTrueOf 122 = .ok (.aload_n 0, 1) := by decide +kernel
theorem dX1_isTrueOf_123 : decode cX1_isTrueOf 123 = .ok (.getfield 18, 3) := by decide +kernel
theorem dX1_isTrueOf_126 : decode cX1_isTrueOf 126 = .ok (.aload_n 1, 1) := by decide +kernel
theorem dX1_isTrueOf_127 : decode cX1_isTrueOf 127 = .ok (.invokestatic 51, 3) := by decide +kernel
theorem dX1_isTrueOf_130 : decode cX1_isTrueOf 130 = .ok (.ifCond .ne 14, 3) := by decide +kernel
theorem dX1_isTrueOf_133 : decode cX1_isTrueOf 133 = .ok (.aload_n 0, 1) := by decide +kernel
theorem dX1_isTrueOf_134 : decode cX1_isTrueOf 134 = .ok (.getfield 22, 3) := by decide +kernel
theorem dX1_isTrueOf_137 : decode cX1_isTrueOf 137 = .ok (.aload_n 1, 1) := by decide +kernel
theorem dX1_isTrueOf_138 : decode cX1_isTrueOf 138 = .ok (.invokestatic 51, 3) := by decide +kernel
theorem dX1_isTrueOf_141 : decode cX1_isTrueOf 141 = .ok (.ifCond .eq 7, 3) := by decide +kernel
theorem dX1_isTrueOf_144 : decode cX1_isTrueOf 144 = .ok (.iconst 1, 1) := by decide +kernel
theorem dX1_isTrueOf_145 : decode cX1_isTrueOf 145 = .ok (.goto 4, 3) := by decide +kernel
theorem dX1_isTrueOf_148 : decode cX1_isTrueOf 148 = .ok (.iconst 0, 1) := by decide +kernel
theorem dX1_isTrueOf_149 : decode cX1_isTrueOf 149 = .ok (.ireturn, 1) := by decide +kernel
theorem dX1_isTrueOf_150 : decode cX1_isTrueOf 150 = .ok (.aload_n 0, 1) := by decide +kernel
theorem dX1_isTrueOf_151 : decode cX1_isTrueOf 151 = .ok (.getfield 18, 3) := by decide +kernel
theorem dX1_isTrueOf_154 : decode cX1_isTrueOf 154 = .ok (.aload_n 1, 1) := by decide +kernel
theorem dX1_isTrueOf_155 : decode cX1_isTrueOf 155 = .ok (.invokestatic 51, 3) := by decide +kernel
theorem dX1_isTrueOf_158 : decode cX1_isTrueOf 158 = .ok (.ifCond .ne 7, 3) := by decide +kernel
theorem dX1_isTrueOf_161 : decode cX1_isTrueOf 161 = .ok (.iconst 1, 1) := by decide +kernel
theorem dX1_isTrueOf_162 : decode cX1_isTrueOf 162 = .ok (.goto 4, 3) := by decide +kernel
theorem dX1_isTrueOf_165 : decode cX1_isTrueOf 165 = .ok (.iconst 0, 1) := by decide +kernel
theorem dX1_isTrueOf_166 : decode cX1_isTrueOf 166 = .ok (.ireturn, 1) := by decide +kernel
theorem dX1_isTrueOf_167 : decode cX1_isTrueOf 167 = .ok (.aload_n 1, 1) := by decide +kernel
theorem dX1_isTrueOf_168 : decode cX1_isTrueOf 168 = .ok (.aload_n 0, 1) := by decide +kernel
theorem dX1_isTrueOf_169 : decode cX1_isTrueOf 169 = .ok (.getfield 15, 3) := by decide +kernel
theorem dX1_isTrueOf_172 : decode cX1_isTrueOf 172 = .ok (.invokevirtual 55, 3) := by decide +kernel
theorem dX1_isTrueOf_175 : decode cX1_isTrueOf 175 = .ok (.ireturn, 1) := by decide +kernel
theorem dX2_init_0 : decode cX2_init 0 = .ok (.aload_n 0, 1) := by decide +kernel
theorem dX2_init_1 : decode cX2_init 1 = .ok (.invokespecial 3, 3) := by decide +kernel
theorem dX2_init_4 : decode cX2_init 4 = .ok (.aload_n 0, 1) := by decide +kernel
theorem dX2_init_5 : decode cX2_init 5 = .ok (.ldc2_w 11, 3) := by decide +kernel
theorem dX2_init_8 : decode cX2_init 8 = .ok (.putfield 13, 3) := by decide +kernel
theorem dX2_init_11 : decode cX2_init 11 = .ok (.aload_n 0, 1) := by decide +kernel
theorem dX2_init_12 : decode cX2_init 12 = .ok (.ldc2_w 19, 3) := by decide +kernel
theorem dX2_init_15 : decode cX2_init 15 = .ok (.putfield 21, 3) := by decide +kernel
theorem dX2_init_18 : decode cX2_init 18 = .ok (.aload_n 0, 1) := by decide +kernel
theorem dX2_init_19 : decode cX2_init 19 = .ok (.aload_n 1, 1) := by decide +kernel
theorem dX2_init_20 : decode cX2_init 20 = .ok (.putfield 24, 3) := by decide +kernel
theorem dX2_init_23 : decode cX2_init 23 = .ok (.return_, 1) := by decide +kernel
theorem dX2_width_0 : decode cX2_width 0 = .ok (.aload_n 0, 1) := by decide +kernel
theorem dX2_width_1 : decode cX2_width 1 = .ok (.getfield 21, 3) := by decide +kernel
theorem dX2_width_4 : decode cX2_width 4 = .ok (.aload_n 0, 1) := by decide +kernel
theorem dX2_width_5 : decode cX2_width 5 = .ok (.getfield 13, 3) := by decide +kernel
theorem dX2_width_8 : decode cX2_width 8 = .ok (.lsub, 1) := by decide +kernel
theorem dX2_width_9 : decode cX2_width 9 = .ok (.lreturn, 1) := by decide +kernel
theorem dX2_hear_0 : decode cX2_hear 0 = .ok (.aload_n 1, 1) := by decide +kernel
theorem dX2_hear_1 : decode cX2_hear 1 = .ok (.ifnonnull 4, 3) := by decide +kernel
theorem dX2_hear_4 : decode cX2_hear 4 = .ok (.return_, 1) := by decide +kernel
theorem dX2_hear_5 : decode cX2_hear 5 = .ok (.aload_n 1, 1) := by decide +kernel
theorem dX2_hear_6 : decode cX2_hear 6 = .ok (.getfield 28, 3) := by decide +kernel
theorem dX2_hear_9 : decode cX2_hear 9 = .ok (.bipush 9, 2) := by decide +kernel
theorem dX2_hear_11 : decode cX2_hear 11 = .ok (.if_icmp .ne 22, 3) := by decide +kernel
theorem dX2_hear_14 : decode cX2_hear 14 = .ok (.aload_n 0, 1) := by decide +kernel
theorem dX2_hear_15 : decode cX2_hear 15 = .ok (.aload_n 1, 1) := by decide +kernel
theorem dX2_hear_16 : decode cX2_hear 16 = .ok (.getfield 34, 3) := by decide +kernel
theorem dX2_hear_19 : decode cX2_hear 19 = .ok (.invokevirtual 37, 3) := by decide +kernel
theorem dX2_hear_22 : decode cX2_hear 22 = .ok (.aload_n 0, 1) := by decide +kernel
theorem dX2_hear_23 : decode cX2_hear 23 = .ok (.aload_n 1, 1) := by decide +kernel
theorem dX2_hear_24 : decode cX2_hear 24 = .ok (.getfield 41, 3) := by decide +kernel
theorem dX2_hear_27 : decode cX2_hear 27 = .ok (.invokevirtual 37, 3) := by decide +kernel
theorem dX2_hear_30 : decode cX2_hear 30 = .ok (.goto 47, 3) := by decide +kernel
theorem dX2_hear_33 : decode cX2_hear 33 = .ok (.aload_n 1, 1) := by decide +kernel
theorem dX2_hear_34 : decode cX2_hear 34 = .ok (.getfield 28, 3) := by decide +kernel
theorem dX2_hear_37 : decode cX2_hear 37 = .ok (.bipush 7, 2) := by decide +kernel
theorem dX2_hear_39 : decode cX2_hear 39 = .ok (.if_icmp .eq 12, 3) := by decide +kernel
theorem dX2_hear_42 : decode cX2_hear 42 = .ok (.aload_n 1, 1) := by decide +kernel
theorem dX2_hear_43 : decode cX2_hear 43 = .ok (.getfield 28, 3) := by decide +kernel
theorem dX2_hear_46 : decode cX2_hear 46 = .ok (.bipush 8, 2) := by decide +kernel
theorem dX2_hear_48 : decode cX2_hear 48 = .ok (.if_icmp .ne 29, 3) := by decide +kernel
theorem dX2_hear_51 : decode cX2_hear 51 = .ok (.aload_n 0, 1) := by decide +kernel
theorem dX2_hear_52 : decode cX2_hear 52 = .ok (.aload_n 1, 1) := by decide +kernel
theorem dX2_hear_53 : decode cX2_hear 53 = .ok (.getfield 28, 3) := by decide +kernel
theorem dX2_hear_56 : decode cX2_hear 56 = .ok (.bipush 8, 2) := by decide +kernel
theorem dX2_hear_58 : decode cX2_hear 58 = .ok (.if_icmp .ne 7, 3) := by decide +kernel
theorem dX2_hear_61 : decode cX2_hear 61 = .ok (.iconst 1, 1) := by decide +kernel
theorem dX2_hear_62 : decode cX2_hear 62 = .ok (.goto 4, 3) := by decide +kernel
theorem dX2_hear_65 : decode cX2_hear 65 = .ok (.iconst 0, 1) := by decide +kernel
theorem dX2_hear_66 : decode cX2_hear 66 = .ok (.aload_n 1, 1) := by decide +kernel
theorem dX2_hear_67 : decode cX2_hear 67 = .ok (.getfield 34, 3) := by decide +kernel
theorem dX2_hear_70 : decode cX2_hear 70 = .ok (.aload_n 1, 1) := by decide +kernel
theorem dX2_hear_71 : decode cX2_hear 71 = .ok (.getfield 41, 3) := by decide +kernel
theorem dX2_hear_74 : decode cX2_hear 74 = .ok (.invokevirtual 44, 3) := by decide +kernel
theorem dX2_hear_77 : decode cX2_hear 77 = .ok (.return_, 1) := by decide +kernel
theorem dX2_hearComparison_0 : decode cX2_hearComparison 0 = .ok (.aload_n 2, 1) := by decide +kernel
theorem dX2_hearComparison_1 : decode cX2_hearComparison 1 = .ok (.ifnull 7, 3) := by decide +kernel
theorem dX2_hearComparison_4 : decode cX2_hearComparison 4 = .ok (.aload_n 3, 1) := by decide +kernel
theorem dX2_hearComparison_5 : decode cX2_hearComparison 5 = .ok (.ifnonnull 4, 3) := by decide +kernel
theorem dX2_hearComparison_8 : decode cX2_hearComparison 8 = .ok (.return_, 1) := by decide +kernel
theorem dX2_hearComparison_9 : decode cX2_hearComparison 9 = .ok (.aload_n 3, 1) := by decide +kernel
theorem dX2_hearComparison_10 : decode cX2_hearComparison 10 = .ok (.invokevirtual 48, 3) := by decide +kernel
theorem dX2_hearComparison_13 : decode cX2_hearComparison 13 = .ok (.ifCond .eq 51, 3) := by decide +kernel
theorem dX2_hearComparison_16 : decode cX2_hearComparison 16 = .ok (.aload_n 2, 1) := by decide +kernel
theorem dX2_hearComparison_17 : decode cX2_hearComparison 17 = .ok (.aload_n 0, 1) := by decide +kernel
theorem dX2_hearComparison_18 : decode cX2_hearComparison 18 = .ok (.getfield 24, 3) := by decide +kernel
theorem dX2_hearComparison_21 : decode cX2_hearComparison 21 = .ok (.invokestatic 52, 3) := by decide +kernel
theorem dX2_hearComparison_24 : decode cX2_hearComparison 24 = .ok (.ifCond .eq 40, 3) := by decide +kernel
theorem dX2_hearComparison_27 : decode cX2_hearComparison 27 = .ok (.aload_n 3, 1) := by decide +kernel
theorem dX2_hearComparison_28 : decode cX2_hearComparison 28 = .ok (.getfield 56, 3) := by decide +kernel
theorem dX2_hearComparison_31 : decode cX2_hearComparison 31 = .ok (.i2l, 1) := by decide +kernel
theorem dX2_hearComparison_32 : decode cX2_hearComparison 32 = .ok (.lstore 4, 2) := by decide +kernel
theorem dX2_hearComparison_34 : decode cX2_hearComparison 34 = .ok (.aload_n 0, 1) := by decide +kernel
theorem dX2_hearComparison_35 : decode cX2_hearComparison 35 = .ok (.iload_n 1, 1) := by decide +kernel
theorem dX2_hearComparison_36 : decode cX2_hearComparison 36 = .ok (.ifCond .eq 8, 3) := by decide +kernel
theorem dX2_hearComparison_39 : decode cX2_hearComparison 39 = .ok (.lload 4, 2) := by decide +kernel
theorem dX2_hearComparison_41 : decode cX2_hearComparison 41 = .ok (.goto 7, 3) := by decide +kernel
theorem dX2_hearComparison_44 : decode cX2_hearComparison 44 = .ok (.aload_n 0, 1) := by decide +kernel
theorem dX2_hearComparison_45 : decode cX2_hearComparison 45 = .ok (.getfield 13, 3) := by decide +kernel
theorem dX2_hearComparison_48 : decode cX2_hearComparison 48 = .ok (.iload_n 1, 1) := by decide +kernel
theorem dX2_hearComparison_49 : decode cX2_hearComparison 49 = .ok (.ifCond .eq 8, 3) := by decide +kernel
theorem dX2_hearComparison_52 : decode cX2_hearComparison 52 = .ok (.lload 4, 2) := by decide +kernel
theorem dX2_hearComparison_54 : decode cX2_hearComparison 54 = .ok (.goto 7, 3) := by decide +kernel
theorem dX2_hearComparison_57 : decode cX2_hearComparison 57 = .ok (.lload 4, 2) := by decide +kernel
theorem dX2_hearComparison_59 : decode cX2_hearComparison 59 = .ok (.lconst 1, 1) := by decide +kernel
theorem dX2_hearComparison_60 : decode cX2_hearComparison 60 = .ok (.lsub, 1) := by decide +kernel
theorem dX2_hearComparison_61 : decode cX2_hearComparison 61 = .ok (.invokevirtual 59, 3) := by decide +kernel
theorem dX2_hearComparison_64 : decode cX2_hearComparison 64 = .ok (.aload_n 2, 1) := by decide +kernel
theorem dX2_hearComparison_65 : decode cX2_hearComparison 65 = .ok (.invokevirtual 48, 3) := by decide +kernel
theorem dX2_hearComparison_68 : decode cX2_hearComparison 68 = .ok (.ifCond .eq 51, 3) := by decide +kernel
theorem dX2_hearComparison_71 : decode cX2_hearComparison 71 = .ok (.aload_n 3, 1) := by decide +kernel
theorem dX2_hearComparison_72 : decode cX2_hearComparison 72 = .ok (.aload_n 0, 1) := by decide +kernel
theorem dX2_hearComparison_73 : decode cX2_hearComparison 73 = .ok (.getfield 24, 3) := by decide +kernel
theorem dX2_hearComparison_76 : decode cX2_hearComparison 76 = .ok (.invokestatic 52, 3) := by decide +kernel
theorem dX2_hearComparison_79 : decode cX2_hearComparison 79 = .ok (.ifCond .eq 40, 3) := by decide +kernel
theorem dX2_hearComparison_82 : decode cX2_hearComparison 82 = .ok (.aload_n 2, 1) := by decide +kernel
theorem dX2_hearComparison_83 : decode cX2_hearComparison 83 = .ok (.getfield 56, 3) := by decide +kernel
theorem dX2_hearComparison_86 : decode cX2_hearComparison 86 = .ok (.i2l, 1) := by decide +kernel
theorem dX2_hearComparison_87 : decode cX2_hearComparison 87 = .ok (.lstore 4, 2) := by decide +kernel
theorem dX2_hearComparison_89 : decode cX2_hearComparison 89 = .ok (.aload_n 0, 1) := by decide +kernel
theorem dX2_hearComparison_90 : decode cX2_hearComparison 90 = .ok (.iload_n 1, 1) := by decide +kernel
theorem dX2_hearComparison_91 : decode cX2_hearComparison 91 = .ok (.ifCond .eq 8, 3) := by decide +kernel
theorem dX2_hearComparison_94 : decode cX2_hearComparison 94 = .ok (.lload 4, 2) := by decide +kernel
theorem dX2_hearComparison_96 : decode cX2_hearComparison 96 = .ok (.goto 7, 3) := by decide +kernel
theorem dX2_hearComparison_99 : decode cX2_hearComparison 99 = .ok (.lload 4, 2) := by decide +kernel
theorem dX2_hearComparison_101 : decode cX2_hearComparison 101 = .ok (.lconst 1, 1) := by decide +kernel
theorem dX2_hearComparison_102 : decode cX2_hearComparison 102 = .ok (.ladd, 1) := by decide +kernel
theorem dX2_hearComparison_103 : decode cX2_hearComparison 103 = .ok (.iload_n 1, 1) := by decide +kernel
theorem dX2_hearComparison_104 : decode cX2_hearComparison 104 = .ok (.ifCond .eq 8, 3) := by decide +kernel
theorem dX2_hearComparison_107 : decode cX2_hearComparison 107 = .ok (.lload 4, 2) := by decide +kernel
theorem dX2_hearComparison_109 : decode cX2_hearComparison 109 = .ok (.goto 7, 3) := by decide +kernel
theorem dX2_hearComparison_112 : decode cX2_hearComparison 112 = .ok (.aload_n 0, 1) := by decide +kernel
theorem dX2_hearComparison_113 : decode cX2_hearComparison 113 = .ok (.getfield 21, 3) := by decide +kernel
theorem dX2_hearComparison_116 : decode cX2_hearComparison 116 = .ok (.invokevirtual 59, 3) := by decide +kernel
theorem dX2_hearComparison_119 : decode cX2_hearComparison 119 = .ok (.return_, 1) := by decide +kernel
theorem dX2_narrow_0 : decode cX2_narrow 0 = .ok (.aload_n 0, 1) := by decide +kernel
theorem dX2_narrow_1 : decode cX2_narrow 1 = .ok (.aload_n 0, 1) := by decide +kernel
theorem dX2_narrow_2 : decode cX2_narrow 2 = .ok (.getfield 13, 3) := by decide +kernel
theorem dX2_narrow_5 : decode cX2_narrow 5 = .ok (.lload_n 1, 1) := by decide +kernel
theorem dX2_narrow_6 : decode cX2_narrow 6 = .ok (.invokestatic 63, 3) := by decide +kernel
theorem dX2_narrow_9 : decode cX2_narrow 9 = .ok (.putfield 13, 3) := by decide +kernel
theorem dX2_narrow_12 : decode cX2_narrow 12 = .ok (.aload_n 0, 1) := by decide +kernel
theorem dX2_narrow_13 : decode cX2_narrow 13 = .ok (.aload_n 0, 1) := by decide +kernel
theorem dX2_narrow_14 : decode cX2_narrow 14 = .ok (.getfield 21, 3) := by decide +kernel
theorem dX2_narrow_17 : decode cX2_narrow 17 = .ok (.lload_n 3, 1) := by decide +kernel
theorem dX2_narrow_18 : decode cX2_narrow 18 = .ok (.invokestatic 69, 3) := by decide +kernel
theorem dX2_narrow_21 : decode cX2_narrow 21 = .ok (.putfield 21, 3) := by decide +kernel
theorem dX2_narrow_24 : decode cX2_narrow 24 = .ok (.aload_n 0, 1) := by decide +kernel
theorem dX2_narrow_25 : decode cX2_narrow 25 = .ok (.iconst 1, 1) := by decide +kernel
theorem dX2_narrow_26 : decode cX2_narrow 26 = .ok (.putfield 72, 3) := by decide +kernel
theorem dX2_narrow_29 : decode cX2_narrow 29 = .ok (.return_, 1) := by decide +kernel
theorem dX3_init_0 : decode cX3_init 0 = .ok (.aload_n 0, 1) := by decide +kernel
theorem dX3_init_1 : decode cX3_init 1 = .ok (.invokespecial 3, 3) := by decide +kernel
theorem dX3_init_4 : decode cX3_init 4 = .ok (.aload_n 0, 1) := by decide +kernel
theorem dX3_init_5 : decode cX3_init 5 = .ok (.iload_n 1, 1) := by decide +kernel
theorem dX3_init_6 : decode cX3_init 6 = .ok (.putfield 9, 3) := by decide +kernel
theorem dX3_init_9 : decode cX3_init 9 = .ok (.aload_n 0, 1) := by decide +kernel
theorem dX3_init_10 : decode cX3_init 10 = .ok (.iload_n 2, 1) := by decide +kernel
theorem dX3_init_11 : decode cX3_init 11 = .ok (.putfield 15, 3) := by decide +kernel
theorem dX3_init_14 : decode cX3_init 14 = .ok (.aload_n 0, 1) := by decide +kernel
theorem dX3_init_15 : decode cX3_init 15 = .ok (.iload_n 3, 1) := by decide +kernel
theorem dX3_init_16 : decode cX3_init 16 = .ok (.putfield 18, 3) := by decide +kernel
theorem dX3_init_19 : decode cX3_init 19 = .ok (.return_, 1) := by decide +kernel
theorem dX3_startsWith_0 : decode cX3_startsWith 0 = .ok (.iload_n 1, 1) := by decide +kernel
theorem dX3_startsWith_1 : decode cX3_startsWith 1 = .ok (.ifCond .ne 5, 3) := by decide +kernel
theorem dX3_startsWith_4 : decode cX3_startsWith 4 = .ok (.iconst 1, 1) := by decide +kernel
theorem dX3_startsWith_5 : decode cX3_startsWith 5 = .ok (.ireturn, 1) := by decide +kernel
theorem dX3_startsWith_6 : decode cX3_startsWith 6 = .ok (.iload_n 1, 1) := by decide +kernel
theorem dX3_startsWith_7 : decode cX3_startsWith 7 = .ok (.sipush 729, 3) := by decide +kernel
theorem dX3_startsWith_10 : decode cX3_startsWith 10 = .ok (.irem, 1) := by decide +kernel
theorem dX3_startsWith_11 : decode cX3_startsWith 11 = .ok (.ifCond .ne 25, 3) := by decide +kernel
theorem dX3_startsWith_14 : decode cX3_startsWith 14 = .ok (.aload_n 0, 1) := by decide +kernel
theorem dX3_startsWith_15 : decode cX3_startsWith 15 = .ok (.getfield 18, 3) := by decide +kernel
theorem dX3_startsWith_18 : decode cX3_startsWith 18 = .ok (.sipush 729, 3) := by decide +kernel
theorem dX3_startsWith_21 : decode cX3_startsWith 21 = .ok (.idiv, 1) := by decide +kernel
theorem dX3_startsWith_22 : decode cX3_startsWith 22 = .ok (.iload_n 1, 1) := by decide +kernel
theorem dX3_startsWith_23 : decode cX3_startsWith 23 = .ok (.sipush 729, 3) := by decide +kernel
theorem dX3_startsWith_26 : decode cX3_startsWith 26 = .ok (.idiv, 1) := by decide +kernel
theorem dX3_startsWith_27 : decode cX3_startsWith 27 = .ok (.if_icmp .ne 7, 3) := by decide +kernel
theorem dX3_startsWith_30 : decode cX3_startsWith 30 = .ok (.iconst 1, 1) := by decide +kernel
theorem dX3_startsWith_31 : decode cX3_startsWith 31 = .ok (.goto 4, 3) := by decide +kernel
theorem dX3_startsWith_34 : decode cX3_startsWith 34 = .ok (.iconst 0, 1) := by decide +kernel
theorem dX3_startsWith_35 : decode cX3_startsWith 35 = .ok (.ireturn, 1) := by decide +kernel
theorem dX3_startsWith_36 : decode cX3_startsWith 36 = .ok (.iload_n 1, 1) := by decide +kernel
theorem dX3_startsWith_37 : decode cX3_startsWith 37 = .ok (.bipush 27, 2) := by decide +kernel
theorem dX3_startsWith_39 : decode cX3_startsWith 39 = .ok (.irem, 1) := by decide +kernel
theorem dX3_startsWith_40 : decode cX3_startsWith 40 = .ok (.ifCond .ne 23, 3) := by decide +kernel
theorem dX3_startsWith_43 : decode cX3_startsWith 43 = .ok (.aload_n 0, 1) := by decide +kernel
theorem dX3_startsWith_44 : decode cX3_startsWith 44 = .ok (.getfield 18, 3) := by decide +kernel
theorem dX3_startsWith_47 : decode cX3_startsWith 47 = .ok (.bipush 27, 2) := by decide +kernel
theorem dX3_startsWith_49 : decode cX3_startsWith 49 = .ok (.idiv, 1) := by decide +kernel
theorem dX3_startsWith_50 : decode cX3_startsWith 50 = .ok (.iload_n 1, 1) := by decide +kernel
theorem dX3_startsWith_51 : decode cX3_startsWith 51 = .ok (.bipush 27, 2) := by decide +kernel
theorem dX3_startsWith_53 : decode cX3_startsWith 53 = .ok (.idiv, 1) := by decide +kernel
theorem dX3_startsWith_54 : decode cX3_startsWith 54 = .ok (.if_icmp .ne 7, 3) := by decide +kernel
theorem dX3_startsWith_57 : decode cX3_startsWith 57 = .ok (.iconst 1, 1) := by decide +kernel
theorem dX3_startsWith_58 : decode cX3_startsWith 58 = .ok (.goto 4, 3) := by decide +kernel
theorem dX3_startsWith_61 : decode cX3_startsWith 61 = .ok (.iconst 0, 1) := by decide +kernel
theorem dX3_startsWith_62 : decode cX3_startsWith 62 = .ok (.ireturn, 1) := by decide +kernel
theorem dX3_startsWith_63 : decode cX3_startsWith 63 = .ok (.aload_n 0, 1) := by decide +kernel
theorem dX3_startsWith_64 : decode cX3_startsWith 64 = .ok (.getfield 18, 3) := by decide +kernel
theorem dX3_startsWith_67 : decode cX3_startsWith 67 = .ok (.iload_n 1, 1) := by decide +kernel
theorem dX3_startsWith_68 : decode cX3_startsWith 68 = .ok (.if_icmp .ne 7, 3) := by decide +kernel
theorem dX3_startsWith_71 : decode cX3_startsWith 71 = .ok (.iconst 1, 1) := by decide +kernel
theorem dX3_startsWith_72 : decode cX3_startsWith 72 = .ok (.goto 4, 3) := by decide +kernel
theorem dX3_startsWith_75 : decode cX3_startsWith 75 = .ok (.iconst 0, 1) := by decide +kernel
theorem dX3_startsWith_76 : decode cX3_startsWith 76 = .ok (.ireturn, 1) := by decide +kernel
theorem dX4_init_0 : decode cX4_init 0 = .ok (.aload_n 0, 1) := by decide +kernel
theorem dX4_init_1 : decode cX4_init 1 = .ok (.invokespecial 1, 3) := by decide +kernel
theorem dX4_init_4 : decode cX4_init 4 = .ok (.aload_n 0, 1) := by decide +kernel
theorem dX4_init_5 : decode cX4_init 5 = .ok (.iload_n 1, 1) := by decide +kernel
theorem dX4_init_6 : decode cX4_init 6 = .ok (.putfield 7, 3) := by decide +kernel
theorem dX4_init_9 : decode cX4_init 9 = .ok (.aload_n 0, 1) := by decide +kernel
theorem dX4_init_10 : decode cX4_init 10 = .ok (.iload_n 2, 1) := by decide +kernel
theorem dX4_init_11 : decode cX4_init 11 = .ok (.putfield 13, 3) := by decide +kernel
theorem dX4_init_14 : decode cX4_init 14 = .ok (.return_, 1) := by decide +kernel
theorem dX4_keeps_0 : decode cX4_keeps 0 = .ok (.aload_n 0, 1) := by decide +kernel
theorem dX4_keeps_1 : decode cX4_keeps 1 = .ok (.getfield 17, 3) := by decide +kernel
theorem dX4_keeps_4 : decode cX4_keeps 4 = .ok (.ifnull 18, 3) := by decide +kernel
theorem dX4_keeps_7 : decode cX4_keeps 7 = .ok (.aload_n 0, 1) := by decide +kernel
theorem dX4_keeps_8 : decode cX4_keeps 8 = .ok (.getfield 17, 3) := by decide +kernel
theorem dX4_keeps_11 : decode cX4_keeps 11 = .ok (.getfield 21, 3) := by decide +kernel
theorem dX4_keeps_14 : decode cX4_keeps 14 = .ok (.aload_n 1, 1) := by decide +kernel
theorem dX4_keeps_15 : decode cX4_keeps 15 = .ok (.getfield 21, 3) := by decide +kernel
theorem dX4_keeps_18 : decode cX4_keeps 18 = .ok (.lcmp, 1) := by decide +kernel
theorem dX4_keeps_19 : decode cX4_keeps 19 = .ok (.ifCond .eq 8, 3) := by decide +kernel
theorem dX4_keeps_22 : decode cX4_keeps 22 = .ok (.aload_n 0, 1) := by decide +kernel
theorem dX4_keeps_23 : decode cX4_keeps 23 = .ok (.iconst 0, 1) := by decide +kernel
theorem dX4_keeps_24 : decode cX4_keeps 24 = .ok (.putfield 27, 3) := by decide +kernel
theorem dX4_keeps_27 : decode cX4_keeps 27 = .ok (.aload_n 0, 1) := by decide +kernel
theorem dX4_keeps_28 : decode cX4_keeps 28 = .ok (.aload_n 1, 1) := by decide +kernel
theorem dX4_keeps_29 : decode cX4_keeps 29 = .ok (.putfield 17, 3) := by decide +kernel
theorem dX4_keeps_32 : decode cX4_keeps 32 = .ok (.aload_n 0, 1) := by decide +kernel
theorem dX4_keeps_33 : decode cX4_keeps 33 = .ok (.getfield 27, 3) := by decide +kernel
theorem dX4_keeps_36 : decode cX4_keeps 36 = .ok (.ifCond .eq 5, 3) := by decide +kernel
theorem dX4_keeps_39 : decode cX4_keeps 39 = .ok (.iconst 0, 1) := by decide +kernel
theorem dX4_keeps_40 : decode cX4_keeps 40 = .ok (.ireturn, 1) := by decide +kernel
theorem dX4_keeps_41 : decode cX4_keeps 41 = .ok (.aload_n 0, 1) := by decide +kernel
theorem dX4_keeps_42 : decode cX4_keeps 42 = .ok (.aload_n 1, 1) := by decide +kernel
theorem dX4_keeps_43 : decode cX4_keeps 43 = .ok (.getfield 30, 3) := by decide +kernel
theorem dX4_keeps_46 : decode cX4_keeps 46 = .ok (.aload_n 0, 1) := by decide +kernel
theorem dX4_keeps_47 : decode cX4_keeps 47 = .ok (.getfield 7, 3) := by decide +kernel
theorem dX4_keeps_50 : decode cX4_keeps 50 = .ok (.if_icmp .gt 7, 3) := by decide +kernel
theorem dX4_keeps_53 : decode cX4_keeps 53 = .ok (.iconst 1, 1) := by decide +kernel
theorem dX4_keeps_54 : decode cX4_keeps 54 = .ok (.goto 4, 3) := by decide +kernel
theorem dX4_keeps_57 : decode cX4_keeps 57 = .ok (.iconst 0, 1) := by decide +kernel
theorem dX4_keeps_58 : decode cX4_keeps 58 = .ok (.putfield 27, 3) := by decide +kernel
theorem dX4_keeps_61 : decode cX4_keeps 61 = .ok (.aload_n 0, 1) := by decide +kernel
theorem dX4_keeps_62 : decode cX4_keeps 62 = .ok (.getfield 27, 3) := by decide +kernel
theorem dX4_keeps_65 : decode cX4_keeps 65 = .ok (.ifCond .eq 17, 3) := by decide +kernel
theorem dX4_keeps_68 : decode cX4_keeps 68 = .ok (.aload_n 0, 1) := by decide +kernel
theorem dX4_keeps_69 : decode cX4_keeps 69 = .ok (.getfield 13, 3) := by decide +kernel
theorem dX4_keeps_72 : decode cX4_keeps 72 = .ok (.ifCond .eq 10, 3) := by decide +kernel
theorem dX4_keeps_75 : decode cX4_keeps 75 = .ok (.aload_n 1, 1) := by decide +kernel
theorem dX4_keeps_76 : decode cX4_keeps 76 = .ok (.getfield 33, 3) := by decide +kernel
theorem dX4_keeps_79 : decode cX4_keeps 79 = .ok (.ifnull 7, 3) := by decide +kernel
theorem dX4_keeps_82 : decode cX4_keeps 82 = .ok (.iconst 1, 1) := by decide +kernel
theorem dX4_keeps_83 : decode cX4_keeps 83 = .ok (.goto 4, 3) := by decide +kernel
theorem dX4_keeps_86 : decode cX4_keeps 86 = .ok (.iconst 0, 1) := by decide +kernel
theorem dX4_keeps_87 : decode cX4_keeps 87 = .ok (.ireturn, 1) := by decide +kernel
theorem dX5_init_0 : decode cX5_init 0 = .ok (.aload_n 0, 1) := by decide +kernel
theorem dX5_init_1 : decode cX5_init 1 = .ok (.invokespecial 3, 3) := by decide +kernel
theorem dX5_init_4 : decode cX5_init 4 = .ok (.aload_n 0, 1) := by decide +kernel
theorem dX5_init_5 : decode cX5_init 5 = .ok (.iload_n 1, 1) := by decide +kernel
theorem dX5_init_6 : decode cX5_init 6 = .ok (.putfield 9, 3) := by decide +kernel
theorem dX5_init_9 : decode cX5_init 9 = .ok (.aload_n 0, 1) := by decide +kernel
theorem dX5_init_10 : decode cX5_init 10 = .ok (.iload_n 2, 1) := by decide +kernel
theorem dX5_init_11 : decode cX5_init 11 = .ok (.putfield 15, 3) := by decide +kernel
theorem dX5_init_14 : decode cX5_init 14 = .ok (.aload_n 0, 1) := by decide +kernel
theorem dX5_init_15 : decode cX5_init 15 = .ok (.aload_n 3, 1) := by decide +kernel
theorem dX5_init_16 : decode cX5_init 16 = .ok (.putfield 18, 3) := by decide +kernel
theorem dX5_init_19 : decode cX5_init 19 = .ok (.aload_n 0, 1) := by decide +kernel
theorem dX5_init_20 : decode cX5_init 20 = .ok (.aload_n 3, 1) := by decide +kernel
theorem dX5_init_21 : decode cX5_init 21 = .ok (.putfield 22, 3) := by decide +kernel
theorem dX5_init_24 : decode cX5_init 24 = .ok (.return_, 1) := by decide +kernel
theorem dX5_append_0 : decode cX5_append 0 = .ok (.aload_n 1, 1) := by decide +kernel
theorem dX5_append_1 : decode cX5_append 1 = .ok (.aload_n 0, 1) := by decide +kernel
theorem dX5_append_2 : decode cX5_append 2 = .ok (.putfield 25, 3) := by decide +kernel
theorem dX5_append_5 : decode cX5_append 5 = .ok (.aload_n 0, 1) := by decide +kernel
theorem dX5_append_6 : decode cX5_append 6 = .ok (.aload_n 1, 1) := by decide +kernel
theorem dX5_append_7 : decode cX5_append 7 = .ok (.putfield 22, 3) := by decide +kernel
theorem dX5_append_10 : decode cX5_append 10 = .ok (.aload_n 0, 1) := by decide +kernel
theorem dX5_append_11 : decode cX5_append 11 = .ok (.dup, 1) := by decide +kernel
theorem dX5_append_12 : decode cX5_append 12 = .ok (.getfield 31, 3) := by decide +kernel
theorem dX5_append_15 : decode cX5_append 15 = .ok (.iconst 1, 1) := by decide +kernel
theorem dX5_append_16 : decode cX5_append 16 = .ok (.iadd, 1) := by decide +kernel
theorem dX5_append_17 : decode cX5_append 17 = .ok (.putfield 31, 3) := by decide +kernel
theorem dX5_append_20 : decode cX5_append 20 = .ok (.return_, 1) := by decide +kernel
theorem dX5_isFullBefore_0 : decode cX5_isFullBefore 0 = .ok (.aload_n 0, 1) := by decide +kernel
theorem dX5_isFullBefore_1 : decode cX5_isFullBefore 1 = .ok (.getfield 31, 3) := by decide +kernel
theorem dX5_isFullBefore_4 : decode cX5_isFullBefore 4 = .ok (.bipush 12, 2) := by decide +kernel
theorem dX5_isFullBefore_6 : decode cX5_isFullBefore 6 = .ok (.if_icmp .lt 22, 3) := by decide +kernel
theorem dX5_isFullBefore_9 : decode cX5_isFullBefore 9 = .ok (.aload_n 0, 1) := by decide +kernel
theorem dX5_isFullBefore_10 : decode cX5_isFullBefore 10 = .ok (.getfield 22, 3) := by decide +kernel
theorem dX5_isFullBefore_13 : decode cX5_isFullBefore 13 = .ok (.getfield 34, 3) := by decide +kernel
theorem dX5_isFullBefore_16 : decode cX5_isFullBefore 16 = .ok (.aload_n 1, 1) := by decide +kernel
theorem dX5_isFullBefore_17 : decode cX5_isFullBefore 17 = .ok (.getfield 34, 3) := by decide +kernel
theorem dX5_isFullBefore_20 : decode cX5_isFullBefore 20 = .ok (.lcmp, 1) := by decide +kernel
theorem dX5_isFullBefore_21 : decode cX5_isFullBefore 21 = .ok (.ifCond .eq 7, 3) := by decide +kernel
theorem dX5_isFullBefore_24 : decode cX5_isFullBefore 24 = .ok (.iconst 1, 1) := by decide +kernel
theorem dX5_isFullBefore_25 : decode cX5_isFullBefore 25 = .ok (.goto 4, 3) := by decide +kernel
theorem dX5_isFullBefore_28 : decode cX5_isFullBefore 28 = .ok (.iconst 0, 1) := by decide +kernel
theorem dX5_isFullBefore_29 : decode cX5_isFullBefore 29 = .ok (.ireturn, 1) := by decide +kernel
theorem dX5_meets_0 : decode cX5_meets 0 = .ok (.aload_n 0, 1) := by decide +kernel
theorem dX5_meets_1 : decode cX5_meets 1 = .ok (.getfield 22, 3) := by decide +kernel
theorem dX5_meets_4 : decode cX5_meets 4 = .ok (.getfield 34, 3) := by decide +kernel
theorem dX5_meets_7 : decode cX5_meets 7 = .ok (.aload_n 1, 1) := by decide +kernel
theorem dX5_meets_8 : decode cX5_meets 8 = .ok (.getfield 18, 3) := by decide +kernel
theorem dX5_meets_11 : decode cX5_meets 11 = .ok (.getfield 34, 3) := by decide +kernel
theorem dX5_meets_14 : decode cX5_meets 14 = .ok (.lcmp, 1) := by decide +kernel
theorem dX5_meets_15 : decode cX5_meets 15 = .ok (.ifCond .lt 25, 3) := by decide +kernel
theorem dX5_meets_18 : decode cX5_meets 18 = .ok (.aload_n 1, 1) := by decide +kernel
theorem dX5_meets_19 : decode cX5_meets 19 = .ok (.getfield 22, 3) := by decide +kernel
theorem dX5_meets_22 : decode cX5_meets 22 = .ok (.getfield 34, 3) := by decide +kernel
theorem dX5_meets_25 : decode cX5_meets 25 = .ok (.aload_n 0, 1) := by decide +kernel
theorem dX5_meets_26 : decode cX5_meets 26 = .ok (.getfield 18, 3) := by decide +kernel
theorem dX5_meets_29 : decode cX5_meets 29 = .ok (.getfield 34, 3) := by decide +kernel
theorem dX5_meets_32 : decode cX5_meets 32 = .ok (.lcmp, 1) := by decide +kernel
theorem dX5_meets_33 : decode cX5_meets 33 = .ok (.ifCond .lt 7, 3) := by decide +kernel
theorem dX5_meets_36 : decode cX5_meets 36 = .ok (.iconst 1, 1) := by decide +kernel
theorem dX5_meets_37 : decode cX5_meets 37 = .ok (.goto 4, 3) := by decide +kernel
theorem dX5_meets_40 : decode cX5_meets 40 = .ok (.iconst 0, 1) := by decide +kernel
theorem dX5_meets_41 : decode cX5_meets 41 = .ok (.ireturn, 1) := by decide +kernel
theorem dX5_tell_0 : decode cX5_tell 0 = .ok (.iload_n 1, 1) := by decide +kernel
theorem dX5_tell_1 : decode cX5_tell 1 = .ok (.tableswitch 105 0 7 #[47, 52, 57, 65, 73, 81, 89, 97], 47) := by decide +kernel
theorem dX5_tell_48 : decode cX5_tell 48 = .ok (.aload_n 0, 1) := by decide +kernel
theorem dX5_tell_49 : decode cX5_tell 49 = .ok (.getfield 9, 3) := by decide +kernel
theorem dX5_tell_52 : decode cX5_tell 52 = .ok (.ireturn, 1) := by decide +kernel
theorem dX5_tell_53 : decode cX5_tell 53 = .ok (.aload_n 0, 1) := by decide +kernel
theorem dX5_tell_54 : decode cX5_tell 54 = .ok (.getfield 31, 3) := by decide +kernel
theorem dX5_tell_57 : decode cX5_tell 57 = .ok (.ireturn, 1) := by decide +kernel
theorem dX5_tell_58 : decode cX5_tell 58 = .ok (.aload_n 0, 1) := by decide +kernel
theorem dX5_tell_59 : decode cX5_tell 59 = .ok (.getfield 18, 3) := by decide +kernel
theorem dX5_tell_62 : decode cX5_tell 62 = .ok (.getfield 38, 3) := by decide +kernel
theorem dX5_tell_65 : decode cX5_tell 65 = .ok (.ireturn, 1) := by decide +kernel
theorem dX5_tell_66 : decode cX5_tell 66 = .ok (.aload_n 0, 1) := by decide +kernel
theorem dX5_tell_67 : decode cX5_tell 67 = .ok (.getfield 18, 3) := by decide +kernel
theorem dX5_tell_70 : decode cX5_tell 70 = .ok (.getfield 41, 3) := by decide +kernel
theorem dX5_tell_73 : decode cX5_tell 73 = .ok (.ireturn, 1) := by decide +kernel
theorem dX5_tell_74 : decode cX5_tell 74 = .ok (.aload_n 0, 1) := by decide +kernel
theorem dX5_tell_75 : decode cX5_tell 75 = .ok (.getfield 18, 3) := by decide +kernel
theorem dX5_tell_78 : decode cX5_tell 78 = .ok (.getfield 44, 3) := by decide +kernel
theorem dX5_tell_81 : decode cX5_tell 81 = .ok (.ireturn, 1) := by decide +kernel
theorem dX5_tell_82 : decode cX5_tell 82 = .ok (.aload_n 0, 1) := by decide +kernel
theorem dX5_tell_83 : decode cX5_tell 83 = .ok (.getfield 22, 3) := by decide +kernel
theorem dX5_tell_86 : decode cX5_tell 86 = .ok (.getfield 38, 3) := by decide +kernel
theorem dX5_tell_89 : decode cX5_tell 89 = .ok (.ireturn, 1) := by decide +kernel
theorem dX5_tell_90 : decode cX5_tell 90 = .ok (.aload_n 0, 1) := by decide +kernel
theorem dX5_tell_91 : decode cX5_tell 91 = .ok (.getfield 22, 3) := by decide +kernel
theorem dX5_tell_94 : decode cX5_tell 94 = .ok (.getfield 41, 3) := by decide +kernel
theorem dX5_tell_97 : decode cX5_tell 97 = .ok (.ireturn, 1) := by decide +kernel
theorem dX5_tell_98 : decode cX5_tell 98 = .ok (.aload_n 0, 1) := by decide +kernel
theorem dX5_tell_99 : decode cX5_tell 99 = .ok (.getfield 22, 3) := by decide +kernel
theorem dX5_tell_102 : decode cX5_tell 102 = .ok (.getfield 44, 3) := by decide +kernel
theorem dX5_tell_105 : decode cX5_tell 105 = .ok (.ireturn, 1) := by decide +kernel
theorem dX5_tell_106 : decode cX5_tell 106 = .ok (.iconst (-1), 1) := by decide +kernel
theorem dX5_tell_107 : decode cX5_tell 107 = .ok (.ireturn, 1) := by decide +kernel
theorem dX6_init_0 : decode cX6_init 0 = .ok (.aload_n 0, 1) := by decide +kernel
theorem dX6_init_1 : decode cX6_init 1 = .ok (.invokespecial 3, 3) := by decide +kernel
theorem dX6_init_4 : decode cX6_init 4 = .ok (.aload_n 0, 1) := by decide +kernel
theorem dX6_init_5 : decode cX6_init 5 = .ok (.sipush 500, 3) := by decide +kernel
theorem dX6_init_8 : decode cX6_init 8 = .ok (.anewarray 9, 3) := by decide +kernel
theorem dX6_init_11 : decode cX6_init 11 = .ok (.putfield 11, 3) := by decide +kernel
theorem dX6_init_14 : decode cX6_init 14 = .ok (.aload_n 0, 1) := by decide +kernel
theorem dX6_init_15 : decode cX6_init 15 = .ok (.new 17, 3) := by decide +kernel
theorem dX6_init_18 : decode cX6_init 18 = .ok (.dup, 1) := by decide +kernel
theorem dX6_init_19 : decode cX6_init 19 = .ok (.invokespecial 19, 3) := by decide +kernel
theorem dX6_init_22 : decode cX6_init 22 = .ok (.putfield 20, 3) := by decide +kernel
theorem dX6_init_25 : decode cX6_init 25 = .ok (.return_, 1) := by decide +kernel
theorem dX6_hasRoomFor_0 : decode cX6_hasRoomFor 0 = .ok (.aload_n 0, 1) := by decide +kernel
theorem dX6_hasRoomFor_1 : decode cX6_hasRoomFor 1 = .ok (.getfield 24, 3) := by decide +kernel
theorem dX6_hasRoomFor_4 : decode cX6_hasRoomFor 4 = .ok (.iload_n 1, 1) := by decide +kernel
theorem dX6_hasRoomFor_5 : decode cX6_hasRoomFor 5 = .ok (.iadd, 1) := by decide +kernel
theorem dX6_hasRoomFor_6 : decode cX6_hasRoomFor 6 = .ok (.sipush 500, 3) := by decide +kernel
theorem dX6_hasRoomFor_9 : decode cX6_hasRoomFor 9 = .ok (.if_icmp .gt 7, 3) := by decide +kernel
theorem dX6_hasRoomFor_12 : decode cX6_hasRoomFor 12 = .ok (.iconst 1, 1) := by decide +kernel
theorem dX6_hasRoomFor_13 : decode cX6_hasRoomFor 13 = .ok (.goto 4, 3) := by decide +kernel
theorem dX6_hasRoomFor_16 : decode cX6_hasRoomFor 16 = .ok (.iconst 0, 1) := by decide +kernel
theorem dX6_hasRoomFor_17 : decode cX6_hasRoomFor 17 = .ok (.ireturn, 1) := by decide +kernel
theorem dX6_add_0 : decode cX6_add 0 = .ok (.aload_n 0, 1) := by decide +kernel
theorem dX6_add_1 : decode cX6_add 1 = .ok (.iconst 1, 1) := by decide +kernel
theorem dX6_add_2 : decode cX6_add 2 = .ok (.invokevirtual 28, 3) := by decide +kernel
theorem dX6_add_5 : decode cX6_add 5 = .ok (.ifCond .ne 4, 3) := by decide +kernel
theorem dX6_add_8 : decode cX6_add 8 = .ok (.return_, 1) := by decide +kernel
theorem dX6_add_9 : decode cX6_add 9 = .ok (.aload_n 0, 1) := by decide +kernel
theorem dX6_add_10 : decode cX6_add 10 = .ok (.aload_n 1, 1) := by decide +kernel
theorem dX6_add_11 : decode cX6_add 11 = .ok (.getfield 32, 3) := by decide +kernel
theorem dX6_add_14 : decode cX6_add 14 = .ok (.aload_n 1, 1) := by decide +kernel
theorem dX6_add_15 : decode cX6_add 15 = .ok (.getfield 36, 3) := by decide +kernel
theorem dX6_add_18 : decode cX6_add 18 = .ok (.invokevirtual 39, 3) := by decide +kernel
theorem dX6_add_21 : decode cX6_add 21 = .ok (.istore_n 2, 1) := by decide +kernel
theorem dX6_add_22 : decode cX6_add 22 = .ok (.aload_n 0, 1) := by decide +kernel
theorem dX6_add_23 : decode cX6_add 23 = .ok (.getfield 24, 3) := by decide +kernel
theorem dX6_add_26 : decode cX6_add 26 = .ok (.istore_n 3, 1) := by decide +kernel
theorem dX6_add_27 : decode cX6_add 27 = .ok (.iload_n 3, 1) := by decide +kernel
theorem dX6_add_28 : decode cX6_add 28 = .ok (.iload_n 2, 1) := by decide +kernel
theorem dX6_add_29 : decode cX6_add 29 = .ok (.if_icmp .le 23, 3) := by decide +kernel
theorem dX6_add_32 : decode cX6_add 32 = .ok (.aload_n 0, 1) := by decide +kernel
theorem dX6_add_33 : decode cX6_add 33 = .ok (.getfield 11, 3) := by decide +kernel
theorem dX6_add_36 : decode cX6_add 36 = .ok (.iload_n 3, 1) := by decide +kernel
theorem dX6_add_37 : decode cX6_add 37 = .ok (.aload_n 0, 1) := by decide +kernel
theorem dX6_add_38 : decode cX6_add 38 = .ok (.getfield 11, 3) := by decide +kernel
theorem dX6_add_41 : decode cX6_add 41 = .ok (.iload_n 3, 1) := by decide +kernel
theorem dX6_add_42 : decode cX6_add 42 = .ok (.iconst 1, 1) := by decide +kernel
theorem dX6_add_43 : decode cX6_add 43 = .ok (.isub, 1) := by decide +kernel
theorem dX6_add_44 : decode cX6_add 44 = .ok (.aaload, 1) := by decide +kernel
theorem dX6_add_45 : decode cX6_add 45 = .ok (.aastore, 1) := by decide +kernel
theorem dX6_add_46 : decode cX6_add 46 = .ok (.iinc 3 (-1), 3) := by decide +kernel
theorem dX6_add_49 : decode cX6_add 49 = .ok (.goto (-22), 3) := by decide +kernel
theorem dX6_add_52 : decode cX6_add 52 = .ok (.aload_n 0, 1) := by decide +kernel
theorem dX6_add_53 : decode cX6_add 53 = .ok (.getfield 11, 3) := by decide +kernel
theorem dX6_add_56 : decode cX6_add 56 = .ok (.iload_n 2, 1) := by decide +kernel
theorem dX6_add_57 : decode cX6_add 57 = .ok (.aload_n 1, 1) := by decide +kernel
theorem dX6_add_58 : decode cX6_add 58 = .ok (.aastore, 1) := by decide +kernel
theorem dX6_add_59 : decode cX6_add 59 = .ok (.aload_n 0, 1) := by decide +kernel
theorem dX6_add_60 : decode cX6_add 60 = .ok (.dup, 1) := by decide +kernel
theorem dX6_add_61 : decode cX6_add 61 = .ok (.getfield 24, 3) := by decide +kernel
theorem dX6_add_64 : decode cX6_add 64 = .ok (.iconst 1, 1) := by decide +kernel
theorem dX6_add_65 : decode cX6_add 65 = .ok (.iadd, 1) := by decide +kernel
theorem dX6_add_66 : decode cX6_add 66 = .ok (.putfield 24, 3) := by decide +kernel
theorem dX6_add_69 : decode cX6_add 69 = .ok (.aload_n 0, 1) := by decide +kernel
theorem dX6_add_70 : decode cX6_add 70 = .ok (.dup, 1) := by decide +kernel
theorem dX6_add_71 : decode cX6_add 71 = .ok (.getfield 43, 3) := by decide +kernel
theorem dX6_add_74 : decode cX6_add 74 = .ok (.iconst 1, 1) := by decide +kernel
theorem dX6_add_75 : decode cX6_add 75 = .ok (.iadd, 1) := by decide +kernel
theorem dX6_add_76 : decode cX6_add 76 = .ok (.putfield 43, 3) := by decide +kernel
theorem dX6_add_79 : decode cX6_add 79 = .ok (.return_, 1) := by decide +kernel
theorem dX6_countBefore_0 : decode cX6_countBefore 0 = .ok (.iconst 0, 1) := by decide +kernel
theorem dX6_countBefore_1 : decode cX6_countBefore 1 = .ok (.istore 4, 2) := by decide +kernel
theorem dX6_countBefore_3 : decode cX6_countBefore 3 = .ok (.sipush 256, 3) := by decide +kernel
theorem dX6_countBefore_6 : decode cX6_countBefore 6 = .ok (.istore 5, 2) := by decide +kernel
theorem dX6_countBefore_8 : decode cX6_countBefore 8 = .ok (.iload 5, 2) := by decide +kernel
theorem dX6_countBefore_10 : decode cX6_countBefore 10 = .ok (.ifCond .le 49, 3) := by decide +kernel
theorem dX6_countBefore_13 : decode cX6_countBefore 13 = .ok (.iload 4, 2) := by decide +kernel
theorem dX6_countBefore_15 : decode cX6_countBefore 15 = .ok (.iload 5, 2) := by decide +kernel
theorem dX6_countBefore_17 : decode cX6_countBefore 17 = .ok (.iadd, 1) := by decide +kernel
theorem dX6_countBefore_18 : decode cX6_countBefore 18 = .ok (.istore 6, 2) := by decide +kernel
theorem dX6_countBefore_20 : decode cX6_countBefore 20 = .ok (.iload 6, 2) := by decide +kernel
theorem dX6_countBefore_22 : decode cX6_countBefore 22 = .ok (.aload_n 0, 1) := by decide +kernel
theorem dX6_countBefore_23 : decode cX6_countBefore 23 = .ok (.getfield 24, 3) := by decide +kernel
theorem dX6_countBefore_26 : decode cX6_countBefore 26 = .ok (.if_icmp .gt 24, 3) := by decide +kernel
theorem dX6_countBefore_29 : decode cX6_countBefore 29 = .ok (.aload_n 0, 1) := by decide +kernel
theorem dX6_countBefore_30 : decode cX6_countBefore 30 = .ok (.getfield 11, 3) := by decide +kernel
theorem dX6_countBefore_33 : decode cX6_countBefore 33 = .ok (.iload 6, 2) := by decide +kernel
theorem dX6_countBefore_35 : decode cX6_countBefore 35 = .ok (.iconst 1, 1) := by decide +kernel
theorem dX6_countBefore_36 : decode cX6_countBefore 36 = .ok (.isub, 1) := by decide +kernel
theorem dX6_countBefore_37 : decode cX6_countBefore 37 = .ok (.aaload, 1) := by decide +kernel
theorem dX6_countBefore_38 : decode cX6_countBefore 38 = .ok (.lload_n 1, 1) := by decide +kernel
theorem dX6_countBefore_39 : decode cX6_countBefore 39 = .ok (.iload_n 3, 1) := by decide +kernel
theorem dX6_countBefore_40 : decode cX6_countBefore 40 = .ok (.invokevirtual 46, 3) := by decide +kernel
theorem dX6_countBefore_43 : decode cX6_countBefore 43 = .ok (.ifCond .eq 7, 3) := by decide +kernel
theorem dX6_countBefore_46 : decode cX6_countBefore 46 = .ok (.iload 6, 2) := by decide +kernel
theorem dX6_countBefore_48 : decode cX6_countBefore 48 = .ok (.istore 4, 2) := by decide +kernel
theorem dX6_countBefore_50 : decode cX6_countBefore 50 = .ok (.iload 5, 2) := by decide +kernel
theorem dX6_countBefore_52 : decode cX6_countBefore 52 = .ok (.iconst 2, 1) := by decide +kernel
theorem dX6_countBefore_53 : decode cX6_countBefore 53 = .ok (.idiv, 1) := by decide +kernel
theorem dX6_countBefore_54 : decode cX6_countBefore 54 = .ok (.istore 5, 2) := by decide +kernel
theorem dX6_countBefore_56 : decode cX6_countBefore 56 = .ok (.goto (-48), 3) := by decide +kernel
theorem dX6_countBefore_59 : decode cX6_countBefore 59 = .ok (.iload 4, 2) := by decide +kernel
theorem dX6_countBefore_61 : decode cX6_countBefore 61 = .ok (.ireturn, 1) := by decide +kernel
theorem dX6_seenRow_0 : decode cX6_seenRow 0 = .ok (.iconst 0, 1) := by decide +kernel
theorem dX6_seenRow_1 : decode cX6_seenRow 1 = .ok (.iconst 0, 1) := by decide +kernel
theorem dX6_seenRow_2 : decode cX6_seenRow 2 = .ok (.iload_n 1, 1) := by decide +kernel
theorem dX6_seenRow_3 : decode cX6_seenRow 3 = .ok (.invokestatic 50, 3) := by decide +kernel
theorem dX6_seenRow_6 : decode cX6_seenRow 6 = .ok (.lstore_n 3, 1) := by decide +kernel
theorem dX6_seenRow_7 : decode cX6_seenRow 7 = .ok (.aload_n 0, 1) := by decide +kernel
theorem dX6_seenRow_8 : decode cX6_seenRow 8 = .ok (.lload_n 3, 1) := by decide +kernel
theorem dX6_seenRow_9 : decode cX6_seenRow 9 = .ok (.iload_n 2, 1) := by decide +kernel
theorem dX6_seenRow_10 : decode cX6_seenRow 10 = .ok (.invokevirtual 39, 3) := by decide +kernel
theorem dX6_seenRow_13 : decode cX6_seenRow 13 = .ok (.istore 5, 2) := by decide +kernel
theorem dX6_seenRow_15 : decode cX6_seenRow 15 = .ok (.iload 5, 2) := by decide +kernel
theorem dX6_seenRow_17 : decode cX6_seenRow 17 = .ok (.aload_n 0, 1) := by decide +kernel
theorem dX6_seenRow_18 : decode cX6_seenRow 18 = .ok (.getfield 24, 3) := by decide +kernel
theorem dX6_seenRow_21 : decode cX6_seenRow 21 = .ok (.if_icmp .ge 28, 3) := by decide +kernel
theorem dX6_seenRow_24 : decode cX6_seenRow 24 = .ok (.aload_n 0, 1) := by decide +kernel
theorem dX6_seenRow_25 : decode cX6_seenRow 25 = .ok (.getfield 11, 3) := by decide +kernel
theorem dX6_seenRow_28 : decode cX6_seenRow 28 = .ok (.iload 5, 2) := by decide +kernel
theorem dX6_seenRow_30 : decode cX6_seenRow 30 = .ok (.aaload, 1) := by decide +kernel
theorem dX6_seenRow_31 : decode cX6_seenRow 31 = .ok (.getfield 32, 3) := by decide +kernel
theorem dX6_seenRow_34 : decode cX6_seenRow 34 = .ok (.lload_n 3, 1) := by decide +kernel
theorem dX6_seenRow_35 : decode cX6_seenRow 35 = .ok (.lcmp, 1) := by decide +kernel
theorem dX6_seenRow_36 : decode cX6_seenRow 36 = .ok (.ifCond .ne 13, 3) := by decide +kernel
theorem dX6_seenRow_39 : decode cX6_seenRow 39 = .ok (.aload_n 0, 1) := by decide +kernel
theorem dX6_seenRow_40 : decode cX6_seenRow 40 = .ok (.getfield 11, 3) := by decide +kernel
theorem dX6_seenRow_43 : decode cX6_seenRow 43 = .ok (.iload 5, 2) := by decide +kernel
theorem dX6_seenRow_45 : decode cX6_seenRow 45 = .ok (.aaload, 1) := by decide +kernel
theorem dX6_seenRow_46 : decode cX6_seenRow 46 = .ok (.goto 4, 3) := by decide +kernel
theorem dX6_seenRow_49 : decode cX6_seenRow 49 = .ok (.aconst_null, 1) := by decide +kernel
theorem dX6_seenRow_50 : decode cX6_seenRow 50 = .ok (.areturn, 1) := by decide +kernel
theorem dX6_rowAt_0 : decode cX6_rowAt 0 = .ok (.aload_n 0, 1) := by decide +kernel
theorem dX6_rowAt_1 : decode cX6_rowAt 1 = .ok (.iload_n 1, 1) := by decide +kernel
theorem dX6_rowAt_2 : decode cX6_rowAt 2 = .ok (.iload_n 2, 1) := by decide +kernel
theorem dX6_rowAt_3 : decode cX6_rowAt 3 = .ok (.invokevirtual 54, 3) := by decide +kernel
theorem dX6_rowAt_6 : decode cX6_rowAt 6 = .ok (.astore_n 3, 1) := by decide +kernel
theorem dX6_rowAt_7 : decode cX6_rowAt 7 = .ok (.aload_n 3, 1) := by decide +kernel
theorem dX6_rowAt_8 : decode cX6_rowAt 8 = .ok (.ifnonnull 7, 3) := by decide +kernel
theorem dX6_rowAt_11 : decode cX6_rowAt 11 = .ok (.aconst_null, 1) := by decide +kernel
theorem dX6_rowAt_12 : decode cX6_rowAt 12 = .ok (.goto 7, 3) := by decide +kernel
theorem dX6_rowAt_15 : decode cX6_rowAt 15 = .ok (.aload_n 3, 1) := by decide +kernel
theorem dX6_rowAt_16 : decode cX6_rowAt 16 = .ok (.getfield 58, 3) := by decide +kernel
theorem dX6_rowAt_19 : decode cX6_rowAt 19 = .ok (.areturn, 1) := by decide +kernel
theorem dX6_lastStampOf_0 : decode cX6_lastStampOf 0 = .ok (.aload_n 0, 1) := by decide +kernel
theorem dX6_lastStampOf_1 : decode cX6_lastStampOf 1 = .ok (.iload_n 1, 1) := by decide +kernel
theorem dX6_lastStampOf_2 : decode cX6_lastStampOf 2 = .ok (.ldc 64, 2) := by decide +kernel
theorem dX6_lastStampOf_4 : decode cX6_lastStampOf 4 = .ok (.invokevirtual 54, 3) := by decide +kernel
theorem dX6_lastStampOf_7 : decode cX6_lastStampOf 7 = .ok (.astore_n 2, 1) := by decide +kernel
theorem dX6_lastStampOf_8 : decode cX6_lastStampOf 8 = .ok (.aload_n 2, 1) := by decide +kernel
theorem dX6_lastStampOf_9 : decode cX6_lastStampOf 9 = .ok (.ifnonnull 7, 3) := by decide +kernel
theorem dX6_lastStampOf_12 : decode cX6_lastStampOf 12 = .ok (.iconst 0, 1) := by decide +kernel
theorem dX6_lastStampOf_13 : decode cX6_lastStampOf 13 = .ok (.goto 7, 3) := by decide +kernel
theorem dX6_lastStampOf_16 : decode cX6_lastStampOf 16 = .ok (.aload_n 2, 1) := by decide +kernel
theorem dX6_lastStampOf_17 : decode cX6_lastStampOf 17 = .ok (.getfield 36, 3) := by decide +kernel
theorem dX6_lastStampOf_20 : decode cX6_lastStampOf 20 = .ok (.ireturn, 1) := by decide +kernel
theorem dX6_countThere_0 : decode cX6_countThere 0 = .ok (.iconst 0, 1) := by decide +kernel
theorem dX6_countThere_1 : decode cX6_countThere 1 = .ok (.istore 7, 2) := by decide +kernel
theorem dX6_countThere_3 : decode cX6_countThere 3 = .ok (.aconst_null, 1) := by decide +kernel
theorem dX6_countThere_4 : decode cX6_countThere 4 = .ok (.astore 8, 2) := by decide +kernel
theorem dX6_countThere_6 : decode cX6_countThere 6 = .ok (.iconst 0, 1) := by decide +kernel
theorem dX6_countThere_7 : decode cX6_countThere 7 = .ok (.istore 9, 2) := by decide +kernel
theorem dX6_countThere_9 : decode cX6_countThere 9 = .ok (.iload 9, 2) := by decide +kernel
theorem dX6_countThere_11 : decode cX6_countThere 11 = .ok (.aload_n 0, 1) := by decide +kernel
theorem dX6_countThere_12 : decode cX6_countThere 12 = .ok (.getfield 24, 3) := by decide +kernel
theorem dX6_countThere_15 : decode cX6_countThere 15 = .ok (.if_icmp .ge 81, 3) := by decide +kernel
theorem dX6_countThere_18 : decode cX6_countThere 18 = .ok (.aload_n 0, 1) := by decide +kernel
theorem dX6_countThere_19 : decode cX6_countThere 19 = .ok (.getfield 11, 3) := by decide +kernel
theorem dX6_countThere_22 : decode cX6_countThere 22 = .ok (.iload 9, 2) := by decide +kernel
theorem dX6_countThere_24 : decode cX6_countThere 24 = .ok (.aaload, 1) := by decide +kernel
theorem dX6_countThere_25 : decode cX6_countThere 25 = .ok (.astore 10, 2) := by decide +kernel
theorem dX6_countThere_27 : decode cX6_countThere 27 = .ok (.aload 10, 2) := by decide +kernel
theorem dX6_countThere_29 : decode cX6_countThere 29 = .ok (.getfield 36, 3) := by decide +kernel
theorem dX6_countThere_32 : decode cX6_countThere 32 = .ok (.iload 6, 2) := by decide +kernel
theorem dX6_countThere_34 : decode cX6_countThere 34 = .ok (.if_icmp .gt 56, 3) := by decide +kernel
theorem dX6_countThere_37 : decode cX6_countThere 37 = .ok (.aload 8, 2) := by decide +kernel
theorem dX6_countThere_39 : decode cX6_countThere 39 = .ok (.ifnull 17, 3) := by decide +kernel
theorem dX6_countThere_42 : decode cX6_countThere 42 = .ok (.aload 8, 2) := by decide +kernel
theorem dX6_countThere_44 : decode cX6_countThere 44 = .ok (.getfield 32, 3) := by decide +kernel
theorem dX6_countThere_47 : decode cX6_countThere 47 = .ok (.aload 10, 2) := by decide +kernel
theorem dX6_countThere_49 : decode cX6_countThere 49 = .ok (.getfield 32, 3) := by decide +kernel
theorem dX6_countThere_52 : decode cX6_countThere 52 = .ok (.lcmp, 1) := by decide +kernel
theorem dX6_countThere_53 : decode cX6_countThere 53 = .ok (.ifCond .eq 37, 3) := by decide +kernel
theorem dX6_countThere_56 : decode cX6_countThere 56 = .ok (.aload 10, 2) := by decide +kernel
theorem dX6_countThere_58 : decode cX6_countThere 58 = .ok (.astore 8, 2) := by decide +kernel
theorem dX6_countThere_60 : decode cX6_countThere 60 = .ok (.iload 7, 2) := by decide +kernel
theorem dX6_countThere_62 : decode cX6_countThere 62 = .ok (.aload 10, 2) := by decide +kernel
theorem dX6_countThere_64 : decode cX6_countThere 64 = .ok (.getfield 58, 3) := by decide +kernel
theorem dX6_countThere_67 : decode cX6_countThere 67 = .ok (.ifnull 19, 3) := by decide +kernel
theorem dX6_countThere_70 : decode cX6_countThere 70 = .ok (.aload 10, 2) := by decide +kernel
theorem dX6_countThere_72 : decode cX6_countThere 72 = .ok (.iload_n 1, 1) := by decide +kernel
theorem dX6_countThere_73 : decode cX6_countThere 73 = .ok (.lload_n 2, 1) := by decide +kernel
theorem dX6_countThere_74 : decode cX6_countThere 74 = .ok (.lload 4, 2) := by decide +kernel
theorem dX6_countThere_76 : decode cX6_countThere 76 = .ok (.invokevirtual 65, 3) := by decide +kernel
theorem dX6_countThere_79 : decode cX6_countThere 79 = .ok (.ifCond .eq 7, 3) := by decide +kernel
theorem dX6_countThere_82 : decode cX6_countThere 82 = .ok (.iconst 1, 1) := by decide +kernel
theorem dX6_countThere_83 : decode cX6_countThere 83 = .ok (.goto 4, 3) := by decide +kernel
theorem dX6_countThere_86 : decode cX6_countThere 86 = .ok (.iconst 0, 1) := by decide +kernel
theorem dX6_countThere_87 : decode cX6_countThere 87 = .ok (.iadd, 1) := by decide +kernel
theorem dX6_countThere_88 : decode cX6_countThere 88 = .ok (.istore 7, 2) := by decide +kernel
theorem dX6_countThere_90 : decode cX6_countThere 90 = .ok (.iinc 9 1, 3) := by decide +kernel
theorem dX6_countThere_93 : decode cX6_countThere 93 = .ok (.goto (-84), 3) := by decide +kernel
theorem dX6_countThere_96 : decode cX6_countThere 96 = .ok (.iload 7, 2) := by decide +kernel
theorem dX6_countThere_98 : decode cX6_countThere 98 = .ok (.ireturn, 1) := by decide +kernel
theorem dX6_writeMemoryOut_0 : decode cX6_writeMemoryOut 0 = .ok (.aload_n 0, 1) := by decide +kernel
theorem dX6_writeMemoryOut_1 : decode cX6_writeMemoryOut 1 = .ok (.getfield 43, 3) := by decide +kernel
theorem dX6_writeMemoryOut_4 : decode cX6_writeMemoryOut 4 = .ok (.istore_n 1, 1) := by decide +kernel
theorem dX6_writeMemoryOut_5 : decode cX6_writeMemoryOut 5 = .ok (.aconst_null, 1) := by decide +kernel
theorem dX6_writeMemoryOut_6 : decode cX6_writeMemoryOut 6 = .ok (.astore_n 2, 1) := by decide +kernel
theorem dX6_writeMemoryOut_7 : decode cX6_writeMemoryOut 7 = .ok (.iconst 0, 1) := by decide +kernel
theorem dX6_writeMemoryOut_8 : decode cX6_writeMemoryOut 8 = .ok (.istore_n 3, 1) := by decide +kernel
theorem dX6_writeMemoryOut_9 : decode cX6_writeMemoryOut 9 = .ok (.iload_n 3, 1) := by decide +kernel
theorem dX6_writeMemoryOut_10 : decode cX6_writeMemoryOut 10 = .ok (.aload_n 0, 1) := by decide +kernel
theorem dX6_writeMemoryOut_11 : decode cX6_writeMemoryOut 11 = .ok (.getfield 24, 3) := by decide +kernel
theorem dX6_writeMemoryOut_14 : decode cX6_writeMemoryOut 14 = .ok (.if_icmp .ge 47, 3) := by decide +kernel
theorem dX6_writeMemoryOut_17 : decode cX6_writeMemoryOut 17 = .ok (.aload_n 0, 1) := by decide +kernel
theorem dX6_writeMemoryOut_18 : decode cX6_writeMemoryOut 18 = .ok (.getfield 11, 3) := by decide +kernel
theorem dX6_writeMemoryOut_21 : decode cX6_writeMemoryOut 21 = .ok (.iload_n 3, 1) := by decide +kernel
theorem dX6_writeMemoryOut_22 : decode cX6_writeMemoryOut 22 = .ok (.aaload, 1) := by decide +kernel
theorem dX6_writeMemoryOut_23 : decode cX6_writeMemoryOut 23 = .ok (.astore 4, 2) := by decide +kernel
theorem dX6_writeMemoryOut_25 : decode cX6_writeMemoryOut 25 = .ok (.aload 4, 2) := by decide +kernel
theorem dX6_writeMemoryOut_27 : decode cX6_writeMemoryOut 27 = .ok (.getfield 69, 3) := by decide +kernel
theorem dX6_writeMemoryOut_30 : decode cX6_writeMemoryOut 30 = .ok (.ifnonnull 25, 3) := by decide +kernel
theorem dX6_writeMemoryOut_33 : decode cX6_writeMemoryOut 33 = .ok (.aload_n 2, 1) := by decide +kernel
theorem dX6_writeMemoryOut_34 : decode cX6_writeMemoryOut 34 = .ok (.ifnonnull 13, 3) := by decide +kernel
theorem dX6_writeMemoryOut_37 : decode cX6_writeMemoryOut 37 = .ok (.aload_n 0, 1) := by decide +kernel
theorem dX6_writeMemoryOut_38 : decode cX6_writeMemoryOut 38 = .ok (.iconst 0, 1) := by decide +kernel
theorem dX6_writeMemoryOut_39 : decode cX6_writeMemoryOut 39 = .ok (.aload 4, 2) := by decide +kernel
theorem dX6_writeMemoryOut_41 : decode cX6_writeMemoryOut 41 = .ok (.invokevirtual 73, 3) := by decide +kernel
theorem dX6_writeMemoryOut_44 : decode cX6_writeMemoryOut 44 = .ok (.goto 4, 3) := by decide +kernel
theorem dX6_writeMemoryOut_47 : decode cX6_writeMemoryOut 47 = .ok (.aload_n 2, 1) := by decide +kernel
theorem dX6_writeMemoryOut_48 : decode cX6_writeMemoryOut 48 = .ok (.astore_n 2, 1) := by decide +kernel
theorem dX6_writeMemoryOut_49 : decode cX6_writeMemoryOut 49 = .ok (.aload_n 2, 1) := by decide +kernel
theorem dX6_writeMemoryOut_50 : decode cX6_writeMemoryOut 50 = .ok (.aload 4, 2) := by decide +kernel
theorem dX6_writeMemoryOut_52 : decode cX6_writeMemoryOut 52 = .ok (.invokevirtual 77, 3) := by decide +kernel
theorem dX6_writeMemoryOut_55 : decode cX6_writeMemoryOut 55 = .ok (.iinc 3 1, 3) := by decide +kernel
theorem dX6_writeMemoryOut_58 : decode cX6_writeMemoryOut 58 = .ok (.goto (-49), 3) := by decide +kernel
theorem dX6_writeMemoryOut_61 : decode cX6_writeMemoryOut 61 = .ok (.aload_n 0, 1) := by decide +kernel
theorem dX6_writeMemoryOut_62 : decode cX6_writeMemoryOut 62 = .ok (.iconst 0, 1) := by decide +kernel
theorem dX6_writeMemoryOut_63 : decode cX6_writeMemoryOut 63 = .ok (.putfield 43, 3) := by decide +kernel
theorem dX6_writeMemoryOut_66 : decode cX6_writeMemoryOut 66 = .ok (.iload_n 1, 1) := by decide +kernel
theorem dX6_writeMemoryOut_67 : decode cX6_writeMemoryOut 67 = .ok (.ireturn, 1) := by decide +kernel
theorem dX6_newFile_0 : decode cX6_newFile 0 = .ok (.aload_n 0, 1) := by decide +kernel
theorem dX6_newFile_1 : decode cX6_newFile 1 = .ok (.dup, 1) := by decide +kernel
theorem dX6_newFile_2 : decode cX6_newFile 2 = .ok (.getfield 83, 3) := by decide +kernel
theorem dX6_newFile_5 : decode cX6_newFile 5 = .ok (.iconst 1, 1) := by decide +kernel
theorem dX6_newFile_6 : decode cX6_newFile 6 = .ok (.iadd, 1) := by decide +kernel
theorem dX6_newFile_7 : decode cX6_newFile 7 = .ok (.putfield 83, 3) := by decide +kernel
theorem dX6_newFile_10 : decode cX6_newFile 10 = .ok (.new 78, 3) := by decide +kernel
theorem dX6_newFile_13 : decode cX6_newFile 13 = .ok (.dup, 1) := by decide +kernel
theorem dX6_newFile_14 : decode cX6_newFile 14 = .ok (.aload_n 0, 1) := by decide +kernel
theorem dX6_newFile_15 : decode cX6_newFile 15 = .ok (.getfield 83, 3) := by decide +kernel
theorem dX6_newFile_18 : decode cX6_newFile 18 = .ok (.iload_n 1, 1) := by decide +kernel
theorem dX6_newFile_19 : decode cX6_newFile 19 = .ok (.aload_n 2, 1) := by decide +kernel
theorem dX6_newFile_20 : decode cX6_newFile 20 = .ok (.invokespecial 86, 3) := by decide +kernel
theorem dX6_newFile_23 : decode cX6_newFile 23 = .ok (.astore_n 3, 1) := by decide +kernel
theorem dX6_newFile_24 : decode cX6_newFile 24 = .ok (.aload_n 0, 1) := by decide +kernel
theorem dX6_newFile_25 : decode cX6_newFile 25 = .ok (.getfield 20, 3) := by decide +kernel
theorem dX6_newFile_28 : decode cX6_newFile 28 = .ok (.aload_n 3, 1) := by decide +kernel
theorem dX6_newFile_29 : decode cX6_newFile 29 = .ok (.invokevirtual 89, 3) := by decide +kernel
theorem dX6_newFile_32 : decode cX6_newFile 32 = .ok (.pop, 1) := by decide +kernel
theorem dX6_newFile_33 : decode cX6_newFile 33 = .ok (.aload_n 3, 1) := by decide +kernel
theorem dX6_newFile_34 : decode cX6_newFile 34 = .ok (.areturn, 1) := by decide +kernel
theorem dX6_countFiles_0 : decode cX6_countFiles 0 = .ok (.iconst 0, 1) := by decide +kernel
theorem dX6_countFiles_1 : decode cX6_countFiles 1 = .ok (.istore_n 2, 1) := by decide +kernel
theorem dX6_countFiles_2 : decode cX6_countFiles 2 = .ok (.iconst 0, 1) := by decide +kernel
theorem dX6_countFiles_3 : decode cX6_countFiles 3 = .ok (.istore_n 3, 1) := by decide +kernel
theorem dX6_countFiles_4 : decode cX6_countFiles 4 = .ok (.iload_n 3, 1) := by decide +kernel
theorem dX6_countFiles_5 : decode cX6_countFiles 5 = .ok (.aload_n 0, 1) := by decide +kernel
theorem dX6_countFiles_6 : decode cX6_countFiles 6 = .ok (.getfield 20, 3) := by decide +kernel
theorem dX6_countFiles_9 : decode cX6_countFiles 9 = .ok (.invokevirtual 93, 3) := by decide +kernel
theorem dX6_countFiles_12 : decode cX6_countFiles 12 = .ok (.if_icmp .ge 35, 3) := by decide +kernel
theorem dX6_countFiles_15 : decode cX6_countFiles 15 = .ok (.iload_n 2, 1) := by decide +kernel
theorem dX6_countFiles_16 : decode cX6_countFiles 16 = .ok (.aload_n 0, 1) := by decide +kernel
theorem dX6_countFiles_17 : decode cX6_countFiles 17 = .ok (.getfield 20, 3) := by decide +kernel
theorem dX6_countFiles_20 : decode cX6_countFiles 20 = .ok (.iload_n 3, 1) := by decide +kernel
theorem dX6_countFiles_21 : decode cX6_countFiles 21 = .ok (.invokevirtual 97, 3) := by decide +kernel
theorem dX6_countFiles_24 : decode cX6_countFiles 24 = .ok (.checkcast 78, 3) := by decide +kernel
theorem dX6_countFiles_27 : decode cX6_countFiles 27 = .ok (.getfield 101, 3) := by decide +kernel
theorem dX6_countFiles_30 : decode cX6_countFiles 30 = .ok (.iload_n 1, 1) := by decide +kernel
theorem dX6_countFiles_31 : decode cX6_countFiles 31 = .ok (.if_icmp .ne 7, 3) := by decide +kernel
theorem dX6_countFiles_34 : decode cX6_countFiles 34 = .ok (.iconst 1, 1) := by decide +kernel
theorem dX6_countFiles_35 : decode cX6_countFiles 35 = .ok (.goto 4, 3) := by decide +kernel
theorem dX6_countFiles_38 : decode cX6_countFiles 38 = .ok (.iconst 0, 1) := by decide +kernel
theorem dX6_countFiles_39 : decode cX6_countFiles 39 = .ok (.iadd, 1) := by decide +kernel
theorem dX6_countFiles_40 : decode cX6_countFiles 40 = .ok (.istore_n 2, 1) := by decide +kernel
theorem dX6_countFiles_41 : decode cX6_countFiles 41 = .ok (.iinc 3 1, 3) := by decide +kernel
theorem dX6_countFiles_44 : decode cX6_countFiles 44 = .ok (.goto (-40), 3) := by decide +kernel
theorem dX6_countFiles_47 : decode cX6_countFiles 47 = .ok (.iload_n 2, 1) := by decide +kernel
theorem dX6_countFiles_48 : decode cX6_countFiles 48 = .ok (.ireturn, 1) := by decide +kernel
theorem dX6_fileOn_0 : decode cX6_fileOn 0 = .ok (.iconst 0, 1) := by decide +kernel
theorem dX6_fileOn_1 : decode cX6_fileOn 1 = .ok (.istore_n 3, 1) := by decide +kernel
theorem dX6_fileOn_2 : decode cX6_fileOn 2 = .ok (.iconst 0, 1) := by decide +kernel
theorem dX6_fileOn_3 : decode cX6_fileOn 3 = .ok (.istore 4, 2) := by decide +kernel
theorem dX6_fileOn_5 : decode cX6_fileOn 5 = .ok (.iload 4, 2) := by decide +kernel
theorem dX6_fileOn_7 : decode cX6_fileOn 7 = .ok (.aload_n 0, 1) := by decide +kernel
theorem dX6_fileOn_8 : decode cX6_fileOn 8 = .ok (.getfield 20, 3) := by decide +kernel
theorem dX6_fileOn_11 : decode cX6_fileOn 11 = .ok (.invokevirtual 93, 3) := by decide +kernel
theorem dX6_fileOn_14 : decode cX6_fileOn 14 = .ok (.if_icmp .ge 43, 3) := by decide +kernel
theorem dX6_fileOn_17 : decode cX6_fileOn 17 = .ok (.aload_n 0, 1) := by decide +kernel
theorem dX6_fileOn_18 : decode cX6_fileOn 18 = .ok (.getfield 20, 3) := by decide +kernel
theorem dX6_fileOn_21 : decode cX6_fileOn 21 = .ok (.iload 4, 2) := by decide +kernel
theorem dX6_fileOn_23 : decode cX6_fileOn 23 = .ok (.invokevirtual 97, 3) := by decide +kernel
theorem dX6_fileOn_26 : decode cX6_fileOn 26 = .ok (.checkcast 78, 3) := by decide +kernel
theorem dX6_fileOn_29 : decode cX6_fileOn 29 = .ok (.astore 5, 2) := by decide +kernel
theorem dX6_fileOn_31 : decode cX6_fileOn 31 = .ok (.aload 5, 2) := by decide +kernel
theorem dX6_fileOn_33 : decode cX6_fileOn 33 = .ok (.getfield 101, 3) := by decide +kernel
theorem dX6_fileOn_36 : decode cX6_fileOn 36 = .ok (.iload_n 1, 1) := by decide +kernel
theorem dX6_fileOn_37 : decode cX6_fileOn 37 = .ok (.if_icmp .ne 14, 3) := by decide +kernel
theorem dX6_fileOn_40 : decode cX6_fileOn 40 = .ok (.iload_n 3, 1) := by decide +kernel
theorem dX6_fileOn_41 : decode cX6_fileOn 41 = .ok (.iload_n 2, 1) := by decide +kernel
theorem dX6_fileOn_42 : decode cX6_fileOn 42 = .ok (.if_icmp .ne 6, 3) := by decide +kernel
theorem dX6_fileOn_45 : decode cX6_fileOn 45 = .ok (.aload 5, 2) := by decide +kernel
theorem dX6_fileOn_47 : decode cX6_fileOn 47 = .ok (.areturn, 1) := by decide +kernel
theorem dX6_fileOn_48 : decode cX6_fileOn 48 = .ok (.iinc 3 1, 3) := by decide +kernel
theorem dX6_fileOn_51 : decode cX6_fileOn 51 = .ok (.iinc 4 1, 3) := by decide +kernel
theorem dX6_fileOn_54 : decode cX6_fileOn 54 = .ok (.goto (-49), 3) := by decide +kernel
theorem dX6_fileOn_57 : decode cX6_fileOn 57 = .ok (.aconst_null, 1) := by decide +kernel
theorem dX6_fileOn_58 : decode cX6_fileOn 58 = .ok (.areturn, 1) := by decide +kernel
theorem dX6_overfullLevel_0 : decode cX6_overfullLevel 0 = .ok (.aload_n 0, 1) := by decide +kernel
theorem dX6_overfullLevel_1 : decode cX6_overfullLevel 1 = .ok (.iconst 0, 1) := by decide +kernel
theorem dX6_overfullLevel_2 : decode cX6_overfullLevel 2 = .ok (.invokevirtual 104, 3) := by decide +kernel
theorem dX6_overfullLevel_5 : decode cX6_overfullLevel 5 = .ok (.iconst 2, 1) := by decide +kernel
theorem dX6_overfullLevel_6 : decode cX6_overfullLevel 6 = .ok (.if_icmp .le 5, 3) := by decide +kernel
theorem dX6_overfullLevel_9 : decode cX6_overfullLevel 9 = .ok (.iconst 0, 1) := by decide +kernel
theorem dX6_overfullLevel_10 : decode cX6_overfullLevel 10 = .ok (.ireturn, 1) := by decide +kernel
theorem dX6_overfullLevel_11 : decode cX6_overfullLevel 11 = .ok (.aload_n 0, 1) := by decide +kernel
theorem dX6_overfullLevel_12 : decode cX6_overfullLevel 12 = .ok (.iconst 1, 1) := by decide +kernel
theorem dX6_overfullLevel_13 : decode cX6_overfullLevel 13 = .ok (.invokevirtual 104, 3) := by decide +kernel
theorem dX6_overfullLevel_16 : decode cX6_overfullLevel 16 = .ok (.iconst 3, 1) := by decide +kernel
theorem dX6_overfullLevel_17 : decode cX6_overfullLevel 17 = .ok (.if_icmp .le 7, 3) := by decide +kernel
theorem dX6_overfullLevel_20 : decode cX6_overfullLevel 20 = .ok (.iconst 1, 1) := by decide +kernel
theorem dX6_overfullLevel_21 : decode cX6_overfullLevel 21 = .ok (.goto 4, 3) := by decide +kernel
theorem dX6_overfullLevel_24 : decode cX6_overfullLevel 24 = .ok (.iconst (-1), 1) := by decide +kernel
theorem dX6_overfullLevel_25 : decode cX6_overfullLevel 25 = .ok (.ireturn, 1) := by decide +kernel
theorem dX6_mergeDown_0 : decode cX6_mergeDown 0 = .ok (.aload_n 0, 1) := by decide +kernel
theorem dX6_mergeDown_1 : decode cX6_mergeDown 1 = .ok (.iload_n 1, 1) := by decide +kernel
theorem dX6_mergeDown_2 : decode cX6_mergeDown 2 = .ok (.iconst 0, 1) := by decide +kernel
theorem dX6_mergeDown_3 : decode cX6_mergeDown 3 = .ok (.invokevirtual 108, 3) := by decide +kernel
theorem dX6_mergeDown_6 : decode cX6_mergeDown 6 = .ok (.astore_n 3, 1) := by decide +kernel
theorem dX6_mergeDown_7 : decode cX6_mergeDown 7 = .ok (.aload_n 3, 1) := by decide +kernel
theorem dX6_mergeDown_8 : decode cX6_mergeDown 8 = .ok (.ifnonnull 5, 3) := by decide +kernel
theorem dX6_mergeDown_11 : decode cX6_mergeDown 11 = .ok (.iconst (-1), 1) := by decide +kernel
theorem dX6_mergeDown_12 : decode cX6_mergeDown 12 = .ok (.ireturn, 1) := by decide +kernel
theorem dX6_mergeDown_13 : decode cX6_mergeDown 13 = .ok (.aload_n 0, 1) := by decide +kernel
theorem dX6_mergeDown_14 : decode cX6_mergeDown 14 = .ok (.aload_n 3, 1) := by decide +kernel
theorem dX6_mergeDown_15 : decode cX6_mergeDown 15 = .ok (.invokevirtual 112, 3) := by decide +kernel
theorem dX6_mergeDown_18 : decode cX6_mergeDown 18 = .ok (.aload_n 0, 1) := by decide +kernel
theorem dX6_mergeDown_19 : decode cX6_mergeDown 19 = .ok (.iload_n 1, 1) := by decide +kernel
theorem dX6_mergeDown_20 : decode cX6_mergeDown 20 = .ok (.iconst 1, 1) := by decide +kernel
theorem dX6_mergeDown_21 : decode cX6_mergeDown 21 = .ok (.iadd, 1) := by decide +kernel
theorem dX6_mergeDown_22 : decode cX6_mergeDown 22 = .ok (.iload_n 2, 1) := by decide +kernel
theorem dX6_mergeDown_23 : decode cX6_mergeDown 23 = .ok (.invokevirtual 116, 3) := by decide +kernel
theorem dX6_mergeDown_26 : decode cX6_mergeDown 26 = .ok (.ireturn, 1) := by decide +kernel
theorem dX6_retire_0 : decode cX6_retire 0 = .ok (.aload_n 0, 1) := by decide +kernel
theorem dX6_retire_1 : decode cX6_retire 1 = .ok (.getfield 20, 3) := by decide +kernel
theorem dX6_retire_4 : decode cX6_retire 4 = .ok (.invokevirtual 93, 3) := by decide +kernel
theorem dX6_retire_7 : decode cX6_retire 7 = .ok (.iconst 1, 1) := by decide +kernel
theorem dX6_retire_8 : decode cX6_retire 8 = .ok (.isub, 1) := by decide +kernel
theorem dX6_retire_9 : decode cX6_retire 9 = .ok (.istore_n 2, 1) := by decide +kernel
theorem dX6_retire_10 : decode cX6_retire 10 = .ok (.iload_n 2, 1) := by decide +kernel
theorem dX6_retire_11 : decode cX6_retire 11 = .ok (.ifCond .lt 61, 3) := by decide +kernel
theorem dX6_retire_14 : decode cX6_retire 14 = .ok (.aload_n 0, 1) := by decide +kernel
theorem dX6_retire_15 : decode cX6_retire 15 = .ok (.getfield 20, 3) := by decide +kernel
theorem dX6_retire_18 : decode cX6_retire 18 = .ok (.iload_n 2, 1) := by decide +kernel
theorem dX6_retire_19 : decode cX6_retire 19 = .ok (.invokevirtual 97, 3) := by decide +kernel
theorem dX6_retire_22 : decode cX6_retire 22 = .ok (.checkcast 78, 3) := by decide +kernel
theorem dX6_retire_25 : decode cX6_retire 25 = .ok (.astore_n 3, 1) := by decide +kernel
theorem dX6_retire_26 : decode cX6_retire 26 = .ok (.aload_n 3, 1) := by decide +kernel
theorem dX6_retire_27 : decode cX6_retire 27 = .ok (.aload_n 1, 1) := by decide +kernel
theorem dX6_retire_28 : decode cX6_retire 28 = .ok (.if_acmp .eq 24, 3) := by decide +kernel
theorem dX6_retire_31 : decode cX6_retire 31 = .ok (.aload_n 3, 1) := by decide +kernel
theorem dX6_retire_32 : decode cX6_retire 32 = .ok (.getfield 101, 3) := by decide +kernel
theorem dX6_retire_35 : decode cX6_retire 35 = .ok (.aload_n 1, 1) := by decide +kernel
theorem dX6_retire_36 : decode cX6_retire 36 = .ok (.getfield 101, 3) := by decide +kernel
theorem dX6_retire_39 : decode cX6_retire 39 = .ok (.iconst 1, 1) := by decide +kernel
theorem dX6_retire_40 : decode cX6_retire 40 = .ok (.iadd, 1) := by decide +kernel
theorem dX6_retire_41 : decode cX6_retire 41 = .ok (.if_icmp .ne 25, 3) := by decide +kernel
theorem dX6_retire_44 : decode cX6_retire 44 = .ok (.aload_n 3, 1) := by decide +kernel
theorem dX6_retire_45 : decode cX6_retire 45 = .ok (.aload_n 1, 1) := by decide +kernel
theorem dX6_retire_46 : decode cX6_retire 46 = .ok (.invokevirtual 120, 3) := by decide +kernel
theorem dX6_retire_49 : decode cX6_retire 49 = .ok (.ifCond .eq 17, 3) := by decide +kernel
theorem dX6_retire_52 : decode cX6_retire 52 = .ok (.aload_n 3, 1) := by decide +kernel
theorem dX6_retire_53 : decode cX6_retire 53 = .ok (.iconst 1, 1) := by decide +kernel
theorem dX6_retire_54 : decode cX6_retire 54 = .ok (.putfield 124, 3) := by decide +kernel
theorem dX6_retire_57 : decode cX6_retire 57 = .ok (.aload_n 0, 1) := by decide +kernel
theorem dX6_retire_58 : decode cX6_retire 58 = .ok (.getfield 20, 3) := by decide +kernel
theorem dX6_retire_61 : decode cX6_retire 61 = .ok (.iload_n 2, 1) := by decide +kernel
theorem dX6_retire_62 : decode cX6_retire 62 = .ok (.invokevirtual 128, 3) := by decide +kernel
theorem dX6_retire_65 : decode cX6_retire 65 = .ok (.pop, 1) := by decide +kernel
theorem dX6_retire_66 : decode cX6_retire 66 = .ok (.iinc 2 (-1), 3) := by decide +kernel
theorem dX6_retire_69 : decode cX6_retire 69 = .ok (.goto (-59), 3) := by decide +kernel
theorem dX6_retire_72 : decode cX6_retire 72 = .ok (.return_, 1) := by decide +kernel
theorem dX6_moveRetired_0 : decode cX6_moveRetired 0 = .ok (.new 131, 3) := by decide +kernel
theorem dX6_moveRetired_3 : decode cX6_moveRetired 3 = .ok (.dup, 1) := by decide +kernel
theorem dX6_moveRetired_4 : decode cX6_moveRetired 4 = .ok (.iload_n 2, 1) := by decide +kernel
theorem dX6_moveRetired_5 : decode cX6_moveRetired 5 = .ok (.iload_n 1, 1) := by decide +kernel
theorem dX6_moveRetired_6 : decode cX6_moveRetired 6 = .ok (.iconst 2, 1) := by decide +kernel
theorem dX6_moveRetired_7 : decode cX6_moveRetired 7 = .ok (.if_icmp .ne 7, 3) := by decide +kernel
theorem dX6_moveRetired_10 : decode cX6_moveRetired 10 = .ok (.iconst 1, 1) := by decide +kernel
theorem dX6_moveRetired_11 : decode cX6_moveRetired 11 = .ok (.goto 4, 3) := by decide +kernel
theorem dX6_moveRetired_14 : decode cX6_moveRetired 14 = .ok (.iconst 0, 1) := by decide +kernel
theorem dX6_moveRetired_15 : decode cX6_moveRetired 15 = .ok (.invokespecial 133, 3) := by decide +kernel
theorem dX6_moveRetired_18 : decode cX6_moveRetired 18 = .ok (.astore_n 3, 1) := by decide +kernel
theorem dX6_moveRetired_19 : decode cX6_moveRetired 19 = .ok (.aconst_null, 1) := by decide +kernel
theorem dX6_moveRetired_20 : decode cX6_moveRetired 20 = .ok (.astore 4, 2) := by decide +kernel
theorem dX6_moveRetired_22 : decode cX6_moveRetired 22 = .ok (.iconst 0, 1) := by decide +kernel
theorem dX6_moveRetired_23 : decode cX6_moveRetired 23 = .ok (.istore 5, 2) := by decide +kernel
theorem dX6_moveRetired_25 : decode cX6_moveRetired 25 = .ok (.iconst 0, 1) := by decide +kernel
theorem dX6_moveRetired_26 : decode cX6_moveRetired 26 = .ok (.istore 6, 2) := by decide +kernel
theorem dX6_moveRetired_28 : decode cX6_moveRetired 28 = .ok (.iload 6, 2) := by decide +kernel
theorem dX6_moveRetired_30 : decode cX6_moveRetired 30 = .ok (.aload_n 0, 1) := by decide +kernel
theorem dX6_moveRetired_31 : decode cX6_moveRetired 31 = .ok (.getfield 24, 3) := by decide +kernel
theorem dX6_moveRetired_34 : decode cX6_moveRetired 34 = .ok (.if_icmp .ge 86, 3) := by decide +kernel
theorem dX6_moveRetired_37 : decode cX6_moveRetired 37 = .ok (.aload_n 0, 1) := by decide +kernel
theorem dX6_moveRetired_38 : decode cX6_moveRetired 38 = .ok (.getfield 11, 3) := by decide +kernel
theorem dX6_moveRetired_41 : decode cX6_moveRetired 41 = .ok (.iload 6, 2) := by decide +kernel
theorem dX6_moveRetired_43 : decode cX6_moveRetired 43 = .ok (.aaload, 1) := by decide +kernel
theorem dX6_moveRetired_44 : decode cX6_moveRetired 44 = .ok (.astore 7, 2) := by decide +kernel
theorem dX6_moveRetired_46 : decode cX6_moveRetired 46 = .ok (.aload 7, 2) := by decide +kernel
theorem dX6_moveRetired_48 : decode cX6_moveRetired 48 = .ok (.invokevirtual 136, 3) := by decide +kernel
theorem dX6_moveRetired_51 : decode cX6_moveRetired 51 = .ok (.ifCond .eq 51, 3) := by decide +kernel
theorem dX6_moveRetired_54 : decode cX6_moveRetired 54 = .ok (.aload_n 3, 1) := by decide +kernel
theorem dX6_moveRetired_55 : decode cX6_moveRetired 55 = .ok (.aload 7, 2) := by decide +kernel
theorem dX6_moveRetired_57 : decode cX6_moveRetired 57 = .ok (.invokevirtual 140, 3) := by decide +kernel
theorem dX6_moveRetired_60 : decode cX6_moveRetired 60 = .ok (.ifCond .ne 6, 3) := by decide +kernel
theorem dX6_moveRetired_63 : decode cX6_moveRetired 63 = .ok (.goto 51, 3) := by decide +kernel
theorem dX6_moveRetired_66 : decode cX6_moveRetired 66 = .ok (.aload 4, 2) := by decide +kernel
theorem dX6_moveRetired_68 : decode cX6_moveRetired 68 = .ok (.ifnull 13, 3) := by decide +kernel
theorem dX6_moveRetired_71 : decode cX6_moveRetired 71 = .ok (.aload 4, 2) := by decide +kernel
theorem dX6_moveRetired_73 : decode cX6_moveRetired 73 = .ok (.aload 7, 2) := by decide +kernel
theorem dX6_moveRetired_75 : decode cX6_moveRetired 75 = .ok (.invokevirtual 144, 3) := by decide +kernel
theorem dX6_moveRetired_78 : decode cX6_moveRetired 78 = .ok (.ifCond .eq 13, 3) := by decide +kernel
theorem dX6_moveRetired_81 : decode cX6_moveRetired 81 = .ok (.aload_n 0, 1) := by decide +kernel
theorem dX6_moveRetired_82 : decode cX6_moveRetired 82 = .ok (.iload_n 1, 1) := by decide +kernel
theorem dX6_moveRetired_83 : decode cX6_moveRetired 83 = .ok (.aload 7, 2) := by decide +kernel
theorem dX6_moveRetired_85 : decode cX6_moveRetired 85 = .ok (.invokevirtual 73, 3) := by decide +kernel
theorem dX6_moveRetired_88 : decode cX6_moveRetired 88 = .ok (.goto 5, 3) := by decide +kernel
theorem dX6_moveRetired_91 : decode cX6_moveRetired 91 = .ok (.aload 4, 2) := by decide +kernel
theorem dX6_moveRetired_93 : decode cX6_moveRetired 93 = .ok (.astore 4, 2) := by decide +kernel
theorem dX6_moveRetired_95 : decode cX6_moveRetired 95 = .ok (.aload 4, 2) := by decide +kernel
theorem dX6_moveRetired_97 : decode cX6_moveRetired 97 = .ok (.aload 7, 2) := by decide +kernel
theorem dX6_moveRetired_99 : decode cX6_moveRetired 99 = .ok (.invokevirtual 77, 3) := by decide +kernel
theorem dX6_moveRetired_102 : decode cX6_moveRetired 102 = .ok (.aload_n 0, 1) := by decide +kernel
theorem dX6_moveRetired_103 : decode cX6_moveRetired 103 = .ok (.getfield 11, 3) := by decide +kernel
theorem dX6_moveRetired_106 : decode cX6_moveRetired 106 = .ok (.iload 5, 2) := by decide +kernel
theorem dX6_moveRetired_108 : decode cX6_moveRetired 108 = .ok (.aload 7, 2) := by decide +kernel
theorem dX6_moveRetired_110 : decode cX6_moveRetired 110 = .ok (.aastore, 1) := by decide +kernel
theorem dX6_moveRetired_111 : decode cX6_moveRetired 111 = .ok (.iinc 5 1, 3) := by decide +kernel
theorem dX6_moveRetired_114 : decode cX6_moveRetired 114 = .ok (.iinc 6 1, 3) := by decide +kernel
theorem dX6_moveRetired_117 : decode cX6_moveRetired 117 = .ok (.goto (-89), 3) := by decide +kernel
theorem dX6_moveRetired_120 : decode cX6_moveRetired 120 = .ok (.aload_n 0, 1) := by decide +kernel
theorem dX6_moveRetired_121 : decode cX6_moveRetired 121 = .ok (.getfield 24, 3) := by decide +kernel
theorem dX6_moveRetired_124 : decode cX6_moveRetired 124 = .ok (.iload 5, 2) := by decide +kernel
theorem dX6_moveRetired_126 : decode cX6_moveRetired 126 = .ok (.isub, 1) := by decide +kernel
theorem dX6_moveRetired_127 : decode cX6_moveRetired 127 = .ok (.istore 6, 2) := by decide +kernel
theorem dX6_moveRetired_129 : decode cX6_moveRetired 129 = .ok (.aload_n 0, 1) := by decide +kernel
theorem dX6_moveRetired_130 : decode cX6_moveRetired 130 = .ok (.iload 5, 2) := by decide +kernel
theorem dX6_moveRetired_132 : decode cX6_moveRetired 132 = .ok (.putfield 24, 3) := by decide +kernel
theorem dX6_moveRetired_135 : decode cX6_moveRetired 135 = .ok (.iload 6, 2) := by decide +kernel
theorem dX6_moveRetired_137 : decode cX6_moveRetired 137 = .ok (.ireturn, 1) := by decide +kernel
theorem dX7_init_0 : decode cX7_init 0 = .ok (.aload_n 0, 1) := by decide +kernel
theorem dX7_init_1 : decode cX7_init 1 = .ok (.invokespecial 3, 3) := by decide +kernel
theorem dX7_init_4 : decode cX7_init 4 = .ok (.aload_n 0, 1) := by decide +kernel
theorem dX7_init_5 : decode cX7_init 5 = .ok (.iconst 1, 1) := by decide +kernel
theorem dX7_init_6 : decode cX7_init 6 = .ok (.putfield 9, 3) := by decide +kernel
theorem dX7_init_9 : decode cX7_init 9 = .ok (.aload_n 0, 1) := by decide +kernel
theorem dX7_init_10 : decode cX7_init 10 = .ok (.bipush 32, 2) := by decide +kernel
theorem dX7_init_12 : decode cX7_init 12 = .ok (.newarray .boolean, 2) := by decide +kernel
theorem dX7_init_14 : decode cX7_init 14 = .ok (.putfield 15, 3) := by decide +kernel
theorem dX7_init_17 : decode cX7_init 17 = .ok (.aload_n 0, 1) := by decide +kernel
theorem dX7_init_18 : decode cX7_init 18 = .ok (.bipush 32, 2) := by decide +kernel
theorem dX7_init_20 : decode cX7_init 20 = .ok (.anewarray 19, 3) := by decide +kernel
theorem dX7_init_23 : decode cX7_init 23 = .ok (.putfield 21, 3) := by decide +kernel
theorem dX7_init_26 : decode cX7_init 26 = .ok (.aload_n 0, 1) := by decide +kernel
theorem dX7_init_27 : decode cX7_init 27 = .ok (.iload_n 1, 1) := by decide +kernel
theorem dX7_init_28 : decode cX7_init 28 = .ok (.putfield 25, 3) := by decide +kernel
theorem dX7_init_31 : decode cX7_init 31 = .ok (.return_, 1) := by decide +kernel
theorem dX7_isOpen_0 : decode cX7_isOpen 0 = .ok (.aload_n 0, 1) := by decide +kernel
theorem dX7_isOpen_1 : decode cX7_isOpen 1 = .ok (.getfield 9, 3) := by decide +kernel
theorem dX7_isOpen_4 : decode cX7_isOpen 4 = .ok (.iconst 1, 1) := by decide +kernel
theorem dX7_isOpen_5 : decode cX7_isOpen 5 = .ok (.if_icmp .ne 7, 3) := by decide +kernel
theorem dX7_isOpen_8 : decode cX7_isOpen 8 = .ok (.iconst 1, 1) := by decide +kernel
theorem dX7_isOpen_9 : decode cX7_isOpen 9 = .ok (.goto 4, 3) := by decide +kernel
theorem dX7_isOpen_12 : decode cX7_isOpen 12 = .ok (.iconst 0, 1) := by decide +kernel
theorem dX7_isOpen_13 : decode cX7_isOpen 13 = .ok (.ireturn, 1) := by decide +kernel
theorem dX7_put_0 : decode cX7_put 0 = .ok (.aload_n 0, 1) := by decide +kernel
theorem dX7_put_1 : decode cX7_put 1 = .ok (.iconst 1, 1) := by decide +kernel
theorem dX7_put_2 : decode cX7_put 2 = .ok (.putfield 28, 3) := by decide +kernel
theorem dX7_put_5 : decode cX7_put 5 = .ok (.aload_n 0, 1) := by decide +kernel
theorem dX7_put_6 : decode cX7_put 6 = .ok (.getfield 15, 3) := by decide +kernel
theorem dX7_put_9 : decode cX7_put 9 = .ok (.iload_n 1, 1) := by decide +kernel
theorem dX7_put_10 : decode cX7_put 10 = .ok (.iconst 1, 1) := by decide +kernel
theorem dX7_put_11 : decode cX7_put 11 = .ok (.bastore, 1) := by decide +kernel
theorem dX7_put_12 : decode cX7_put 12 = .ok (.aload_n 0, 1) := by decide +kernel
theorem dX7_put_13 : decode cX7_put 13 = .ok (.getfield 21, 3) := by decide +kernel
theorem dX7_put_16 : decode cX7_put 16 = .ok (.iload_n 1, 1) := by decide +kernel
theorem dX7_put_17 : decode cX7_put 17 = .ok (.aload_n 2, 1) := by decide +kernel
theorem dX7_put_18 : decode cX7_put 18 = .ok (.aastore, 1) := by decide +kernel
theorem dX7_put_19 : decode cX7_put 19 = .ok (.return_, 1) := by decide +kernel
theorem dX8_init_0 : decode cX8_init 0 = .ok (.aload_n 0, 1) := by decide +kernel
theorem dX8_init_1 : decode cX8_init 1 = .ok (.invokespecial 1, 3) := by decide +kernel
theorem dX8_init_4 : decode cX8_init 4 = .ok (.aload_n 0, 1) := by decide +kernel
theorem dX8_init_5 : decode cX8_init 5 = .ok (.bipush 8, 2) := by decide +kernel
theorem dX8_init_7 : decode cX8_init 7 = .ok (.anewarray 9, 3) := by decide +kernel
theorem dX8_init_10 : decode cX8_init 10 = .ok (.putfield 11, 3) := by decide +kernel
theorem dX8_init_13 : decode cX8_init 13 = .ok (.aload_n 0, 1) := by decide +kernel
theorem dX8_init_14 : decode cX8_init 14 = .ok (.iconst 3, 1) := by decide +kernel
theorem dX8_init_15 : decode cX8_init 15 = .ok (.anewarray 9, 3) := by decide +kernel
theorem dX8_init_18 : decode cX8_init 18 = .ok (.putfield 15, 3) := by decide +kernel
theorem dX8_init_21 : decode cX8_init 21 = .ok (.aload_n 0, 1) := by decide +kernel
theorem dX8_init_22 : decode cX8_init 22 = .ok (.bipush 60, 2) := by decide +kernel
theorem dX8_init_24 : decode cX8_init 24 = .ok (.anewarray 18, 3) := by decide +kernel
theorem dX8_init_27 : decode cX8_init 27 = .ok (.putfield 20, 3) := by decide +kernel
theorem dX8_init_30 : decode cX8_init 30 = .ok (.aload_n 0, 1) := by decide +kernel
theorem dX8_init_31 : decode cX8_init 31 = .ok (.new 24, 3) := by decide +kernel
theorem dX8_init_34 : decode cX8_init 34 = .ok (.dup, 1) := by decide +kernel
theorem dX8_init_35 : decode cX8_init 35 = .ok (.invokespecial 26, 3) := by decide +kernel
theorem dX8_init_38 : decode cX8_init 38 = .ok (.putfield 27, 3) := by decide +kernel
theorem dX8_init_41 : decode cX8_init 41 = .ok (.aload_n 0, 1) := by decide +kernel
theorem dX8_init_42 : decode cX8_init 42 = .ok (.bipush 32, 2) := by decide +kernel
theorem dX8_init_44 : decode cX8_init 44 = .ok (.newarray .int, 2) := by decide +kernel
theorem dX8_init_46 : decode cX8_init 46 = .ok (.putfield 31, 3) := by decide +kernel
theorem dX8_init_49 : decode cX8_init 49 = .ok (.aload_n 0, 1) := by decide +kernel
theorem dX8_init_50 : decode cX8_init 50 = .ok (.iconst (-1), 1) := by decide +kernel
theorem dX8_init_51 : decode cX8_init 51 = .ok (.putfield 35, 3) := by decide +kernel
theorem dX8_init_54 : decode cX8_init 54 = .ok (.return_, 1) := by decide +kernel
theorem dX8_say_0 : decode cX8_say 0 = .ok (.iload_n 1, 1) := by decide +kernel
theorem dX8_say_1 : decode cX8_say 1 = .ok (.ifCond .lt 22, 3) := by decide +kernel
theorem dX8_say_4 : decode cX8_say 4 = .ok (.iload_n 1, 1) := by decide +kernel
theorem dX8_say_5 : decode cX8_say 5 = .ok (.bipush 12, 2) := by decide +kernel
theorem dX8_say_7 : decode cX8_say 7 = .ok (.if_icmp .gt 16, 3) := by decide +kernel
theorem dX8_say_10 : decode cX8_say 10 = .ok (.iload_n 1, 1) := by decide +kernel
theorem dX8_say_11 : decode cX8_say 11 = .ok (.bipush 12, 2) := by decide +kernel
theorem dX8_say_13 : decode cX8_say 13 = .ok (.if_icmp .ne 12, 3) := by decide +kernel
theorem dX8_say_16 : decode cX8_say 16 = .ok (.iload_n 2, 1) := by decide +kernel
theorem dX8_say_17 : decode cX8_say 17 = .ok (.invokestatic 39, 3) := by decide +kernel
theorem dX8_say_20 : decode cX8_say 20 = .ok (.ifCond .ne 5, 3) := by decide +kernel
theorem dX8_say_23 : decode cX8_say 23 = .ok (.iconst 0, 1) := by decide +kernel
theorem dX8_say_24 : decode cX8_say 24 = .ok (.ireturn, 1) := by decide +kernel
theorem dX8_say_25 : decode cX8_say 25 = .ok (.iload_n 1, 1) := by decide +kernel
theorem dX8_say_26 : decode cX8_say 26 = .ok (.invokestatic 43, 3) := by decide +kernel
theorem dX8_say_29 : decode cX8_say 29 = .ok (.istore_n 3, 1) := by decide +kernel
theorem dX8_say_30 : decode cX8_say 30 = .ok (.aload_n 0, 1) := by decide +kernel
theorem dX8_say_31 : decode cX8_say 31 = .ok (.getfield 47, 3) := by decide +kernel
theorem dX8_say_34 : decode cX8_say 34 = .ok (.iload_n 3, 1) := by decide +kernel
theorem dX8_say_35 : decode cX8_say 35 = .ok (.isub, 1) := by decide +kernel
theorem dX8_say_36 : decode cX8_say 36 = .ok (.istore 4, 2) := by decide +kernel
theorem dX8_say_38 : decode cX8_say 38 = .ok (.iload 4, 2) := by decide +kernel
theorem dX8_say_40 : decode cX8_say 40 = .ok (.ifCond .lt 10, 3) := by decide +kernel
theorem dX8_say_43 : decode cX8_say 43 = .ok (.iload 4, 2) := by decide +kernel
theorem dX8_say_45 : decode cX8_say 45 = .ok (.bipush 8, 2) := by decide +kernel
theorem dX8_say_47 : decode cX8_say 47 = .ok (.if_icmp .lt 5, 3) := by decide +kernel
theorem dX8_say_50 : decode cX8_say 50 = .ok (.iconst 0, 1) := by decide +kernel
theorem dX8_say_51 : decode cX8_say 51 = .ok (.ireturn, 1) := by decide +kernel
theorem dX8_say_52 : decode cX8_say 52 = .ok (.iload_n 3, 1) := by decide +kernel
theorem dX8_say_53 : decode cX8_say 53 = .ok (.ifCond .ne 7, 3) := by decide +kernel
theorem dX8_say_56 : decode cX8_say 56 = .ok (.aconst_null, 1) := by decide +kernel
theorem dX8_say_57 : decode cX8_say 57 = .ok (.goto 10, 3) := by decide +kernel
theorem dX8_say_60 : decode cX8_say 60 = .ok (.aload_n 0, 1) := by decide +kernel
theorem dX8_say_61 : decode cX8_say 61 = .ok (.getfield 11, 3) := by decide +kernel
theorem dX8_say_64 : decode cX8_say 64 = .ok (.iload 4, 2) := by decide +kernel
theorem dX8_say_66 : decode cX8_say 66 = .ok (.aaload, 1) := by decide +kernel
theorem dX8_say_67 : decode cX8_say 67 = .ok (.astore 5, 2) := by decide +kernel
theorem dX8_say_69 : decode cX8_say 69 = .ok (.iload_n 3, 1) := by decide +kernel
theorem dX8_say_70 : decode cX8_say 70 = .ok (.iconst 2, 1) := by decide +kernel
theorem dX8_say_71 : decode cX8_say 71 = .ok (.if_icmp .ne 15, 3) := by decide +kernel
theorem dX8_say_74 : decode cX8_say 74 = .ok (.aload_n 0, 1) := by decide +kernel
theorem dX8_say_75 : decode cX8_say 75 = .ok (.getfield 11, 3) := by decide +kernel
theorem dX8_say_78 : decode cX8_say 78 = .ok (.iload 4, 2) := by decide +kernel
theorem dX8_say_80 : decode cX8_say 80 = .ok (.iconst 1, 1) := by decide +kernel
theorem dX8_say_81 : decode cX8_say 81 = .ok (.iadd, 1) := by decide +kernel
theorem dX8_say_82 : decode cX8_say 82 = .ok (.aaload, 1) := by decide +kernel
theorem dX8_say_83 : decode cX8_say 83 = .ok (.goto 4, 3) := by decide +kernel
theorem dX8_say_86 : decode cX8_say 86 = .ok (.aconst_null, 1) := by decide +kernel
theorem dX8_say_87 : decode cX8_say 87 = .ok (.astore 6, 2) := by decide +kernel
theorem dX8_say_89 : decode cX8_say 89 = .ok (.iload_n 1, 1) := by decide +kernel
theorem dX8_say_90 : decode cX8_say 90 = .ok (.aload 5, 2) := by decide +kernel
theorem dX8_say_92 : decode cX8_say 92 = .ok (.invokestatic 50, 3) := by decide +kernel
theorem dX8_say_95 : decode cX8_say 95 = .ok (.ifCond .eq 30, 3) := by decide +kernel
theorem dX8_say_98 : decode cX8_say 98 = .ok (.iload_n 1, 1) := by decide +kernel
theorem dX8_say_99 : decode cX8_say 99 = .ok (.aload 6, 2) := by decide +kernel
theorem dX8_say_101 : decode cX8_say 101 = .ok (.invokestatic 50, 3) := by decide +kernel
theorem dX8_say_104 : decode cX8_say 104 = .ok (.ifCond .eq 21, 3) := by decide +kernel
theorem dX8_say_107 : decode cX8_say 107 = .ok (.iconst 1, 1) := by decide +kernel
theorem dX8_say_108 : decode cX8_say 108 = .ok (.aload 5, 2) := by decide +kernel
theorem dX8_say_110 : decode cX8_say 110 = .ok (.invokestatic 54, 3) := by decide +kernel
theorem dX8_say_113 : decode cX8_say 113 = .ok (.iadd, 1) := by decide +kernel
theorem dX8_say_114 : decode cX8_say 114 = .ok (.aload 6, 2) := by decide +kernel
theorem dX8_say_116 : decode cX8_say 116 = .ok (.invokestatic 54, 3) := by decide +kernel
theorem dX8_say_119 : decode cX8_say 119 = .ok (.iadd, 1) := by decide +kernel
theorem dX8_say_120 : decode cX8_say 120 = .ok (.bipush 15, 2) := by decide +kernel
theorem dX8_say_122 : decode cX8_say 122 = .ok (.if_icmp .le 5, 3) := by decide +kernel
theorem dX8_say_125 : decode cX8_say 125 = .ok (.iconst 0, 1) := by decide +kernel
theorem dX8_say_126 : decode cX8_say 126 = .ok (.ireturn, 1) := by decide +kernel
theorem dX8_say_127 : decode cX8_say 127 = .ok (.aload_n 0, 1) := by decide +kernel
theorem dX8_say_128 : decode cX8_say 128 = .ok (.getfield 11, 3) := by decide +kernel
theorem dX8_say_131 : decode cX8_say 131 = .ok (.iload 4, 2) := by decide +kernel
theorem dX8_say_133 : decode cX8_say 133 = .ok (.new 9, 3) := by decide +kernel
theorem dX8_say_136 : decode cX8_say 136 = .ok (.dup, 1) := by decide +kernel
theorem dX8_say_137 : decode cX8_say 137 = .ok (.iload_n 1, 1) := by decide +kernel
theorem dX8_say_138 : decode cX8_say 138 = .ok (.iload_n 1, 1) := by decide +kernel
theorem dX8_say_139 : decode cX8_say 139 = .ok (.invokestatic 58, 3) := by decide +kernel
theorem dX8_say_142 : decode cX8_say 142 = .ok (.ifCond .eq 7, 3) := by decide +kernel
theorem dX8_say_145 : decode cX8_say 145 = .ok (.iload_n 2, 1) := by decide +kernel
theorem dX8_say_146 : decode cX8_say 146 = .ok (.goto 4, 3) := by decide +kernel
theorem dX8_say_149 : decode cX8_say 149 = .ok (.iconst 0, 1) := by decide +kernel
theorem dX8_say_150 : decode cX8_say 150 = .ok (.aload 5, 2) := by decide +kernel
theorem dX8_say_152 : decode cX8_say 152 = .ok (.aload 6, 2) := by decide +kernel
theorem dX8_say_154 : decode cX8_say 154 = .ok (.invokespecial 61, 3) := by decide +kernel
theorem dX8_say_157 : decode cX8_say 157 = .ok (.aastore, 1) := by decide +kernel
theorem dX8_say_158 : decode cX8_say 158 = .ok (.aload_n 0, 1) := by decide +kernel
theorem dX8_say_159 : decode cX8_say 159 = .ok (.iload 4, 2) := by decide +kernel
theorem dX8_say_161 : decode cX8_say 161 = .ok (.iconst 1, 1) := by decide +kernel
theorem dX8_say_162 : decode cX8_say 162 = .ok (.iadd, 1) := by decide +kernel
theorem dX8_say_163 : decode cX8_say 163 = .ok (.putfield 47, 3) := by decide +kernel
theorem dX8_say_166 : decode cX8_say 166 = .ok (.iconst 1, 1) := by decide +kernel
theorem dX8_say_167 : decode cX8_say 167 = .ok (.ireturn, 1) := by decide +kernel
theorem dX8_index_0 : decode cX8_index 0 = .ok (.aload_n 0, 1) := by decide +kernel
theorem dX8_index_1 : decode cX8_index 1 = .ok (.invokevirtual 64, 3) := by decide +kernel
theorem dX8_index_4 : decode cX8_index 4 = .ok (.astore_n 1, 1) := by decide +kernel
theorem dX8_index_5 : decode cX8_index 5 = .ok (.aload_n 1, 1) := by decide +kernel
theorem dX8_index_6 : decode cX8_index 6 = .ok (.ifnull 25, 3) := by decide +kernel
theorem dX8_index_9 : decode cX8_index 9 = .ok (.aload_n 1, 1) := by decide +kernel
theorem dX8_index_10 : decode cX8_index 10 = .ok (.invokevirtual 68, 3) := by decide +kernel
theorem dX8_index_13 : decode cX8_index 13 = .ok (.ifCond .ne 18, 3) := by decide +kernel
theorem dX8_index_16 : decode cX8_index 16 = .ok (.aload_n 0, 1) := by decide +kernel
theorem dX8_index_17 : decode cX8_index 17 = .ok (.getfield 72, 3) := by decide +kernel
theorem dX8_index_20 : decode cX8_index 20 = .ok (.iconst 3, 1) := by decide +kernel
theorem dX8_index_21 : decode cX8_index 21 = .ok (.if_icmp .ge 10, 3) := by decide +kernel
theorem dX8_index_24 : decode cX8_index 24 = .ok (.aload_n 0, 1) := by decide +kernel
theorem dX8_index_25 : decode cX8_index 25 = .ok (.getfield 75, 3) := by decide +kernel
theorem dX8_index_28 : decode cX8_index 28 = .ok (.ifCond .le 5, 3) := by decide +kernel
theorem dX8_index_31 : decode cX8_index 31 = .ok (.iconst (-1), 1) := by decide +kernel
theorem dX8_index_32 : decode cX8_index 32 = .ok (.ireturn, 1) := by decide +kernel
theorem dX8_index_33 : decode cX8_index 33 = .ok (.aload_n 0, 1) := by decide +kernel
theorem dX8_index_34 : decode cX8_index 34 = .ok (.dup, 1) := by decide +kernel
theorem dX8_index_35 : decode cX8_index 35 = .ok (.getfield 47, 3) := by decide +kernel
theorem dX8_index_38 : decode cX8_index 38 = .ok (.iconst 1, 1) := by decide +kernel
theorem dX8_index_39 : decode cX8_index 39 = .ok (.isub, 1) := by decide +kernel
theorem dX8_index_40 : decode cX8_index 40 = .ok (.putfield 47, 3) := by decide +kernel
theorem dX8_index_43 : decode cX8_index 43 = .ok (.aload_n 0, 1) := by decide +kernel
theorem dX8_index_44 : decode cX8_index 44 = .ok (.getfield 15, 3) := by decide +kernel
theorem dX8_index_47 : decode cX8_index 47 = .ok (.aload_n 0, 1) := by decide +kernel
theorem dX8_index_48 : decode cX8_index 48 = .ok (.getfield 72, 3) := by decide +kernel
theorem dX8_index_51 : decode cX8_index 51 = .ok (.aload_n 1, 1) := by decide +kernel
theorem dX8_index_52 : decode cX8_index 52 = .ok (.aastore, 1) := by decide +kernel
theorem dX8_index_53 : decode cX8_index 53 = .ok (.aload_n 0, 1) := by decide +kernel
theorem dX8_index_54 : decode cX8_index 54 = .ok (.dup, 1) := by decide +kernel
theorem dX8_index_55 : decode cX8_index 55 = .ok (.getfield 72, 3) := by decide +kernel
theorem dX8_index_58 : decode cX8_index 58 = .ok (.iconst 1, 1) := by decide +kernel
theorem dX8_index_59 : decode cX8_index 59 = .ok (.iadd, 1) := by decide +kernel
theorem dX8_index_60 : decode cX8_index 60 = .ok (.putfield 72, 3) := by decide +kernel
theorem dX8_index_63 : decode cX8_index 63 = .ok (.aload_n 0, 1) := by decide +kernel
theorem dX8_index_64 : decode cX8_index 64 = .ok (.getfield 72, 3) := by decide +kernel
theorem dX8_index_67 : decode cX8_index 67 = .ok (.iconst 1, 1) := by decide +kernel
theorem dX8_index_68 : decode cX8_index 68 = .ok (.isub, 1) := by decide +kernel
theorem dX8_index_69 : decode cX8_index 69 = .ok (.ireturn, 1) := by decide +kernel
theorem dX8_begin_0 : decode cX8_begin 0 = .ok (.aload_n 0, 1) := by decide +kernel
theorem dX8_begin_1 : decode cX8_begin 1 = .ok (.getfield 78, 3) := by decide +kernel
theorem dX8_begin_4 : decode cX8_begin 4 = .ok (.bipush 60, 2) := by decide +kernel
theorem dX8_begin_6 : decode cX8_begin 6 = .ok (.if_icmp .ge 11, 3) := by decide +kernel
theorem dX8_begin_9 : decode cX8_begin 9 = .ok (.aload_n 0, 1) := by decide +kernel
theorem dX8_begin_10 : decode cX8_begin 10 = .ok (.invokevirtual 81, 3) := by decide +kernel
theorem dX8_begin_13 : decode cX8_begin 13 = .ok (.iconst 5, 1) := by decide +kernel
theorem dX8_begin_14 : decode cX8_begin 14 = .ok (.if_icmp .lt 5, 3) := by decide +kernel
theorem dX8_begin_17 : decode cX8_begin 17 = .ok (.iconst (-1), 1) := by decide +kernel
theorem dX8_begin_18 : decode cX8_begin 18 = .ok (.ireturn, 1) := by decide +kernel
theorem dX8_begin_19 : decode cX8_begin 19 = .ok (.aload_n 0, 1) := by decide +kernel
theorem dX8_begin_20 : decode cX8_begin 20 = .ok (.getfield 20, 3) := by decide +kernel
theorem dX8_begin_23 : decode cX8_begin 23 = .ok (.aload_n 0, 1) := by decide +kernel
theorem dX8_begin_24 : decode cX8_begin 24 = .ok (.getfield 78, 3) := by decide +kernel
theorem dX8_begin_27 : decode cX8_begin 27 = .ok (.new 18, 3) := by decide +kernel
theorem dX8_begin_30 : decode cX8_begin 30 = .ok (.dup, 1) := by decide +kernel
theorem dX8_begin_31 : decode cX8_begin 31 = .ok (.aload_n 0, 1) := by decide +kernel
theorem dX8_begin_32 : decode cX8_begin 32 = .ok (.getfield 75, 3) := by decide +kernel
theorem dX8_begin_35 : decode cX8_begin 35 = .ok (.invokespecial 85, 3) := by decide +kernel
theorem dX8_begin_38 : decode cX8_begin 38 = .ok (.aastore, 1) := by decide +kernel
theorem dX8_begin_39 : decode cX8_begin 39 = .ok (.aload_n 0, 1) := by decide +kernel
theorem dX8_begin_40 : decode cX8_begin 40 = .ok (.dup, 1) := by decide +kernel
theorem dX8_begin_41 : decode cX8_begin 41 = .ok (.getfield 78, 3) := by decide +kernel
theorem dX8_begin_44 : decode cX8_begin 44 = .ok (.iconst 1, 1) := by decide +kernel
theorem dX8_begin_45 : decode cX8_begin 45 = .ok (.iadd, 1) := by decide +kernel
theorem dX8_begin_46 : decode cX8_begin 46 = .ok (.putfield 78, 3) := by decide +kernel
theorem dX8_begin_49 : decode cX8_begin 49 = .ok (.aload_n 0, 1) := by decide +kernel
theorem dX8_begin_50 : decode cX8_begin 50 = .ok (.getfield 78, 3) := by decide +kernel
theorem dX8_begin_53 : decode cX8_begin 53 = .ok (.iconst 1, 1) := by decide +kernel
theorem dX8_begin_54 : decode cX8_begin 54 = .ok (.isub, 1) := by decide +kernel
theorem dX8_begin_55 : decode cX8_begin 55 = .ok (.ireturn, 1) := by decide +kernel
theorem dX8_read_0 : decode cX8_read 0 = .ok (.aload_n 0, 1) := by decide +kernel
theorem dX8_read_1 : decode cX8_read 1 = .ok (.iload_n 1, 1) := by decide +kernel
theorem dX8_read_2 : decode cX8_read 2 = .ok (.invokevirtual 88, 3) := by decide +kernel
theorem dX8_read_5 : decode cX8_read 5 = .ok (.astore 4, 2) := by decide +kernel
theorem dX8_read_7 : decode cX8_read 7 = .ok (.aload 4, 2) := by decide +kernel
theorem dX8_read_9 : decode cX8_read 9 = .ok (.ifnull 19, 3) := by decide +kernel
theorem dX8_read_12 : decode cX8_read 12 = .ok (.iload_n 2, 1) := by decide +kernel
theorem dX8_read_13 : decode cX8_read 13 = .ok (.invokestatic 92, 3) := by decide +kernel
theorem dX8_read_16 : decode cX8_read 16 = .ok (.ifCond .eq 12, 3) := by decide +kernel
theorem dX8_read_19 : decode cX8_read 19 = .ok (.iload_n 3, 1) := by decide +kernel
theorem dX8_read_20 : decode cX8_read 20 = .ok (.ifCond .lt 8, 3) := by decide +kernel
theorem dX8_read_23 : decode cX8_read 23 = .ok (.iload_n 3, 1) := by decide +kernel
theorem dX8_read_24 : decode cX8_read 24 = .ok (.iconst 3, 1) := by decide +kernel
theorem dX8_read_25 : decode cX8_read 25 = .ok (.if_icmp .le 5, 3) := by decide +kernel
theorem dX8_read_28 : decode cX8_read 28 = .ok (.iconst (-1), 1) := by decide +kernel
theorem dX8_read_29 : decode cX8_read 29 = .ok (.ireturn, 1) := by decide +kernel
theorem dX8_read_30 : decode cX8_read 30 = .ok (.aload_n 0, 1) := by decide +kernel
theorem dX8_read_31 : decode cX8_read 31 = .ok (.aload 4, 2) := by decide +kernel
theorem dX8_read_33 : decode cX8_read 33 = .ok (.iload_n 2, 1) := by decide +kernel
theorem dX8_read_34 : decode cX8_read 34 = .ok (.invokevirtual 95, 3) := by decide +kernel
theorem dX8_read_37 : decode cX8_read 37 = .ok (.astore 5, 2) := by decide +kernel
theorem dX8_read_39 : decode cX8_read 39 = .ok (.aload 5, 2) := by decide +kernel
theorem dX8_read_41 : decode cX8_read 41 = .ok (.ifnonnull 5, 3) := by decide +kernel
theorem dX8_read_44 : decode cX8_read 44 = .ok (.iconst 0, 1) := by decide +kernel
theorem dX8_read_45 : decode cX8_read 45 = .ok (.ireturn, 1) := by decide +kernel
theorem dX8_read_46 : decode cX8_read 46 = .ok (.iload_n 3, 1) := by decide +kernel
theorem dX8_read_47 : decode cX8_read 47 = .ok (.tableswitch 43 0 2 #[25, 31, 37], 25) := by decide +kernel
theorem dX8_read_72 : decode cX8_read 72 = .ok (.aload 5, 2) := by decide +kernel
theorem dX8_read_74 : decode cX8_read 74 = .ok (.getfield 99, 3) := by decide +kernel
theorem dX8_read_77 : decode cX8_read 77 = .ok (.ireturn, 1) := by decide +kernel
theorem dX8_read_78 : decode cX8_read 78 = .ok (.aload 5, 2) := by decide +kernel
theorem dX8_read_80 : decode cX8_read 80 = .ok (.getfield 104, 3) := by decide +kernel
theorem dX8_read_83 : decode cX8_read 83 = .ok (.ireturn, 1) := by decide +kernel
theorem dX8_read_84 : decode cX8_read 84 = .ok (.aload 5, 2) := by decide +kernel
theorem dX8_read_86 : decode cX8_read 86 = .ok (.getfield 107, 3) := by decide +kernel
theorem dX8_read_89 : decode cX8_read 89 = .ok (.ireturn, 1) := by decide +kernel
theorem dX8_read_90 : decode cX8_read 90 = .ok (.iconst 1, 1) := by decide +kernel
theorem dX8_read_91 : decode cX8_read 91 = .ok (.ireturn, 1) := by decide +kernel
theorem dX8_write_0 : decode cX8_write 0 = .ok (.aload_n 0, 1) := by decide +kernel
theorem dX8_write_1 : decode cX8_write 1 = .ok (.iload_n 1, 1) := by decide +kernel
theorem dX8_write_2 : decode cX8_write 2 = .ok (.invokevirtual 88, 3) := by decide +kernel
theorem dX8_write_5 : decode cX8_write 5 = .ok (.astore 6, 2) := by decide +kernel
theorem dX8_write_7 : decode cX8_write 7 = .ok (.aload 6, 2) := by decide +kernel
theorem dX8_write_9 : decode cX8_write 9 = .ok (.ifnull 29, 3) := by decide +kernel
theorem dX8_write_12 : decode cX8_write 12 = .ok (.iload_n 2, 1) := by decide +kernel
theorem dX8_write_13 : decode cX8_write 13 = .ok (.invokestatic 92, 3) := by decide +kernel
theorem dX8_write_16 : decode cX8_write 16 = .ok (.ifCond .eq 22, 3) := by decide +kernel
theorem dX8_write_19 : decode cX8_write 19 = .ok (.iload 4, 2) := by decide +kernel
theorem dX8_write_21 : decode cX8_write 21 = .ok (.ifCond .lt 17, 3) := by decide +kernel
theorem dX8_write_24 : decode cX8_write 24 = .ok (.iload 4, 2) := by decide +kernel
theorem dX8_write_26 : decode cX8_write 26 = .ok (.iconst 1, 1) := by decide +kernel
theorem dX8_write_27 : decode cX8_write 27 = .ok (.if_icmp .gt 11, 3) := by decide +kernel
theorem dX8_write_30 : decode cX8_write 30 = .ok (.iload 5, 2) := by decide +kernel
theorem dX8_write_32 : decode cX8_write 32 = .ok (.invokestatic 39, 3) := by decide +kernel
theorem dX8_write_35 : decode cX8_write 35 = .ok (.ifCond .ne 5, 3) := by decide +kernel
theorem dX8_write_38 : decode cX8_write 38 = .ok (.iconst 0, 1) := by decide +kernel
theorem dX8_write_39 : decode cX8_write 39 = .ok (.ireturn, 1) := by decide +kernel
theorem dX8_write_40 : decode cX8_write 40 = .ok (.aload 6, 2) := by decide +kernel
theorem dX8_write_42 : decode cX8_write 42 = .ok (.iload_n 2, 1) := by decide +kernel
theorem dX8_write_43 : decode cX8_write 43 = .ok (.new 100, 3) := by decide +kernel
theorem dX8_write_46 : decode cX8_write 46 = .ok (.dup, 1) := by decide +kernel
theorem dX8_write_47 : decode cX8_write 47 = .ok (.iload_n 3, 1) := by decide +kernel
theorem dX8_write_48 : decode cX8_write 48 = .ok (.iload 4, 2) := by decide +kernel
theorem dX8_write_50 : decode cX8_write 50 = .ok (.iload 5, 2) := by decide +kernel
theorem dX8_write_52 : decode cX8_write 52 = .ok (.invokespecial 110, 3) := by decide +kernel
theorem dX8_write_55 : decode cX8_write 55 = .ok (.invokevirtual 113, 3) := by decide +kernel
theorem dX8_write_58 : decode cX8_write 58 = .ok (.iconst 1, 1) := by decide +kernel
theorem dX8_write_59 : decode cX8_write 59 = .ok (.ireturn, 1) := by decide +kernel
theorem dX8_remove_0 : decode cX8_remove 0 = .ok (.aload_n 0, 1) := by decide +kernel
theorem dX8_remove_1 : decode cX8_remove 1 = .ok (.iload_n 1, 1) := by decide +kernel
theorem dX8_remove_2 : decode cX8_remove 2 = .ok (.invokevirtual 88, 3) := by decide +kernel
theorem dX8_remove_5 : decode cX8_remove 5 = .ok (.astore_n 3, 1) := by decide +kernel
theorem dX8_remove_6 : decode cX8_remove 6 = .ok (.aload_n 3, 1) := by decide +kernel
theorem dX8_remove_7 : decode cX8_remove 7 = .ok (.ifnull 10, 3) := by decide +kernel
theorem dX8_remove_10 : decode cX8_remove 10 = .ok (.iload_n 2, 1) := by decide +kernel
theorem dX8_remove_11 : decode cX8_remove 11 = .ok (.invokestatic 92, 3) := by decide +kernel
theorem dX8_remove_14 : decode cX8_remove 14 = .ok (.ifCond .ne 5, 3) := by decide +kernel
theorem dX8_remove_17 : decode cX8_remove 17 = .ok (.iconst 0, 1) := by decide +kernel
theorem dX8_remove_18 : decode cX8_remove 18 = .ok (.ireturn, 1) := by decide +kernel
theorem dX8_remove_19 : decode cX8_remove 19 = .ok (.aload_n 3, 1) := by decide +kernel
theorem dX8_remove_20 : decode cX8_remove 20 = .ok (.iload_n 2, 1) := by decide +kernel
theorem dX8_remove_21 : decode cX8_remove 21 = .ok (.aconst_null, 1) := by decide +kernel
theorem dX8_remove_22 : decode cX8_remove 22 = .ok (.invokevirtual 113, 3) := by decide +kernel
theorem dX8_remove_25 : decode cX8_remove 25 = .ok (.iconst 1, 1) := by decide +kernel
theorem dX8_remove_26 : decode cX8_remove 26 = .ok (.ireturn, 1) := by decide +kernel
theorem dX8_query_0 : decode cX8_query 0 = .ok (.aload_n 0, 1) := by decide +kernel
theorem dX8_query_1 : decode cX8_query 1 = .ok (.iload_n 1, 1) := by decide +kernel
theorem dX8_query_2 : decode cX8_query 2 = .ok (.invokevirtual 88, 3) := by decide +kernel
theorem dX8_query_5 : decode cX8_query 5 = .ok (.astore_n 2, 1) := by decide +kernel
theorem dX8_query_6 : decode cX8_query 6 = .ok (.aload_n 0, 1) := by decide +kernel
theorem dX8_query_7 : decode cX8_query 7 = .ok (.invokevirtual 64, 3) := by decide +kernel
theorem dX8_query_10 : decode cX8_query 10 = .ok (.astore_n 3, 1) := by decide +kernel
theorem dX8_query_11 : decode cX8_query 11 = .ok (.aload_n 2, 1) := by decide +kernel
theorem dX8_query_12 : decode cX8_query 12 = .ok (.ifnull 14, 3) := by decide +kernel
theorem dX8_query_15 : decode cX8_query 15 = .ok (.aload_n 3, 1) := by decide +kernel
theorem dX8_query_16 : decode cX8_query 16 = .ok (.ifnull 10, 3) := by decide +kernel
theorem dX8_query_19 : decode cX8_query 19 = .ok (.aload_n 3, 1) := by decide +kernel
theorem dX8_query_20 : decode cX8_query 20 = .ok (.invokevirtual 68, 3) := by decide +kernel
theorem dX8_query_23 : decode cX8_query 23 = .ok (.ifCond .ne 5, 3) := by decide +kernel
theorem dX8_query_26 : decode cX8_query 26 = .ok (.iconst (-1), 1) := by decide +kernel
theorem dX8_query_27 : decode cX8_query 27 = .ok (.ireturn, 1) := by decide +kernel
theorem dX8_query_28 : decode cX8_query 28 = .ok (.aload_n 0, 1) := by decide +kernel
theorem dX8_query_29 : decode cX8_query 29 = .ok (.dup, 1) := by decide +kernel
theorem dX8_query_30 : decode cX8_query 30 = .ok (.getfield 47, 3) := by decide +kernel
theorem dX8_query_33 : decode cX8_query 33 = .ok (.iconst 1, 1) := by decide +kernel
theorem dX8_query_34 : decode cX8_query 34 = .ok (.isub, 1) := by decide +kernel
theorem dX8_query_35 : decode cX8_query 35 = .ok (.putfield 47, 3) := by decide +kernel
theorem dX8_query_38 : decode cX8_query 38 = .ok (.aload_n 0, 1) := by decide +kernel
theorem dX8_query_39 : decode cX8_query 39 = .ok (.aload_n 3, 1) := by decide +kernel
theorem dX8_query_40 : decode cX8_query 40 = .ok (.invokevirtual 117, 3) := by decide +kernel
theorem dX8_query_43 : decode cX8_query 43 = .ok (.aload_n 0, 1) := by decide +kernel
theorem dX8_query_44 : decode cX8_query 44 = .ok (.aload_n 2, 1) := by decide +kernel
theorem dX8_query_45 : decode cX8_query 45 = .ok (.getfield 121, 3) := by decide +kernel
theorem dX8_query_48 : decode cX8_query 48 = .ok (.invokevirtual 124, 3) := by decide +kernel
theorem dX8_query_51 : decode cX8_query 51 = .ok (.aload_n 0, 1) := by decide +kernel
theorem dX8_query_52 : decode cX8_query 52 = .ok (.aload_n 3, 1) := by decide +kernel
theorem dX8_query_53 : decode cX8_query 53 = .ok (.aload_n 2, 1) := by decide +kernel
theorem dX8_query_54 : decode cX8_query 54 = .ok (.invokevirtual 127, 3) := by decide +kernel
theorem dX8_query_57 : decode cX8_query 57 = .ok (.aload_n 0, 1) := by decide +kernel
theorem dX8_query_58 : decode cX8_query 58 = .ok (.getfield 131, 3) := by decide +kernel
theorem dX8_query_61 : decode cX8_query 61 = .ok (.ireturn, 1) := by decide +kernel
theorem dX8_commit_0 : decode cX8_commit 0 = .ok (.aload_n 0, 1) := by decide +kernel
theorem dX8_commit_1 : decode cX8_commit 1 = .ok (.iload_n 1, 1) := by decide +kernel
theorem dX8_commit_2 : decode cX8_commit 2 = .ok (.invokevirtual 88, 3) := by decide +kernel
theorem dX8_commit_5 : decode cX8_commit 5 = .ok (.astore_n 2, 1) := by decide +kernel
theorem dX8_commit_6 : decode cX8_commit 6 = .ok (.aload_n 2, 1) := by decide +kernel
theorem dX8_commit_7 : decode cX8_commit 7 = .ok (.ifnonnull 5, 3) := by decide +kernel
theorem dX8_commit_10 : decode cX8_commit 10 = .ok (.iconst (-1), 1) := by decide +kernel
theorem dX8_commit_11 : decode cX8_commit 11 = .ok (.ireturn, 1) := by decide +kernel
theorem dX8_commit_12 : decode cX8_commit 12 = .ok (.aload_n 0, 1) := by decide +kernel
theorem dX8_commit_13 : decode cX8_commit 13 = .ok (.aload_n 2, 1) := by decide +kernel
theorem dX8_commit_14 : decode cX8_commit 14 = .ok (.invokevirtual 134, 3) := by decide +kernel
theorem dX8_commit_17 : decode cX8_commit 17 = .ok (.ifCond .eq 11, 3) := by decide +kernel
theorem dX8_commit_20 : decode cX8_commit 20 = .ok (.aload_n 2, 1) := by decide +kernel
theorem dX8_commit_21 : decode cX8_commit 21 = .ok (.iconst 3, 1) := by decide +kernel
theorem dX8_commit_22 : decode cX8_commit 22 = .ok (.putfield 138, 3) := by decide +kernel
theorem dX8_commit_25 : decode cX8_commit 25 = .ok (.bipush (-2), 2) := by decide +kernel
theorem dX8_commit_27 : decode cX8_commit 27 = .ok (.ireturn, 1) := by decide +kernel
theorem dX8_commit_28 : decode cX8_commit 28 = .ok (.aload_n 2, 1) := by decide +kernel
theorem dX8_commit_29 : decode cX8_commit 29 = .ok (.getfield 141, 3) := by decide +kernel
theorem dX8_commit_32 : decode cX8_commit 32 = .ok (.ifCond .ne 13, 3) := by decide +kernel
theorem dX8_commit_35 : decode cX8_commit 35 = .ok (.aload_n 2, 1) := by decide +kernel
theorem dX8_commit_36 : decode cX8_commit 36 = .ok (.iconst 2, 1) := by decide +kernel
theorem dX8_commit_37 : decode cX8_commit 37 = .ok (.putfield 138, 3) := by decide +kernel
theorem dX8_commit_40 : decode cX8_commit 40 = .ok (.aload_n 2, 1) := by decide +kernel
theorem dX8_commit_41 : decode cX8_commit 41 = .ok (.getfield 121, 3) := by decide +kernel
theorem dX8_commit_44 : decode cX8_commit 44 = .ok (.ireturn, 1) := by decide +kernel
theorem dX8_commit_45 : decode cX8_commit 45 = .ok (.aload_n 0, 1) := by decide +kernel
theorem dX8_commit_46 : decode cX8_commit 46 = .ok (.getfield 27, 3) := by decide +kernel
theorem dX8_commit_49 : decode cX8_commit 49 = .ok (.aload_n 0, 1) := by decide +kernel
theorem dX8_commit_50 : decode cX8_commit 50 = .ok (.aload_n 2, 1) := by decide +kernel
theorem dX8_commit_51 : decode cX8_commit 51 = .ok (.invokevirtual 145, 3) := by decide +kernel
theorem dX8_commit_54 : decode cX8_commit 54 = .ok (.invokevirtual 149, 3) := by decide +kernel
theorem dX8_commit_57 : decode cX8_commit 57 = .ok (.ifCond .ne 6, 3) := by decide +kernel
theorem dX8_commit_60 : decode cX8_commit 60 = .ok (.bipush (-3), 2) := by decide +kernel
theorem dX8_commit_62 : decode cX8_commit 62 = .ok (.ireturn, 1) := by decide +kernel
theorem dX8_commit_63 : decode cX8_commit 63 = .ok (.aload_n 0, 1) := by decide +kernel
theorem dX8_commit_64 : decode cX8_commit 64 = .ok (.aload_n 2, 1) := by decide +kernel
theorem dX8_commit_65 : decode cX8_commit 65 = .ok (.invokevirtual 152, 3) := by decide +kernel
theorem dX8_commit_68 : decode cX8_commit 68 = .ok (.aload_n 0, 1) := by decide +kernel
theorem dX8_commit_69 : decode cX8_commit 69 = .ok (.getfield 27, 3) := by decide +kernel
theorem dX8_commit_72 : decode cX8_commit 72 = .ok (.getfield 156, 3) := by decide +kernel
theorem dX8_commit_75 : decode cX8_commit 75 = .ok (.bipush 20, 2) := by decide +kernel
theorem dX8_commit_77 : decode cX8_commit 77 = .ok (.if_icmp .lt 7, 3) := by decide +kernel
theorem dX8_commit_80 : decode cX8_commit 80 = .ok (.aload_n 0, 1) := by decide +kernel
theorem dX8_commit_81 : decode cX8_commit 81 = .ok (.invokevirtual 159, 3) := by decide +kernel
theorem dX8_commit_84 : decode cX8_commit 84 = .ok (.aload_n 0, 1) := by decide +kernel
theorem dX8_commit_85 : decode cX8_commit 85 = .ok (.getfield 75, 3) := by decide +kernel
theorem dX8_commit_88 : decode cX8_commit 88 = .ok (.ireturn, 1) := by decide +kernel
theorem dX8_tear_0 : decode cX8_tear 0 = .ok (.aload_n 0, 1) := by decide +kernel
theorem dX8_tear_1 : decode cX8_tear 1 = .ok (.iload_n 1, 1) := by decide +kernel
theorem dX8_tear_2 : decode cX8_tear 2 = .ok (.invokevirtual 88, 3) := by decide +kernel
theorem dX8_tear_5 : decode cX8_tear 5 = .ok (.astore_n 3, 1) := by decide +kernel
theorem dX8_tear_6 : decode cX8_tear 6 = .ok (.aload_n 3, 1) := by decide +kernel
theorem dX8_tear_7 : decode cX8_tear 7 = .ok (.ifnull 22, 3) := by decide +kernel
theorem dX8_tear_10 : decode cX8_tear 10 = .ok (.iload_n 2, 1) := by decide +kernel
theorem dX8_tear_11 : decode cX8_tear 11 = .ok (.ifCond .lt 18, 3) := by decide +kernel
theorem dX8_tear_14 : decode cX8_tear 14 = .ok (.aload_n 3, 1) := by decide +kernel
theorem dX8_tear_15 : decode cX8_tear 15 = .ok (.getfield 141, 3) := by decide +kernel
theorem dX8_tear_18 : decode cX8_tear 18 = .ok (.ifCond .eq 11, 3) := by decide +kernel
theorem dX8_tear_21 : decode cX8_tear 21 = .ok (.aload_n 0, 1) := by decide +kernel
theorem dX8_tear_22 : decode cX8_tear 22 = .ok (.aload_n 3, 1) := by decide +kernel
theorem dX8_tear_23 : decode cX8_tear 23 = .ok (.invokevirtual 134, 3) := by decide +kernel
theorem dX8_tear_26 : decode cX8_tear 26 = .ok (.ifCond .eq 5, 3) := by decide +kernel
theorem dX8_tear_29 : decode cX8_tear 29 = .ok (.iconst (-1), 1) := by decide +kernel
theorem dX8_tear_30 : decode cX8_tear 30 = .ok (.ireturn, 1) := by decide +kernel
theorem dX8_tear_31 : decode cX8_tear 31 = .ok (.aload_n 0, 1) := by decide +kernel
theorem dX8_tear_32 : decode cX8_tear 32 = .ok (.aload_n 3, 1) := by decide +kernel
theorem dX8_tear_33 : decode cX8_tear 33 = .ok (.invokevirtual 145, 3) := by decide +kernel
theorem dX8_tear_36 : decode cX8_tear 36 = .ok (.istore 4, 2) := by decide +kernel
theorem dX8_tear_38 : decode cX8_tear 38 = .ok (.aload_n 0, 1) := by decide +kernel
theorem dX8_tear_39 : decode cX8_tear 39 = .ok (.getfield 27, 3) := by decide +kernel
theorem dX8_tear_42 : decode cX8_tear 42 = .ok (.iload 4, 2) := by decide +kernel
theorem dX8_tear_44 : decode cX8_tear 44 = .ok (.invokevirtual 149, 3) := by decide +kernel
theorem dX8_tear_47 : decode cX8_tear 47 = .ok (.ifCond .ne 5, 3) := by decide +kernel
theorem dX8_tear_50 : decode cX8_tear 50 = .ok (.iconst (-1), 1) := by decide +kernel
theorem dX8_tear_51 : decode cX8_tear 51 = .ok (.ireturn, 1) := by decide +kernel
theorem dX8_tear_52 : decode cX8_tear 52 = .ok (.iload_n 2, 1) := by decide +kernel
theorem dX8_tear_53 : decode cX8_tear 53 = .ok (.iload 4, 2) := by decide +kernel
theorem dX8_tear_55 : decode cX8_tear 55 = .ok (.if_icmp .le 7, 3) := by decide +kernel
theorem dX8_tear_58 : decode cX8_tear 58 = .ok (.iconst 1, 1) := by decide +kernel
theorem dX8_tear_59 : decode cX8_tear 59 = .ok (.goto 4, 3) := by decide +kernel
theorem dX8_tear_62 : decode cX8_tear 62 = .ok (.iconst 0, 1) := by decide +kernel
theorem dX8_tear_63 : decode cX8_tear 63 = .ok (.istore 5, 2) := by decide +kernel
theorem dX8_tear_65 : decode cX8_tear 65 = .ok (.iload 5, 2) := by decide +kernel
theorem dX8_tear_67 : decode cX8_tear 67 = .ok (.ifCond .eq 8, 3) := by decide +kernel
theorem dX8_tear_70 : decode cX8_tear 70 = .ok (.aload_n 0, 1) := by decide +kernel
theorem dX8_tear_71 : decode cX8_tear 71 = .ok (.aload_n 3, 1) := by decide +kernel
theorem dX8_tear_72 : decode cX8_tear 72 = .ok (.invokevirtual 152, 3) := by decide +kernel
theorem dX8_tear_75 : decode cX8_tear 75 = .ok (.aload_n 0, 1) := by decide +kernel
theorem dX8_tear_76 : decode cX8_tear 76 = .ok (.invokevirtual 162, 3) := by decide +kernel
theorem dX8_tear_79 : decode cX8_tear 79 = .ok (.pop, 1) := by decide +kernel
theorem dX8_tear_80 : decode cX8_tear 80 = .ok (.iload 5, 2) := by decide +kernel
theorem dX8_tear_82 : decode cX8_tear 82 = .ok (.ifCond .eq 7, 3) := by decide +kernel
theorem dX8_tear_85 : decode cX8_tear 85 = .ok (.iconst 1, 1) := by decide +kernel
theorem dX8_tear_86 : decode cX8_tear 86 = .ok (.goto 4, 3) := by decide +kernel
theorem dX8_tear_89 : decode cX8_tear 89 = .ok (.iconst 0, 1) := by decide +kernel
theorem dX8_tear_90 : decode cX8_tear 90 = .ok (.ireturn, 1) := by decide +kernel
theorem dX8_abort_0 : decode cX8_abort 0 = .ok (.aload_n 0, 1) := by decide +kernel
theorem dX8_abort_1 : decode cX8_abort 1 = .ok (.iload_n 1, 1) := by decide +kernel
theorem dX8_abort_2 : decode cX8_abort 2 = .ok (.invokevirtual 88, 3) := by decide +kernel
theorem dX8_abort_5 : decode cX8_abort 5 = .ok (.astore_n 2, 1) := by decide +kernel
theorem dX8_abort_6 : decode cX8_abort 6 = .ok (.aload_n 2, 1) := by decide +kernel
theorem dX8_abort_7 : decode cX8_abort 7 = .ok (.ifnonnull 5, 3) := by decide +kernel
theorem dX8_abort_10 : decode cX8_abort 10 = .ok (.iconst 0, 1) := by decide +kernel
theorem dX8_abort_11 : decode cX8_abort 11 = .ok (.ireturn, 1) := by decide +kernel
theorem dX8_abort_12 : decode cX8_abort 12 = .ok (.aload_n 2, 1) := by decide +kernel
theorem dX8_abort_13 : decode cX8_abort 13 = .ok (.iconst 4, 1) := by decide +kernel
theorem dX8_abort_14 : decode cX8_abort 14 = .ok (.putfield 138, 3) := by decide +kernel
theorem dX8_abort_17 : decode cX8_abort 17 = .ok (.iconst 1, 1) := by decide +kernel
theorem dX8_abort_18 : decode cX8_abort 18 = .ok (.ireturn, 1) := by decide +kernel
theorem dX8_flush_0 : decode cX8_flush 0 = .ok (.aload_n 0, 1) := by decide +kernel
theorem dX8_flush_1 : decode cX8_flush 1 = .ok (.getfield 27, 3) := by decide +kernel
theorem dX8_flush_4 : decode cX8_flush 4 = .ok (.invokevirtual 165, 3) := by decide +kernel
theorem dX8_flush_7 : decode cX8_flush 7 = .ok (.ireturn, 1) := by decide +kernel
theorem dX8_compact_0 : decode cX8_compact 0 = .ok (.aload_n 0, 1) := by decide +kernel
theorem dX8_compact_1 : decode cX8_compact 1 = .ok (.getfield 27, 3) := by decide +kernel
theorem dX8_compact_4 : decode cX8_compact 4 = .ok (.iconst 0, 1) := by decide +kernel
theorem dX8_compact_5 : decode cX8_compact 5 = .ok (.invokevirtual 168, 3) := by decide +kernel
theorem dX8_compact_8 : decode cX8_compact 8 = .ok (.ifCond .le 7, 3) := by decide +kernel
theorem dX8_compact_11 : decode cX8_compact 11 = .ok (.iconst 0, 1) := by decide +kernel
theorem dX8_compact_12 : decode cX8_compact 12 = .ok (.goto 4, 3) := by decide +kernel
theorem dX8_compact_15 : decode cX8_compact 15 = .ok (.iconst 1, 1) := by decide +kernel
theorem dX8_compact_16 : decode cX8_compact 16 = .ok (.istore_n 1, 1) := by decide +kernel
theorem dX8_compact_17 : decode cX8_compact 17 = .ok (.aload_n 0, 1) := by decide +kernel
theorem dX8_compact_18 : decode cX8_compact 18 = .ok (.getfield 27, 3) := by decide +kernel
theorem dX8_compact_21 : decode cX8_compact 21 = .ok (.iload_n 1, 1) := by decide +kernel
theorem dX8_compact_22 : decode cX8_compact 22 = .ok (.aload_n 0, 1) := by decide +kernel
theorem dX8_compact_23 : decode cX8_compact 23 = .ok (.invokevirtual 171, 3) := by decide +kernel
theorem dX8_compact_26 : decode cX8_compact 26 = .ok (.invokevirtual 174, 3) := by decide +kernel
theorem dX8_compact_29 : decode cX8_compact 29 = .ok (.ireturn, 1) := by decide +kernel
theorem dX8_crash_0 : decode cX8_crash 0 = .ok (.aload_n 0, 1) := by decide +kernel
theorem dX8_crash_1 : decode cX8_crash 1 = .ok (.invokevirtual 162, 3) := by decide +kernel
theorem dX8_crash_4 : decode cX8_crash 4 = .ok (.ireturn, 1) := by decide +kernel
theorem dX8_result_0 : decode cX8_result 0 = .ok (.iload_n 1, 1) := by decide +kernel
theorem dX8_result_1 : decode cX8_result 1 = .ok (.ifCond .lt 20, 3) := by decide +kernel
theorem dX8_result_4 : decode cX8_result 4 = .ok (.iload_n 1, 1) := by decide +kernel
theorem dX8_result_5 : decode cX8_result 5 = .ok (.aload_n 0, 1) := by decide +kernel
theorem dX8_result_6 : decode cX8_result 6 = .ok (.getfield 131, 3) := by decide +kernel
theorem dX8_result_9 : decode cX8_result 9 = .ok (.if_icmp .ge 12, 3) := by decide +kernel
theorem dX8_result_12 : decode cX8_result 12 = .ok (.aload_n 0, 1) := by decide +kernel
theorem dX8_result_13 : decode cX8_result 13 = .ok (.getfield 31, 3) := by decide +kernel
theorem dX8_result_16 : decode cX8_result 16 = .ok (.iload_n 1, 1) := by decide +kernel
theorem dX8_result_17 : decode cX8_result 17 = .ok (.iaload, 1) := by decide +kernel
theorem dX8_result_18 : decode cX8_result 18 = .ok (.goto 4, 3) := by decide +kernel
theorem dX8_result_21 : decode cX8_result 21 = .ok (.iconst (-1), 1) := by decide +kernel
theorem dX8_result_22 : decode cX8_result 22 = .ok (.ireturn, 1) := by decide +kernel
theorem dX8_plan_0 : decode cX8_plan 0 = .ok (.iload_n 1, 1) := by decide +kernel
theorem dX8_plan_1 : decode cX8_plan 1 = .ok (.tableswitch 81 0 3 #[31, 37, 43, 62], 31) := by decide +kernel
theorem dX8_plan_32 : decode cX8_plan 32 = .ok (.aload_n 0, 1) := by decide +kernel
theorem dX8_plan_33 : decode cX8_plan 33 = .ok (.getfield 35, 3) := by decide +kernel
theorem dX8_plan_36 : decode cX8_plan 36 = .ok (.i2l, 1) := by decide +kernel
theorem dX8_plan_37 : decode cX8_plan 37 = .ok (.lreturn, 1) := by decide +kernel
theorem dX8_plan_38 : decode cX8_plan 38 = .ok (.aload_n 0, 1) := by decide +kernel
theorem dX8_plan_39 : decode cX8_plan 39 = .ok (.getfield 178, 3) := by decide +kernel
theorem dX8_plan_42 : decode cX8_plan 42 = .ok (.i2l, 1) := by decide +kernel
theorem dX8_plan_43 : decode cX8_plan 43 = .ok (.lreturn, 1) := by decide +kernel
theorem dX8_plan_44 : decode cX8_plan 44 = .ok (.aload_n 0, 1) := by decide +kernel
theorem dX8_plan_45 : decode cX8_plan 45 = .ok (.getfield 181, 3) := by decide +kernel
theorem dX8_plan_48 : decode cX8_plan 48 = .ok (.ifnonnull 7, 3) := by decide +kernel
theorem dX8_plan_51 : decode cX8_plan 51 = .ok (.lconst 0, 1) := by decide +kernel
theorem dX8_plan_52 : decode cX8_plan 52 = .ok (.goto 10, 3) := by decide +kernel
theorem dX8_plan_55 : decode cX8_plan 55 = .ok (.aload_n 0, 1) := by decide +kernel
theorem dX8_plan_56 : decode cX8_plan 56 = .ok (.getfield 181, 3) := by decide +kernel
theorem dX8_plan_59 : decode cX8_plan 59 = .ok (.getfield 185, 3) := by decide +kernel
theorem dX8_plan_62 : decode cX8_plan 62 = .ok (.lreturn, 1) := by decide +kernel
theorem dX8_plan_63 : decode cX8_plan 63 = .ok (.aload_n 0, 1) := by decide +kernel
theorem dX8_plan_64 : decode cX8_plan 64 = .ok (.getfield 181, 3) := by decide +kernel
theorem dX8_plan_67 : decode cX8_plan 67 = .ok (.ifnonnull 7, 3) := by decide +kernel
theorem dX8_plan_70 : decode cX8_plan 70 = .ok (.lconst 0, 1) := by decide +kernel
theorem dX8_plan_71 : decode cX8_plan 71 = .ok (.goto 10, 3) := by decide +kernel
theorem dX8_plan_74 : decode cX8_plan 74 = .ok (.aload_n 0, 1) := by decide +kernel
theorem dX8_plan_75 : decode cX8_plan 75 = .ok (.getfield 181, 3) := by decide +kernel
theorem dX8_plan_78 : decode cX8_plan 78 = .ok (.getfield 191, 3) := by decide +kernel
theorem dX8_plan_81 : decode cX8_plan 81 = .ok (.lreturn, 1) := by decide +kernel
theorem dX8_plan_82 : decode cX8_plan 82 = .ok (.ldc2_w 194, 3) := by decide +kernel
theorem dX8_plan_85 : decode cX8_plan 85 = .ok (.lreturn, 1) := by decide +kernel
theorem dX8_state_0 : decode cX8_state 0 = .ok (.aload_n 0, 1) := by decide +kernel
theorem dX8_state_1 : decode cX8_state 1 = .ok (.iload_n 1, 1) := by decide +kernel
theorem dX8_state_2 : decode cX8_state 2 = .ok (.invokevirtual 196, 3) := by decide +kernel
theorem dX8_state_5 : decode cX8_state 5 = .ok (.astore_n 2, 1) := by decide +kernel
theorem dX8_state_6 : decode cX8_state 6 = .ok (.aload_n 2, 1) := by decide +kernel
theorem dX8_state_7 : decode cX8_state 7 = .ok (.ifnonnull 7, 3) := by decide +kernel
theorem dX8_state_10 : decode cX8_state 10 = .ok (.iconst (-1), 1) := by decide +kernel
theorem dX8_state_11 : decode cX8_state 11 = .ok (.goto 7, 3) := by decide +kernel
theorem dX8_state_14 : decode cX8_state 14 = .ok (.aload_n 2, 1) := by decide +kernel
theorem dX8_state_15 : decode cX8_state 15 = .ok (.getfield 138, 3) := by decide +kernel
theorem dX8_state_18 : decode cX8_state 18 = .ok (.ireturn, 1) := by decide +kernel
theorem dX8_about_0 : decode cX8_about 0 = .ok (.iload_n 1, 1) := by decide +kernel
theorem dX8_about_1 : decode cX8_about 1 = .ok (.tableswitch 92 0 6 #[43, 48, 53, 61, 77, 82, 87], 43) := by decide +kernel
theorem dX8_about_44 : decode cX8_about 44 = .ok (.aload_n 0, 1) := by decide +kernel
theorem dX8_about_45 : decode cX8_about 45 = .ok (.getfield 75, 3) := by decide +kernel
theorem dX8_about_48 : decode cX8_about 48 = .ok (.ireturn, 1) := by decide +kernel
theorem dX8_about_49 : decode cX8_about 49 = .ok (.aload_n 0, 1) := by decide +kernel
theorem dX8_about_50 : decode cX8_about 50 = .ok (.invokevirtual 171, 3) := by decide +kernel
theorem dX8_about_53 : decode cX8_about 53 = .ok (.ireturn, 1) := by decide +kernel
theorem dX8_about_54 : decode cX8_about 54 = .ok (.aload_n 0, 1) := by decide +kernel
theorem dX8_about_55 : decode cX8_about 55 = .ok (.getfield 27, 3) := by decide +kernel
theorem dX8_about_58 : decode cX8_about 58 = .ok (.getfield 156, 3) := by decide +kernel
theorem dX8_about_61 : decode cX8_about 61 = .ok (.ireturn, 1) := by decide +kernel
theorem dX8_about_62 : decode cX8_about 62 = .ok (.aload_n 0, 1) := by decide +kernel
theorem dX8_about_63 : decode cX8_about 63 = .ok (.getfield 27, 3) := by decide +kernel
theorem dX8_about_66 : decode cX8_about 66 = .ok (.getfield 199, 3) := by decide +kernel
theorem dX8_about_69 : decode cX8_about 69 = .ok (.aload_n 0, 1) := by decide +kernel
theorem dX8_about_70 : decode cX8_about 70 = .ok (.getfield 27, 3) := by decide +kernel
theorem dX8_about_73 : decode cX8_about 73 = .ok (.getfield 156, 3) := by decide +kernel
theorem dX8_about_76 : decode cX8_about 76 = .ok (.isub, 1) := by decide +kernel
theorem dX8_about_77 : decode cX8_about 77 = .ok (.ireturn, 1) := by decide +kernel
theorem dX8_about_78 : decode cX8_about 78 = .ok (.aload_n 0, 1) := by decide +kernel
theorem dX8_about_79 : decode cX8_about 79 = .ok (.getfield 47, 3) := by decide +kernel
theorem dX8_about_82 : decode cX8_about 82 = .ok (.ireturn, 1) := by decide +kernel
theorem dX8_about_83 : decode cX8_about 83 = .ok (.aload_n 0, 1) := by decide +kernel
theorem dX8_about_84 : decode cX8_about 84 = .ok (.invokevirtual 202, 3) := by decide +kernel
theorem dX8_about_87 : decode cX8_about 87 = .ok (.ireturn, 1) := by decide +kernel
theorem dX8_about_88 : decode cX8_about 88 = .ok (.aload_n 0, 1) := by decide +kernel
theorem dX8_about_89 : decode cX8_about 89 = .ok (.getfield 72, 3) := by decide +kernel
theorem dX8_about_92 : decode cX8_about 92 = .ok (.ireturn, 1) := by decide +kernel
theorem dX8_about_93 : decode cX8_about 93 = .ok (.iconst (-1), 1) := by decide +kernel
theorem dX8_about_94 : decode cX8_about 94 = .ok (.ireturn, 1) := by decide +kernel
theorem dX8_files_0 : decode cX8_files 0 = .ok (.iload_n 1, 1) := by decide +kernel
theorem dX8_files_1 : decode cX8_files 1 = .ok (.ifCond .lt 8, 3) := by decide +kernel
theorem dX8_files_4 : decode cX8_files 4 = .ok (.iload_n 1, 1) := by decide +kernel
theorem dX8_files_5 : decode cX8_files 5 = .ok (.iconst 2, 1) := by decide +kernel
theorem dX8_files_6 : decode cX8_files 6 = .ok (.if_icmp .le 7, 3) := by decide +kernel
theorem dX8_files_9 : decode cX8_files 9 = .ok (.iconst (-1), 1) := by decide +kernel
theorem dX8_files_10 : decode cX8_files 10 = .ok (.goto 11, 3) := by decide +kernel
theorem dX8_files_13 : decode cX8_files 13 = .ok (.aload_n 0, 1) := by decide +kernel
theorem dX8_files_14 : decode cX8_files 14 = .ok (.getfield 27, 3) := by decide +kernel
theorem dX8_files_17 : decode cX8_files 17 = .ok (.iload_n 1, 1) := by decide +kernel
theorem dX8_files_18 : decode cX8_files 18 = .ok (.invokevirtual 168, 3) := by decide +kernel
theorem dX8_files_21 : decode cX8_files 21 = .ok (.ireturn, 1) := by decide +kernel
theorem dX8_file_0 : decode cX8_file 0 = .ok (.aload_n 0, 1) := by decide +kernel
theorem dX8_file_1 : decode cX8_file 1 = .ok (.getfield 27, 3) := by decide +kernel
theorem dX8_file_4 : decode cX8_file 4 = .ok (.iload_n 1, 1) := by decide +kernel
theorem dX8_file_5 : decode cX8_file 5 = .ok (.iload_n 2, 1) := by decide +kernel
theorem dX8_file_6 : decode cX8_file 6 = .ok (.invokevirtual 205, 3) := by decide +kernel
theorem dX8_file_9 : decode cX8_file 9 = .ok (.astore 4, 2) := by decide +kernel
theorem dX8_file_11 : decode cX8_file 11 = .ok (.aload 4, 2) := by decide +kernel
theorem dX8_file_13 : decode cX8_file 13 = .ok (.ifnonnull 7, 3) := by decide +kernel
theorem dX8_file_16 : decode cX8_file 16 = .ok (.iconst (-1), 1) := by decide +kernel
theorem dX8_file_17 : decode cX8_file 17 = .ok (.goto 9, 3) := by decide +kernel
theorem dX8_file_20 : decode cX8_file 20 = .ok (.aload 4, 2) := by decide +kernel
theorem dX8_file_22 : decode cX8_file 22 = .ok (.iload_n 3, 1) := by decide +kernel
theorem dX8_file_23 : decode cX8_file 23 = .ok (.invokevirtual 209, 3) := by decide +kernel
theorem dX8_file_26 : decode cX8_file 26 = .ok (.ireturn, 1) := by decide +kernel
theorem dX8_isKey_0 : decode cX8_isKey 0 = .ok (.iload_n 0, 1) := by decide +kernel
theorem dX8_isKey_1 : decode cX8_isKey 1 = .ok (.ifCond .lt 13, 3) := by decide +kernel
theorem dX8_isKey_4 : decode cX8_isKey 4 = .ok (.iload_n 0, 1) := by decide +kernel
theorem dX8_isKey_5 : decode cX8_isKey 5 = .ok (.bipush 32, 2) := by decide +kernel
theorem dX8_isKey_7 : decode cX8_isKey 7 = .ok (.if_icmp .ge 7, 3) := by decide +kernel
theorem dX8_isKey_10 : decode cX8_isKey 10 = .ok (.iconst 1, 1) := by decide +kernel
theorem dX8_isKey_11 : decode cX8_isKey 11 = .ok (.goto 4, 3) := by decide +kernel
theorem dX8_isKey_14 : decode cX8_isKey 14 = .ok (.iconst 0, 1) := by decide +kernel
theorem dX8_isKey_15 : decode cX8_isKey 15 = .ok (.ireturn, 1) := by decide +kernel
theorem dX8_isName_0 : decode cX8_isName 0 = .ok (.iload_n 0, 1) := by decide +kernel
theorem dX8_isName_1 : decode cX8_isName 1 = .ok (.ifCond .lt 10, 3) := by decide +kernel
theorem dX8_isName_4 : decode cX8_isName 4 = .ok (.iload_n 0, 1) := by decide +kernel
theorem dX8_isName_5 : decode cX8_isName 5 = .ok (.sipush 19682, 3) := by decide +kernel
theorem dX8_isName_8 : decode cX8_isName 8 = .ok (.if_icmp .le 5, 3) := by decide +kernel
theorem dX8_isName_11 : decode cX8_isName 11 = .ok (.iconst 0, 1) := by decide +kernel
theorem dX8_isName_12 : decode cX8_isName 12 = .ok (.ireturn, 1) := by decide +kernel
theorem dX8_isName_13 : decode cX8_isName 13 = .ok (.iload_n 0, 1) := by decide +kernel
theorem dX8_isName_14 : decode cX8_isName 14 = .ok (.sipush 729, 3) := by decide +kernel
theorem dX8_isName_17 : decode cX8_isName 17 = .ok (.idiv, 1) := by decide +kernel
theorem dX8_isName_18 : decode cX8_isName 18 = .ok (.istore_n 1, 1) := by decide +kernel
theorem dX8_isName_19 : decode cX8_isName 19 = .ok (.iload_n 0, 1) := by decide +kernel
theorem dX8_isName_20 : decode cX8_isName 20 = .ok (.bipush 27, 2) := by decide +kernel
theorem dX8_isName_22 : decode cX8_isName 22 = .ok (.idiv, 1) := by decide +kernel
theorem dX8_isName_23 : decode cX8_isName 23 = .ok (.bipush 27, 2) := by decide +kernel
theorem dX8_isName_25 : decode cX8_isName 25 = .ok (.irem, 1) := by decide +kernel
theorem dX8_isName_26 : decode cX8_isName 26 = .ok (.istore_n 2, 1) := by decide +kernel
theorem dX8_isName_27 : decode cX8_isName 27 = .ok (.iload_n 0, 1) := by decide +kernel
theorem dX8_isName_28 : decode cX8_isName 28 = .ok (.bipush 27, 2) := by decide +kernel
theorem dX8_isName_30 : decode cX8_isName 30 = .ok (.irem, 1) := by decide +kernel
theorem dX8_isName_31 : decode cX8_isName 31 = .ok (.istore_n 3, 1) := by decide +kernel
theorem dX8_isName_32 : decode cX8_isName 32 = .ok (.iload_n 1, 1) := by decide +kernel
theorem dX8_isName_33 : decode cX8_isName 33 = .ok (.ifCond .ne 7, 3) := by decide +kernel
theorem dX8_isName_36 : decode cX8_isName 36 = .ok (.iload_n 2, 1) := by decide +kernel
theorem dX8_isName_37 : decode cX8_isName 37 = .ok (.ifCond .ne 15, 3) := by decide +kernel
theorem dX8_isName_40 : decode cX8_isName 40 = .ok (.iload_n 2, 1) := by decide +kernel
theorem dX8_isName_41 : decode cX8_isName 41 = .ok (.ifCond .ne 7, 3) := by decide +kernel
theorem dX8_isName_44 : decode cX8_isName 44 = .ok (.iload_n 3, 1) := by decide +kernel
theorem dX8_isName_45 : decode cX8_isName 45 = .ok (.ifCond .ne 7, 3) := by decide +kernel
theorem dX8_isName_48 : decode cX8_isName 48 = .ok (.iconst 1, 1) := by decide +kernel
theorem dX8_isName_49 : decode cX8_isName 49 = .ok (.goto 4, 3) := by decide +kernel
theorem dX8_isName_52 : decode cX8_isName 52 = .ok (.iconst 0, 1) := by decide +kernel
theorem dX8_isName_53 : decode cX8_isName 53 = .ok (.ireturn, 1) := by decide +kernel
theorem dX8_partsOf_0 : decode cX8_partsOf 0 = .ok (.iload_n 0, 1) := by decide +kernel
theorem dX8_partsOf_1 : decode cX8_partsOf 1 = .ok (.bipush 11, 2) := by decide +kernel
theorem dX8_partsOf_3 : decode cX8_partsOf 3 = .ok (.if_icmp .ne 5, 3) := by decide +kernel
theorem dX8_partsOf_6 : decode cX8_partsOf 6 = .ok (.iconst 1, 1) := by decide +kernel
theorem dX8_partsOf_7 : decode cX8_partsOf 7 = .ok (.ireturn, 1) := by decide +kernel
theorem dX8_partsOf_8 : decode cX8_partsOf 8 = .ok (.iload_n 0, 1) := by decide +kernel
theorem dX8_partsOf_9 : decode cX8_partsOf 9 = .ok (.iconst 4, 1) := by decide +kernel
theorem dX8_partsOf_10 : decode cX8_partsOf 10 = .ok (.if_icmp .lt 13, 3) := by decide +kernel
theorem dX8_partsOf_13 : decode cX8_partsOf 13 = .ok (.iload_n 0, 1) := by decide +kernel
theorem dX8_partsOf_14 : decode cX8_partsOf 14 = .ok (.bipush 10, 2) := by decide +kernel
theorem dX8_partsOf_16 : decode cX8_partsOf 16 = .ok (.if_icmp .gt 7, 3) := by decide +kernel
theorem dX8_partsOf_19 : decode cX8_partsOf 19 = .ok (.iconst 2, 1) := by decide +kernel
theorem dX8_partsOf_20 : decode cX8_partsOf 20 = .ok (.goto 4, 3) := by decide +kernel
theorem dX8_partsOf_23 : decode cX8_partsOf 23 = .ok (.iconst 0, 1) := by decide +kernel
theorem dX8_partsOf_24 : decode cX8_partsOf 24 = .ok (.ireturn, 1) := by decide +kernel
theorem dX8_countsN_0 : decode cX8_countsN 0 = .ok (.iload_n 0, 1) := by decide +kernel
theorem dX8_countsN_1 : decode cX8_countsN 1 = .ok (.iconst 3, 1) := by decide +kernel
theorem dX8_countsN_2 : decode cX8_countsN 2 = .ok (.if_icmp .eq 9, 3) := by decide +kernel
theorem dX8_countsN_5 : decode cX8_countsN 5 = .ok (.iload_n 0, 1) := by decide +kernel
theorem dX8_countsN_6 : decode cX8_countsN 6 = .ok (.bipush 12, 2) := by decide +kernel
theorem dX8_countsN_8 : decode cX8_countsN 8 = .ok (.if_icmp .ne 7, 3) := by decide +kernel
theorem dX8_countsN_11 : decode cX8_countsN 11 = .ok (.iconst 1, 1) := by decide +kernel
theorem dX8_countsN_12 : decode cX8_countsN 12 = .ok (.goto 4, 3) := by decide +kernel
theorem dX8_countsN_15 : decode cX8_countsN 15 = .ok (.iconst 0, 1) := by decide +kernel
theorem dX8_countsN_16 : decode cX8_countsN 16 = .ok (.ireturn, 1) := by decide +kernel
theorem dX8_takesBools_0 : decode cX8_takesBools 0 = .ok (.iload_n 0, 1) := by decide +kernel
theorem dX8_takesBools_1 : decode cX8_takesBools 1 = .ok (.bipush 9, 2) := by decide +kernel
theorem dX8_takesBools_3 : decode cX8_takesBools 3 = .ok (.if_icmp .eq 15, 3) := by decide +kernel
theorem dX8_takesBools_6 : decode cX8_takesBools 6 = .ok (.iload_n 0, 1) := by decide +kernel
theorem dX8_takesBools_7 : decode cX8_takesBools 7 = .ok (.bipush 10, 2) := by decide +kernel
theorem dX8_takesBools_9 : decode cX8_takesBools 9 = .ok (.if_icmp .eq 9, 3) := by decide +kernel
theorem dX8_takesBools_12 : decode cX8_takesBools 12 = .ok (.iload_n 0, 1) := by decide +kernel
theorem dX8_takesBools_13 : decode cX8_takesBools 13 = .ok (.bipush 11, 2) := by decide +kernel
theorem dX8_takesBools_15 : decode cX8_takesBools 15 = .ok (.if_icmp .ne 7, 3) := by decide +kernel
theorem dX8_takesBools_18 : decode cX8_takesBools 18 = .ok (.iconst 1, 1) := by decide +kernel
theorem dX8_takesBools_19 : decode cX8_takesBools 19 = .ok (.goto 4, 3) := by decide +kernel
theorem dX8_takesBools_22 : decode cX8_takesBools 22 = .ok (.iconst 0, 1) := by decide +kernel
theorem dX8_takesBools_23 : decode cX8_takesBools 23 = .ok (.ireturn, 1) := by decide +kernel
theorem dX8_fits_0 : decode cX8_fits 0 = .ok (.aload_n 1, 1) := by decide +kernel
theorem dX8_fits_1 : decode cX8_fits 1 = .ok (.ifnull 14, 3) := by decide +kernel
theorem dX8_fits_4 : decode cX8_fits 4 = .ok (.aload_n 1, 1) := by decide +kernel
theorem dX8_fits_5 : decode cX8_fits 5 = .ok (.invokevirtual 68, 3) := by decide +kernel
theorem dX8_fits_8 : decode cX8_fits 8 = .ok (.iload_n 0, 1) := by decide +kernel
theorem dX8_fits_9 : decode cX8_fits 9 = .ok (.invokestatic 214, 3) := by decide +kernel
theorem dX8_fits_12 : decode cX8_fits 12 = .ok (.if_icmp .ne 7, 3) := by decide +kernel
theorem dX8_fits_15 : decode cX8_fits 15 = .ok (.iconst 1, 1) := by decide +kernel
theorem dX8_fits_16 : decode cX8_fits 16 = .ok (.goto 4, 3) := by decide +kernel
theorem dX8_fits_19 : decode cX8_fits 19 = .ok (.iconst 0, 1) := by decide +kernel
theorem dX8_fits_20 : decode cX8_fits 20 = .ok (.ireturn, 1) := by decide +kernel
theorem dX8_topOfPile_0 : decode cX8_topOfPile 0 = .ok (.aload_n 0, 1) := by decide +kernel
theorem dX8_topOfPile_1 : decode cX8_topOfPile 1 = .ok (.getfield 47, 3) := by decide +kernel
theorem dX8_topOfPile_4 : decode cX8_topOfPile 4 = .ok (.ifCond .le 17, 3) := by decide +kernel
theorem dX8_topOfPile_7 : decode cX8_topOfPile 7 = .ok (.aload_n 0, 1) := by decide +kernel
theorem dX8_topOfPile_8 : decode cX8_topOfPile 8 = .ok (.getfield 11, 3) := by decide +kernel
theorem dX8_topOfPile_11 : decode cX8_topOfPile 11 = .ok (.aload_n 0, 1) := by decide +kernel
theorem dX8_topOfPile_12 : decode cX8_topOfPile 12 = .ok (.getfield 47, 3) := by decide +kernel
theorem dX8_topOfPile_15 : decode cX8_topOfPile 15 = .ok (.iconst 1, 1) := by decide +kernel
theorem dX8_topOfPile_16 : decode cX8_topOfPile 16 = .ok (.isub, 1) := by decide +kernel
theorem dX8_topOfPile_17 : decode cX8_topOfPile 17 = .ok (.aaload, 1) := by decide +kernel
theorem dX8_topOfPile_18 : decode cX8_topOfPile 18 = .ok (.goto 4, 3) := by decide +kernel
theorem dX8_topOfPile_21 : decode cX8_topOfPile 21 = .ok (.aconst_null, 1) := by decide +kernel
theorem dX8_topOfPile_22 : decode cX8_topOfPile 22 = .ok (.areturn, 1) := by decide +kernel
theorem dX8_typeOfTop_0 : decode cX8_typeOfTop 0 = .ok (.aload_n 0, 1) := by decide +kernel
theorem dX8_typeOfTop_1 : decode cX8_typeOfTop 1 = .ok (.invokevirtual 64, 3) := by decide +kernel
theorem dX8_typeOfTop_4 : decode cX8_typeOfTop 4 = .ok (.astore_n 1, 1) := by decide +kernel
theorem dX8_typeOfTop_5 : decode cX8_typeOfTop 5 = .ok (.aload_n 1, 1) := by decide +kernel
theorem dX8_typeOfTop_6 : decode cX8_typeOfTop 6 = .ok (.ifnonnull 5, 3) := by decide +kernel
theorem dX8_typeOfTop_9 : decode cX8_typeOfTop 9 = .ok (.iconst (-1), 1) := by decide +kernel
theorem dX8_typeOfTop_10 : decode cX8_typeOfTop 10 = .ok (.ireturn, 1) := by decide +kernel
theorem dX8_typeOfTop_11 : decode cX8_typeOfTop 11 = .ok (.aload_n 1, 1) := by decide +kernel
theorem dX8_typeOfTop_12 : decode cX8_typeOfTop 12 = .ok (.invokevirtual 68, 3) := by decide +kernel
theorem dX8_typeOfTop_15 : decode cX8_typeOfTop 15 = .ok (.ifCond .eq 7, 3) := by decide +kernel
theorem dX8_typeOfTop_18 : decode cX8_typeOfTop 18 = .ok (.iconst 1, 1) := by decide +kernel
theorem dX8_typeOfTop_19 : decode cX8_typeOfTop 19 = .ok (.goto 4, 3) := by decide +kernel
theorem dX8_typeOfTop_22 : decode cX8_typeOfTop 22 = .ok (.iconst 0, 1) := by decide +kernel
theorem dX8_typeOfTop_23 : decode cX8_typeOfTop 23 = .ok (.ireturn, 1) := by decide +kernel
theorem dX8_transactionOf_0 : decode cX8_transactionOf 0 = .ok (.iload_n 1, 1) := by decide +kernel
theorem dX8_transactionOf_1 : decode cX8_transactionOf 1 = .ok (.ifCond .lt 20, 3) := by decide +kernel
theorem dX8_transactionOf_4 : decode cX8_transactionOf 4 = .ok (.iload_n 1, 1) := by decide +kernel
theorem dX8_transactionOf_5 : decode cX8_transactionOf 5 = .ok (.aload_n 0, 1) := by decide +kernel
theorem dX8_transactionOf_6 : decode cX8_transactionOf 6 = .ok (.getfield 78, 3) := by decide +kernel
theorem dX8_transactionOf_9 : decode cX8_transactionOf 9 = .ok (.if_icmp .ge 12, 3) := by decide +kernel
theorem dX8_transactionOf_12 : decode cX8_transactionOf 12 = .ok (.aload_n 0, 1) := by decide +kernel
theorem dX8_transactionOf_13 : decode cX8_transactionOf 13 = .ok (.getfield 20, 3) := by decide +kernel
theorem dX8_transactionOf_16 : decode cX8_transactionOf 16 = .ok (.iload_n 1, 1) := by decide +kernel
theorem dX8_transactionOf_17 : decode cX8_transactionOf 17 = .ok (.aaload, 1) := by decide +kernel
theorem dX8_transactionOf_18 : decode cX8_transactionOf 18 = .ok (.goto 4, 3) := by decide +kernel
theorem dX8_transactionOf_21 : decode cX8_transactionOf 21 = .ok (.aconst_null, 1) := by decide +kernel
theorem dX8_transactionOf_22 : decode cX8_transactionOf 22 = .ok (.areturn, 1) := by decide +kernel
theorem dX8_openOne_0 : decode cX8_openOne 0 = .ok (.aload_n 0, 1) := by decide +kernel
theorem dX8_openOne_1 : decode cX8_openOne 1 = .ok (.iload_n 1, 1) := by decide +kernel
theorem dX8_openOne_2 : decode cX8_openOne 2 = .ok (.invokevirtual 196, 3) := by decide +kernel
theorem dX8_openOne_5 : decode cX8_openOne 5 = .ok (.astore_n 2, 1) := by decide +kernel
theorem dX8_openOne_6 : decode cX8_openOne 6 = .ok (.aload_n 2, 1) := by decide +kernel
theorem dX8_openOne_7 : decode cX8_openOne 7 = .ok (.ifnull 14, 3) := by decide +kernel
theorem dX8_openOne_10 : decode cX8_openOne 10 = .ok (.aload_n 2, 1) := by decide +kernel
theorem dX8_openOne_11 : decode cX8_openOne 11 = .ok (.invokevirtual 217, 3) := by decide +kernel
theorem dX8_openOne_14 : decode cX8_openOne 14 = .ok (.ifCond .eq 7, 3) := by decide +kernel
theorem dX8_openOne_17 : decode cX8_openOne 17 = .ok (.aload_n 2, 1) := by decide +kernel
theorem dX8_openOne_18 : decode cX8_openOne 18 = .ok (.goto 4, 3) := by decide +kernel
theorem dX8_openOne_21 : decode cX8_openOne 21 = .ok (.aconst_null, 1) := by decide +kernel
theorem dX8_openOne_22 : decode cX8_openOne 22 = .ok (.areturn, 1) := by decide +kernel
theorem dX8_countOpen_0 : decode cX8_countOpen 0 = .ok (.iconst 0, 1) := by decide +kernel
theorem dX8_countOpen_1 : decode cX8_countOpen 1 = .ok (.istore_n 1, 1) := by decide +kernel
theorem dX8_countOpen_2 : decode cX8_countOpen 2 = .ok (.iconst 0, 1) := by decide +kernel
theorem dX8_countOpen_3 : decode cX8_countOpen 3 = .ok (.istore_n 2, 1) := by decide +kernel
theorem dX8_countOpen_4 : decode cX8_countOpen 4 = .ok (.iload_n 2, 1) := by decide +kernel
theorem dX8_countOpen_5 : decode cX8_countOpen 5 = .ok (.aload_n 0, 1) := by decide +kernel
theorem dX8_countOpen_6 : decode cX8_countOpen 6 = .ok (.getfield 78, 3) := by decide +kernel
theorem dX8_countOpen_9 : decode cX8_countOpen 9 = .ok (.if_icmp .ge 24, 3) := by decide +kernel
theorem dX8_countOpen_12 : decode cX8_countOpen 12 = .ok (.aload_n 0, 1) := by decide +kernel
theorem dX8_countOpen_13 : decode cX8_countOpen 13 = .ok (.getfield 20, 3) := by decide +kernel
theorem dX8_countOpen_16 : decode cX8_countOpen 16 = .ok (.iload_n 2, 1) := by decide +kernel
theorem dX8_countOpen_17 : decode cX8_countOpen 17 = .ok (.aaload, 1) := by decide +kernel
theorem dX8_countOpen_18 : decode cX8_countOpen 18 = .ok (.invokevirtual 217, 3) := by decide +kernel
theorem dX8_countOpen_21 : decode cX8_countOpen 21 = .ok (.ifCond .eq 6, 3) := by decide +kernel
theorem dX8_countOpen_24 : decode cX8_countOpen 24 = .ok (.iinc 1 1, 3) := by decide +kernel
theorem dX8_countOpen_27 : decode cX8_countOpen 27 = .ok (.iinc 2 1, 3) := by decide +kernel
theorem dX8_countOpen_30 : decode cX8_countOpen 30 = .ok (.goto (-26), 3) := by decide +kernel
theorem dX8_countOpen_33 : decode cX8_countOpen 33 = .ok (.iload_n 1, 1) := by decide +kernel
theorem dX8_countOpen_34 : decode cX8_countOpen 34 = .ok (.ireturn, 1) := by decide +kernel
theorem dX8_loseOpenOnes_0 : decode cX8_loseOpenOnes 0 = .ok (.iconst 0, 1) := by decide +kernel
theorem dX8_loseOpenOnes_1 : decode cX8_loseOpenOnes 1 = .ok (.istore_n 1, 1) := by decide +kernel
theorem dX8_loseOpenOnes_2 : decode cX8_loseOpenOnes 2 = .ok (.iconst 0, 1) := by decide +kernel
theorem dX8_loseOpenOnes_3 : decode cX8_loseOpenOnes 3 = .ok (.istore_n 2, 1) := by decide +kernel
theorem dX8_loseOpenOnes_4 : decode cX8_loseOpenOnes 4 = .ok (.iload_n 2, 1) := by decide +kernel
theorem dX8_loseOpenOnes_5 : decode cX8_loseOpenOnes 5 = .ok (.aload_n 0, 1) := by decide +kernel
theorem dX8_loseOpenOnes_6 : decode cX8_loseOpenOnes 6 = .ok (.getfield 78, 3) := by decide +kernel
theorem dX8_loseOpenOnes_9 : decode cX8_loseOpenOnes 9 = .ok (.if_icmp .ge 34, 3) := by decide +kernel
theorem dX8_loseOpenOnes_12 : decode cX8_loseOpenOnes 12 = .ok (.aload_n 0, 1) := by decide +kernel
theorem dX8_loseOpenOnes_13 : decode cX8_loseOpenOnes 13 = .ok (.getfield 20, 3) := by decide +kernel
theorem dX8_loseOpenOnes_16 : decode cX8_loseOpenOnes 16 = .ok (.iload_n 2, 1) := by decide +kernel
theorem dX8_loseOpenOnes_17 : decode cX8_loseOpenOnes 17 = .ok (.aaload, 1) := by decide +kernel
theorem dX8_loseOpenOnes_18 : decode cX8_loseOpenOnes 18 = .ok (.invokevirtual 217, 3) := by decide +kernel
theorem dX8_loseOpenOnes_21 : decode cX8_loseOpenOnes 21 = .ok (.ifCond .eq 16, 3) := by decide +kernel
theorem dX8_loseOpenOnes_24 : decode cX8_loseOpenOnes 24 = .ok (.aload_n 0, 1) := by decide +kernel
theorem dX8_loseOpenOnes_25 : decode cX8_loseOpenOnes 25 = .ok (.getfield 20, 3) := by decide +kernel
theorem dX8_loseOpenOnes_28 : decode cX8_loseOpenOnes 28 = .ok (.iload_n 2, 1) := by decide +kernel
theorem dX8_loseOpenOnes_29 : decode cX8_loseOpenOnes 29 = .ok (.aaload, 1) := by decide +kernel
theorem dX8_loseOpenOnes_30 : decode cX8_loseOpenOnes 30 = .ok (.iconst 5, 1) := by decide +kernel
theorem dX8_loseOpenOnes_31 : decode cX8_loseOpenOnes 31 = .ok (.putfield 138, 3) := by decide +kernel
theorem dX8_loseOpenOnes_34 : decode cX8_loseOpenOnes 34 = .ok (.iinc 1 1, 3) := by decide +kernel
theorem dX8_loseOpenOnes_37 : decode cX8_loseOpenOnes 37 = .ok (.iinc 2 1, 3) := by decide +kernel
theorem dX8_loseOpenOnes_40 : decode cX8_loseOpenOnes 40 = .ok (.goto (-36), 3) := by decide +kernel
theorem dX8_loseOpenOnes_43 : decode cX8_loseOpenOnes 43 = .ok (.iload_n 1, 1) := by decide +kernel
theorem dX8_loseOpenOnes_44 : decode cX8_loseOpenOnes 44 = .ok (.ireturn, 1) := by decide +kernel
theorem dX8_horizon_0 : decode cX8_horizon 0 = .ok (.aload_n 0, 1) := by decide +kernel
theorem dX8_horizon_1 : decode cX8_horizon 1 = .ok (.getfield 75, 3) := by decide +kernel
theorem dX8_horizon_4 : decode cX8_horizon 4 = .ok (.istore_n 1, 1) := by decide +kernel
theorem dX8_horizon_5 : decode cX8_horizon 5 = .ok (.iconst 0, 1) := by decide +kernel
theorem dX8_horizon_6 : decode cX8_horizon 6 = .ok (.istore_n 2, 1) := by decide +kernel
theorem dX8_horizon_7 : decode cX8_horizon 7 = .ok (.iload_n 2, 1) := by decide +kernel
theorem dX8_horizon_8 : decode cX8_horizon 8 = .ok (.aload_n 0, 1) := by decide +kernel
theorem dX8_horizon_9 : decode cX8_horizon 9 = .ok (.getfield 78, 3) := by decide +kernel
theorem dX8_horizon_12 : decode cX8_horizon 12 = .ok (.if_icmp .ge 35, 3) := by decide +kernel
theorem dX8_horizon_15 : decode cX8_horizon 15 = .ok (.aload_n 0, 1) := by decide +kernel
theorem dX8_horizon_16 : decode cX8_horizon 16 = .ok (.getfield 20, 3) := by decide +kernel
theorem dX8_horizon_19 : decode cX8_horizon 19 = .ok (.iload_n 2, 1) := by decide +kernel
theorem dX8_horizon_20 : decode cX8_horizon 20 = .ok (.aaload, 1) := by decide +kernel
theorem dX8_horizon_21 : decode cX8_horizon 21 = .ok (.invokevirtual 217, 3) := by decide +kernel
theorem dX8_horizon_24 : decode cX8_horizon 24 = .ok (.ifCond .eq 17, 3) := by decide +kernel
theorem dX8_horizon_27 : decode cX8_horizon 27 = .ok (.iload_n 1, 1) := by decide +kernel
theorem dX8_horizon_28 : decode cX8_horizon 28 = .ok (.aload_n 0, 1) := by decide +kernel
theorem dX8_horizon_29 : decode cX8_horizon 29 = .ok (.getfield 20, 3) := by decide +kernel
theorem dX8_horizon_32 : decode cX8_horizon 32 = .ok (.iload_n 2, 1) := by decide +kernel
theorem dX8_horizon_33 : decode cX8_horizon 33 = .ok (.aaload, 1) := by decide +kernel
theorem dX8_horizon_34 : decode cX8_horizon 34 = .ok (.getfield 121, 3) := by decide +kernel
theorem dX8_horizon_37 : decode cX8_horizon 37 = .ok (.invokestatic 220, 3) := by decide +kernel
theorem dX8_horizon_40 : decode cX8_horizon 40 = .ok (.istore_n 1, 1) := by decide +kernel
theorem dX8_horizon_41 : decode cX8_horizon 41 = .ok (.iinc 2 1, 3) := by decide +kernel
theorem dX8_horizon_44 : decode cX8_horizon 44 = .ok (.goto (-37), 3) := by decide +kernel
theorem dX8_horizon_47 : decode cX8_horizon 47 = .ok (.iload_n 1, 1) := by decide +kernel
theorem dX8_horizon_48 : decode cX8_horizon 48 = .ok (.ireturn, 1) := by decide +kernel
theorem dX8_rowFor_0 : decode cX8_rowFor 0 = .ok (.aload_n 1, 1) := by decide +kernel
theorem dX8_rowFor_1 : decode cX8_rowFor 1 = .ok (.getfield 225, 3) := by decide +kernel
theorem dX8_rowFor_4 : decode cX8_rowFor 4 = .ok (.iload_n 2, 1) := by decide +kernel
theorem dX8_rowFor_5 : decode cX8_rowFor 5 = .ok (.baload, 1) := by decide +kernel
theorem dX8_rowFor_6 : decode cX8_rowFor 6 = .ok (.ifCond .eq 12, 3) := by decide +kernel
theorem dX8_rowFor_9 : decode cX8_rowFor 9 = .ok (.aload_n 1, 1) := by decide +kernel
theorem dX8_rowFor_10 : decode cX8_rowFor 10 = .ok (.getfield 229, 3) := by decide +kernel
theorem dX8_rowFor_13 : decode cX8_rowFor 13 = .ok (.iload_n 2, 1) := by decide +kernel
theorem dX8_rowFor_14 : decode cX8_rowFor 14 = .ok (.aaload, 1) := by decide +kernel
theorem dX8_rowFor_15 : decode cX8_rowFor 15 = .ok (.goto 15, 3) := by decide +kernel
theorem dX8_rowFor_18 : decode cX8_rowFor 18 = .ok (.aload_n 0, 1) := by decide +kernel
theorem dX8_rowFor_19 : decode cX8_rowFor 19 = .ok (.getfield 27, 3) := by decide +kernel
theorem dX8_rowFor_22 : decode cX8_rowFor 22 = .ok (.iload_n 2, 1) := by decide +kernel
theorem dX8_rowFor_23 : decode cX8_rowFor 23 = .ok (.aload_n 1, 1) := by decide +kernel
theorem dX8_rowFor_24 : decode cX8_rowFor 24 = .ok (.getfield 121, 3) := by decide +kernel
theorem dX8_rowFor_27 : decode cX8_rowFor 27 = .ok (.invokevirtual 233, 3) := by decide +kernel
theorem dX8_rowFor_30 : decode cX8_rowFor 30 = .ok (.areturn, 1) := by decide +kernel
theorem dX8_isTooLate_0 : decode cX8_isTooLate 0 = .ok (.iconst 0, 1) := by decide +kernel
theorem dX8_isTooLate_1 : decode cX8_isTooLate 1 = .ok (.istore_n 2, 1) := by decide +kernel
theorem dX8_isTooLate_2 : decode cX8_isTooLate 2 = .ok (.iload_n 2, 1) := by decide +kernel
theorem dX8_isTooLate_3 : decode cX8_isTooLate 3 = .ok (.bipush 32, 2) := by decide +kernel
theorem dX8_isTooLate_5 : decode cX8_isTooLate 5 = .ok (.if_icmp .ge 35, 3) := by decide +kernel
theorem dX8_isTooLate_8 : decode cX8_isTooLate 8 = .ok (.aload_n 1, 1) := by decide +kernel
theorem dX8_isTooLate_9 : decode cX8_isTooLate 9 = .ok (.getfield 225, 3) := by decide +kernel
theorem dX8_isTooLate_12 : decode cX8_isTooLate 12 = .ok (.iload_n 2, 1) := by decide +kernel
theorem dX8_isTooLate_13 : decode cX8_isTooLate 13 = .ok (.baload, 1) := by decide +kernel
theorem dX8_isTooLate_14 : decode cX8_isTooLate 14 = .ok (.ifCond .eq 20, 3) := by decide +kernel
theorem dX8_isTooLate_17 : decode cX8_isTooLate 17 = .ok (.aload_n 0, 1) := by decide +kernel
theorem dX8_isTooLate_18 : decode cX8_isTooLate 18 = .ok (.getfield 27, 3) := by decide +kernel
theorem dX8_isTooLate_21 : decode cX8_isTooLate 21 = .ok (.iload_n 2, 1) := by decide +kernel
theorem dX8_isTooLate_22 : decode cX8_isTooLate 22 = .ok (.invokevirtual 237, 3) := by decide +kernel
theorem dX8_isTooLate_25 : decode cX8_isTooLate 25 = .ok (.aload_n 1, 1) := by decide +kernel
theorem dX8_isTooLate_26 : decode cX8_isTooLate 26 = .ok (.getfield 121, 3) := by decide +kernel
theorem dX8_isTooLate_29 : decode cX8_isTooLate 29 = .ok (.if_icmp .le 5, 3) := by decide +kernel
theorem dX8_isTooLate_32 : decode cX8_isTooLate 32 = .ok (.iconst 1, 1) := by decide +kernel
theorem dX8_isTooLate_33 : decode cX8_isTooLate 33 = .ok (.ireturn, 1) := by decide +kernel
theorem dX8_isTooLate_34 : decode cX8_isTooLate 34 = .ok (.iinc 2 1, 3) := by decide +kernel
theorem dX8_isTooLate_37 : decode cX8_isTooLate 37 = .ok (.goto (-35), 3) := by decide +kernel
theorem dX8_isTooLate_40 : decode cX8_isTooLate 40 = .ok (.iconst 0, 1) := by decide +kernel
theorem dX8_isTooLate_41 : decode cX8_isTooLate 41 = .ok (.ireturn, 1) := by decide +kernel
theorem dX8_batchSize_0 : decode cX8_batchSize 0 = .ok (.iconst 0, 1) := by decide +kernel
theorem dX8_batchSize_1 : decode cX8_batchSize 1 = .ok (.istore_n 2, 1) := by decide +kernel
theorem dX8_batchSize_2 : decode cX8_batchSize 2 = .ok (.iconst 0, 1) := by decide +kernel
theorem dX8_batchSize_3 : decode cX8_batchSize 3 = .ok (.istore_n 3, 1) := by decide +kernel
theorem dX8_batchSize_4 : decode cX8_batchSize 4 = .ok (.iload_n 3, 1) := by decide +kernel
theorem dX8_batchSize_5 : decode cX8_batchSize 5 = .ok (.bipush 32, 2) := by decide +kernel
theorem dX8_batchSize_7 : decode cX8_batchSize 7 = .ok (.if_icmp .ge 45, 3) := by decide +kernel
theorem dX8_batchSize_10 : decode cX8_batchSize 10 = .ok (.aload_n 1, 1) := by decide +kernel
theorem dX8_batchSize_11 : decode cX8_batchSize 11 = .ok (.getfield 225, 3) := by decide +kernel
theorem dX8_batchSize_14 : decode cX8_batchSize 14 = .ok (.iload_n 3, 1) := by decide +kernel
theorem dX8_batchSize_15 : decode cX8_batchSize 15 = .ok (.baload, 1) := by decide +kernel
theorem dX8_batchSize_16 : decode cX8_batchSize 16 = .ok (.ifCond .eq 30, 3) := by decide +kernel
theorem dX8_batchSize_19 : decode cX8_batchSize 19 = .ok (.iload_n 2, 1) := by decide +kernel
theorem dX8_batchSize_20 : decode cX8_batchSize 20 = .ok (.iconst 1, 1) := by decide +kernel
theorem dX8_batchSize_21 : decode cX8_batchSize 21 = .ok (.aload_n 0, 1) := by decide +kernel
theorem dX8_batchSize_22 : decode cX8_batchSize 22 = .ok (.aload_n 0, 1) := by decide +kernel
theorem dX8_batchSize_23 : decode cX8_batchSize 23 = .ok (.getfield 27, 3) := by decide +kernel
theorem dX8_batchSize_26 : decode cX8_batchSize 26 = .ok (.iload_n 3, 1) := by decide +kernel
theorem dX8_batchSize_27 : decode cX8_batchSize 27 = .ok (.aload_n 0, 1) := by decide +kernel
theorem dX8_batchSize_28 : decode cX8_batchSize 28 = .ok (.getfield 75, 3) := by decide +kernel
theorem dX8_batchSize_31 : decode cX8_batchSize 31 = .ok (.invokevirtual 233, 3) := by decide +kernel
theorem dX8_batchSize_34 : decode cX8_batchSize 34 = .ok (.aload_n 1, 1) := by decide +kernel
theorem dX8_batchSize_35 : decode cX8_batchSize 35 = .ok (.getfield 229, 3) := by decide +kernel
theorem dX8_batchSize_38 : decode cX8_batchSize 38 = .ok (.iload_n 3, 1) := by decide +kernel
theorem dX8_batchSize_39 : decode cX8_batchSize 39 = .ok (.aaload, 1) := by decide +kernel
theorem dX8_batchSize_40 : decode cX8_batchSize 40 = .ok (.invokevirtual 240, 3) := by decide +kernel
theorem dX8_batchSize_43 : decode cX8_batchSize 43 = .ok (.iadd, 1) := by decide +kernel
theorem dX8_batchSize_44 : decode cX8_batchSize 44 = .ok (.iadd, 1) := by decide +kernel
theorem dX8_batchSize_45 : decode cX8_batchSize 45 = .ok (.istore_n 2, 1) := by decide +kernel
theorem dX8_batchSize_46 : decode cX8_batchSize 46 = .ok (.iinc 3 1, 3) := by decide +kernel
theorem dX8_batchSize_49 : decode cX8_batchSize 49 = .ok (.goto (-45), 3) := by decide +kernel
theorem dX8_batchSize_52 : decode cX8_batchSize 52 = .ok (.iload_n 2, 1) := by decide +kernel
theorem dX8_batchSize_53 : decode cX8_batchSize 53 = .ok (.ireturn, 1) := by decide +kernel
theorem dX8_countIndexEntries_0 : decode cX8_countIndexEntries 0 = .ok (.iconst 0, 1) := by decide +kernel
theorem dX8_countIndexEntries_1 : decode cX8_countIndexEntries 1 = .ok (.istore_n 3, 1) := by decide +kernel
theorem dX8_countIndexEntries_2 : decode cX8_countIndexEntries 2 = .ok (.iconst 0, 1) := by decide +kernel
theorem dX8_countIndexEntries_3 : decode cX8_countIndexEntries 3 = .ok (.istore 4, 2) := by decide +kernel
theorem dX8_countIndexEntries_5 : decode cX8_countIndexEntries 5 = .ok (.iload 4, 2) := by decide +kernel
theorem dX8_countIndexEntries_7 : decode cX8_countIndexEntries 7 = .ok (.aload_n 0, 1) := by decide +kernel
theorem dX8_countIndexEntries_8 : decode cX8_countIndexEntries 8 = .ok (.getfield 72, 3) := by decide +kernel
theorem dX8_countIndexEntries_11 : decode cX8_countIndexEntries 11 = .ok (.if_icmp .ge 47, 3) := by decide +kernel
theorem dX8_countIndexEntries_14 : decode cX8_countIndexEntries 14 = .ok (.iload_n 3, 1) := by decide +kernel
theorem dX8_countIndexEntries_15 : decode cX8_countIndexEntries 15 = .ok (.aload_n 0, 1) := by decide +kernel
theorem dX8_countIndexEntries_16 : decode cX8_countIndexEntries 16 = .ok (.iload 4, 2) := by decide +kernel
theorem dX8_countIndexEntries_18 : decode cX8_countIndexEntries 18 = .ok (.aload_n 1, 1) := by decide +kernel
theorem dX8_countIndexEntries_19 : decode cX8_countIndexEntries 19 = .ok (.aload_n 2, 1) := by decide +kernel
theorem dX8_countIndexEntries_20 : decode cX8_countIndexEntries 20 = .ok (.invokevirtual 244, 3) := by decide +kernel
theorem dX8_countIndexEntries_23 : decode cX8_countIndexEntries 23 = .ok (.ifCond .eq 7, 3) := by decide +kernel
theorem dX8_countIndexEntries_26 : decode cX8_countIndexEntries 26 = .ok (.iconst 1, 1) := by decide +kernel
theorem dX8_countIndexEntries_27 : decode cX8_countIndexEntries 27 = .ok (.goto 4, 3) := by decide +kernel
theorem dX8_countIndexEntries_30 : decode cX8_countIndexEntries 30 = .ok (.iconst 0, 1) := by decide +kernel
theorem dX8_countIndexEntries_31 : decode cX8_countIndexEntries 31 = .ok (.iadd, 1) := by decide +kernel
theorem dX8_countIndexEntries_32 : decode cX8_countIndexEntries 32 = .ok (.istore_n 3, 1) := by decide +kernel
theorem dX8_countIndexEntries_33 : decode cX8_countIndexEntries 33 = .ok (.iload_n 3, 1) := by decide +kernel
theorem dX8_countIndexEntries_34 : decode cX8_countIndexEntries 34 = .ok (.aload_n 0, 1) := by decide +kernel
theorem dX8_countIndexEntries_35 : decode cX8_countIndexEntries 35 = .ok (.iload 4, 2) := by decide +kernel
theorem dX8_countIndexEntries_37 : decode cX8_countIndexEntries 37 = .ok (.aload_n 2, 1) := by decide +kernel
theorem dX8_countIndexEntries_38 : decode cX8_countIndexEntries 38 = .ok (.aload_n 1, 1) := by decide +kernel
theorem dX8_countIndexEntries_39 : decode cX8_countIndexEntries 39 = .ok (.invokevirtual 244, 3) := by decide +kernel
theorem dX8_countIndexEntries_42 : decode cX8_countIndexEntries 42 = .ok (.ifCond .eq 7, 3) := by decide +kernel
theorem dX8_countIndexEntries_45 : decode cX8_countIndexEntries 45 = .ok (.iconst 1, 1) := by decide +kernel
theorem dX8_countIndexEntries_46 : decode cX8_countIndexEntries 46 = .ok (.goto 4, 3) := by decide +kernel
theorem dX8_countIndexEntries_49 : decode cX8_countIndexEntries 49 = .ok (.iconst 0, 1) := by decide +kernel
theorem dX8_countIndexEntries_50 : decode cX8_countIndexEntries 50 = .ok (.iadd, 1) := by decide +kernel
theorem dX8_countIndexEntries_51 : decode cX8_countIndexEntries 51 = .ok (.istore_n 3, 1) := by decide +kernel
theorem dX8_countIndexEntries_52 : decode cX8_countIndexEntries 52 = .ok (.iinc 4 1, 3) := by decide +kernel
theorem dX8_countIndexEntries_55 : decode cX8_countIndexEntries 55 = .ok (.goto (-50), 3) := by decide +kernel
theorem dX8_countIndexEntries_58 : decode cX8_countIndexEntries 58 = .ok (.iload_n 3, 1) := by decide +kernel
theorem dX8_countIndexEntries_59 : decode cX8_countIndexEntries 59 = .ok (.ireturn, 1) := by decide +kernel
theorem dX8_hasOwnValue_0 : decode cX8_hasOwnValue 0 = .ok (.aload_n 2, 1) := by decide +kernel
theorem dX8_hasOwnValue_1 : decode cX8_hasOwnValue 1 = .ok (.ifnull 26, 3) := by decide +kernel
theorem dX8_hasOwnValue_4 : decode cX8_hasOwnValue 4 = .ok (.aload_n 3, 1) := by decide +kernel
theorem dX8_hasOwnValue_5 : decode cX8_hasOwnValue 5 = .ok (.ifnull 18, 3) := by decide +kernel
theorem dX8_hasOwnValue_8 : decode cX8_hasOwnValue 8 = .ok (.aload_n 0, 1) := by decide +kernel
theorem dX8_hasOwnValue_9 : decode cX8_hasOwnValue 9 = .ok (.iload_n 1, 1) := by decide +kernel
theorem dX8_hasOwnValue_10 : decode cX8_hasOwnValue 10 = .ok (.aload_n 2, 1) := by decide +kernel
theorem dX8_hasOwnValue_11 : decode cX8_hasOwnValue 11 = .ok (.invokevirtual 248, 3) := by decide +kernel
theorem dX8_hasOwnValue_14 : decode cX8_hasOwnValue 14 = .ok (.aload_n 0, 1) := by decide +kernel
theorem dX8_hasOwnValue_15 : decode cX8_hasOwnValue 15 = .ok (.iload_n 1, 1) := by decide +kernel
theorem dX8_hasOwnValue_16 : decode cX8_hasOwnValue 16 = .ok (.aload_n 3, 1) := by decide +kernel
theorem dX8_hasOwnValue_17 : decode cX8_hasOwnValue 17 = .ok (.invokevirtual 248, 3) := by decide +kernel
theorem dX8_hasOwnValue_20 : decode cX8_hasOwnValue 20 = .ok (.if_icmp .eq 7, 3) := by decide +kernel
theorem dX8_hasOwnValue_23 : decode cX8_hasOwnValue 23 = .ok (.iconst 1, 1) := by decide +kernel
theorem dX8_hasOwnValue_24 : decode cX8_hasOwnValue 24 = .ok (.goto 4, 3) := by decide +kernel
theorem dX8_hasOwnValue_27 : decode cX8_hasOwnValue 27 = .ok (.iconst 0, 1) := by decide +kernel
theorem dX8_hasOwnValue_28 : decode cX8_hasOwnValue 28 = .ok (.ireturn, 1) := by decide +kernel
theorem dX8_valueIn_0 : decode cX8_valueIn 0 = .ok (.aload_n 0, 1) := by decide +kernel
theorem dX8_valueIn_1 : decode cX8_valueIn 1 = .ok (.getfield 15, 3) := by decide +kernel
theorem dX8_valueIn_4 : decode cX8_valueIn 4 = .ok (.iload_n 1, 1) := by decide +kernel
theorem dX8_valueIn_5 : decode cX8_valueIn 5 = .ok (.aaload, 1) := by decide +kernel
theorem dX8_valueIn_6 : decode cX8_valueIn 6 = .ok (.aload_n 2, 1) := by decide +kernel
theorem dX8_valueIn_7 : decode cX8_valueIn 7 = .ok (.invokestatic 252, 3) := by decide +kernel
theorem dX8_valueIn_10 : decode cX8_valueIn 10 = .ok (.ireturn, 1) := by decide +kernel
theorem dX8_takeBatch_0 : decode cX8_takeBatch 0 = .ok (.aload_n 0, 1) := by decide +kernel
theorem dX8_takeBatch_1 : decode cX8_takeBatch 1 = .ok (.getfield 75, 3) := by decide +kernel
theorem dX8_takeBatch_4 : decode cX8_takeBatch 4 = .ok (.iconst 1, 1) := by decide +kernel
theorem dX8_takeBatch_5 : decode cX8_takeBatch 5 = .ok (.iadd, 1) := by decide +kernel
theorem dX8_takeBatch_6 : decode cX8_takeBatch 6 = .ok (.istore_n 2, 1) := by decide +kernel
theorem dX8_takeBatch_7 : decode cX8_takeBatch 7 = .ok (.iconst 0, 1) := by decide +kernel
theorem dX8_takeBatch_8 : decode cX8_takeBatch 8 = .ok (.istore_n 3, 1) := by decide +kernel
theorem dX8_takeBatch_9 : decode cX8_takeBatch 9 = .ok (.iload_n 3, 1) := by decide +kernel
theorem dX8_takeBatch_10 : decode cX8_takeBatch 10 = .ok (.bipush 32, 2) := by decide +kernel
theorem dX8_takeBatch_12 : decode cX8_takeBatch 12 = .ok (.if_icmp .ge 70, 3) := by decide +kernel
theorem dX8_takeBatch_15 : decode cX8_takeBatch 15 = .ok (.aload_n 1, 1) := by decide +kernel
theorem dX8_takeBatch_16 : decode cX8_takeBatch 16 = .ok (.getfield 225, 3) := by decide +kernel
theorem dX8_takeBatch_19 : decode cX8_takeBatch 19 = .ok (.iload_n 3, 1) := by decide +kernel
theorem dX8_takeBatch_20 : decode cX8_takeBatch 20 = .ok (.baload, 1) := by decide +kernel
theorem dX8_takeBatch_21 : decode cX8_takeBatch 21 = .ok (.ifCond .eq 55, 3) := by decide +kernel
theorem dX8_takeBatch_24 : decode cX8_takeBatch 24 = .ok (.aload_n 0, 1) := by decide +kernel
theorem dX8_takeBatch_25 : decode cX8_takeBatch 25 = .ok (.getfield 27, 3) := by decide +kernel
theorem dX8_takeBatch_28 : decode cX8_takeBatch 28 = .ok (.iload_n 3, 1) := by decide +kernel
theorem dX8_takeBatch_29 : decode cX8_takeBatch 29 = .ok (.aload_n 0, 1) := by decide +kernel
theorem dX8_takeBatch_30 : decode cX8_takeBatch 30 = .ok (.getfield 75, 3) := by decide +kernel
theorem dX8_takeBatch_33 : decode cX8_takeBatch 33 = .ok (.invokevirtual 233, 3) := by decide +kernel
theorem dX8_takeBatch_36 : decode cX8_takeBatch 36 = .ok (.astore 4, 2) := by decide +kernel
theorem dX8_takeBatch_38 : decode cX8_takeBatch 38 = .ok (.aload_n 1, 1) := by decide +kernel
theorem dX8_takeBatch_39 : decode cX8_takeBatch 39 = .ok (.getfield 229, 3) := by decide +kernel
theorem dX8_takeBatch_42 : decode cX8_takeBatch 42 = .ok (.iload_n 3, 1) := by decide +kernel
theorem dX8_takeBatch_43 : decode cX8_takeBatch 43 = .ok (.aaload, 1) := by decide +kernel
theorem dX8_takeBatch_44 : decode cX8_takeBatch 44 = .ok (.astore 5, 2) := by decide +kernel
theorem dX8_takeBatch_46 : decode cX8_takeBatch 46 = .ok (.aload_n 0, 1) := by decide +kernel
theorem dX8_takeBatch_47 : decode cX8_takeBatch 47 = .ok (.getfield 27, 3) := by decide +kernel
theorem dX8_takeBatch_50 : decode cX8_takeBatch 50 = .ok (.new 256, 3) := by decide +kernel
theorem dX8_takeBatch_53 : decode cX8_takeBatch 53 = .ok (.dup, 1) := by decide +kernel
theorem dX8_takeBatch_54 : decode cX8_takeBatch 54 = .ok (.iconst 0, 1) := by decide +kernel
theorem dX8_takeBatch_55 : decode cX8_takeBatch 55 = .ok (.iconst 0, 1) := by decide +kernel
theorem dX8_takeBatch_56 : decode cX8_takeBatch 56 = .ok (.iload_n 3, 1) := by decide +kernel
theorem dX8_takeBatch_57 : decode cX8_takeBatch 57 = .ok (.iload_n 2, 1) := by decide +kernel
theorem dX8_takeBatch_58 : decode cX8_takeBatch 58 = .ok (.aload 5, 2) := by decide +kernel
theorem dX8_takeBatch_60 : decode cX8_takeBatch 60 = .ok (.invokespecial 258, 3) := by decide +kernel
theorem dX8_takeBatch_63 : decode cX8_takeBatch 63 = .ok (.invokevirtual 261, 3) := by decide +kernel
theorem dX8_takeBatch_66 : decode cX8_takeBatch 66 = .ok (.aload_n 0, 1) := by decide +kernel
theorem dX8_takeBatch_67 : decode cX8_takeBatch 67 = .ok (.iload_n 3, 1) := by decide +kernel
theorem dX8_takeBatch_68 : decode cX8_takeBatch 68 = .ok (.iload_n 2, 1) := by decide +kernel
theorem dX8_takeBatch_69 : decode cX8_takeBatch 69 = .ok (.aload 4, 2) := by decide +kernel
theorem dX8_takeBatch_71 : decode cX8_takeBatch 71 = .ok (.aload 5, 2) := by decide +kernel
theorem dX8_takeBatch_73 : decode cX8_takeBatch 73 = .ok (.invokevirtual 265, 3) := by decide +kernel
theorem dX8_takeBatch_76 : decode cX8_takeBatch 76 = .ok (.iinc 3 1, 3) := by decide +kernel
theorem dX8_takeBatch_79 : decode cX8_takeBatch 79 = .ok (.goto (-70), 3) := by decide +kernel
theorem dX8_takeBatch_82 : decode cX8_takeBatch 82 = .ok (.aload_n 0, 1) := by decide +kernel
theorem dX8_takeBatch_83 : decode cX8_takeBatch 83 = .ok (.iload_n 2, 1) := by decide +kernel
theorem dX8_takeBatch_84 : decode cX8_takeBatch 84 = .ok (.putfield 75, 3) := by decide +kernel
theorem dX8_takeBatch_87 : decode cX8_takeBatch 87 = .ok (.aload_n 1, 1) := by decide +kernel
theorem dX8_takeBatch_88 : decode cX8_takeBatch 88 = .ok (.iconst 2, 1) := by decide +kernel
theorem dX8_takeBatch_89 : decode cX8_takeBatch 89 = .ok (.putfield 138, 3) := by decide +kernel
theorem dX8_takeBatch_92 : decode cX8_takeBatch 92 = .ok (.return_, 1) := by decide +kernel
theorem dX8_addIndexEntries_0 : decode cX8_addIndexEntries 0 = .ok (.iconst 0, 1) := by decide +kernel
theorem dX8_addIndexEntries_1 : decode cX8_addIndexEntries 1 = .ok (.istore 5, 2) := by decide +kernel
theorem dX8_addIndexEntries_3 : decode cX8_addIndexEntries 3 = .ok (.iload 5, 2) := by decide +kernel
theorem dX8_addIndexEntries_5 : decode cX8_addIndexEntries 5 = .ok (.aload_n 0, 1) := by decide +kernel
theorem dX8_addIndexEntries_6 : decode cX8_addIndexEntries 6 = .ok (.getfield 72, 3) := by decide +kernel
theorem dX8_addIndexEntries_9 : decode cX8_addIndexEntries 9 = .ok (.if_icmp .ge 91, 3) := by decide +kernel
theorem dX8_addIndexEntries_12 : decode cX8_addIndexEntries 12 = .ok (.aload_n 0, 1) := by decide +kernel
theorem dX8_addIndexEntries_13 : decode cX8_addIndexEntries 13 = .ok (.iload 5, 2) := by decide +kernel
theorem dX8_addIndexEntries_15 : decode cX8_addIndexEntries 15 = .ok (.aload_n 3, 1) := by decide +kernel
theorem dX8_addIndexEntries_16 : decode cX8_addIndexEntries 16 = .ok (.aload 4, 2) := by decide +kernel
theorem dX8_addIndexEntries_18 : decode cX8_addIndexEntries 18 = .ok (.invokevirtual 244, 3) := by decide +kernel
theorem dX8_addIndexEntries_21 : decode cX8_addIndexEntries 21 = .ok (.ifCond .eq 31, 3) := by decide +kernel
theorem dX8_addIndexEntries_24 : decode cX8_addIndexEntries 24 = .ok (.aload_n 0, 1) := by decide +kernel
theorem dX8_addIndexEntries_25 : decode cX8_addIndexEntries 25 = .ok (.getfield 27, 3) := by decide +kernel
theorem dX8_addIndexEntries_28 : decode cX8_addIndexEntries 28 = .ok (.new 256, 3) := by decide +kernel
theorem dX8_addIndexEntries_31 : decode cX8_addIndexEntries 31 = .ok (.dup, 1) := by decide +kernel
theorem dX8_addIndexEntries_32 : decode cX8_addIndexEntries 32 = .ok (.iload 5, 2) := by decide +kernel
theorem dX8_addIndexEntries_34 : decode cX8_addIndexEntries 34 = .ok (.iconst 1, 1) := by decide +kernel
theorem dX8_addIndexEntries_35 : decode cX8_addIndexEntries 35 = .ok (.iadd, 1) := by decide +kernel
theorem dX8_addIndexEntries_36 : decode cX8_addIndexEntries 36 = .ok (.aload_n 0, 1) := by decide +kernel
theorem dX8_addIndexEntries_37 : decode cX8_addIndexEntries 37 = .ok (.iload 5, 2) := by decide +kernel
theorem dX8_addIndexEntries_39 : decode cX8_addIndexEntries 39 = .ok (.aload_n 3, 1) := by decide +kernel
theorem dX8_addIndexEntries_40 : decode cX8_addIndexEntries 40 = .ok (.invokevirtual 248, 3) := by decide +kernel
theorem dX8_addIndexEntries_43 : decode cX8_addIndexEntries 43 = .ok (.iload_n 1, 1) := by decide +kernel
theorem dX8_addIndexEntries_44 : decode cX8_addIndexEntries 44 = .ok (.iload_n 2, 1) := by decide +kernel
theorem dX8_addIndexEntries_45 : decode cX8_addIndexEntries 45 = .ok (.aconst_null, 1) := by decide +kernel
theorem dX8_addIndexEntries_46 : decode cX8_addIndexEntries 46 = .ok (.invokespecial 258, 3) := by decide +kernel
theorem dX8_addIndexEntries_49 : decode cX8_addIndexEntries 49 = .ok (.invokevirtual 261, 3) := by decide +kernel
theorem dX8_addIndexEntries_52 : decode cX8_addIndexEntries 52 = .ok (.aload_n 0, 1) := by decide +kernel
theorem dX8_addIndexEntries_53 : decode cX8_addIndexEntries 53 = .ok (.iload 5, 2) := by decide +kernel
theorem dX8_addIndexEntries_55 : decode cX8_addIndexEntries 55 = .ok (.aload 4, 2) := by decide +kernel
theorem dX8_addIndexEntries_57 : decode cX8_addIndexEntries 57 = .ok (.aload_n 3, 1) := by decide +kernel
theorem dX8_addIndexEntries_58 : decode cX8_addIndexEntries 58 = .ok (.invokevirtual 244, 3) := by decide +kernel
theorem dX8_addIndexEntries_61 : decode cX8_addIndexEntries 61 = .ok (.ifCond .eq 33, 3) := by decide +kernel
theorem dX8_addIndexEntries_64 : decode cX8_addIndexEntries 64 = .ok (.aload_n 0, 1) := by decide +kernel
theorem dX8_addIndexEntries_65 : decode cX8_addIndexEntries 65 = .ok (.getfield 27, 3) := by decide +kernel
theorem dX8_addIndexEntries_68 : decode cX8_addIndexEntries 68 = .ok (.new 256, 3) := by decide +kernel
theorem dX8_addIndexEntries_71 : decode cX8_addIndexEntries 71 = .ok (.dup, 1) := by decide +kernel
theorem dX8_addIndexEntries_72 : decode cX8_addIndexEntries 72 = .ok (.iload 5, 2) := by decide +kernel
theorem dX8_addIndexEntries_74 : decode cX8_addIndexEntries 74 = .ok (.iconst 1, 1) := by decide +kernel
theorem dX8_addIndexEntries_75 : decode cX8_addIndexEntries 75 = .ok (.iadd, 1) := by decide +kernel
theorem dX8_addIndexEntries_76 : decode cX8_addIndexEntries 76 = .ok (.aload_n 0, 1) := by decide +kernel
theorem dX8_addIndexEntries_77 : decode cX8_addIndexEntries 77 = .ok (.iload 5, 2) := by decide +kernel
theorem dX8_addIndexEntries_79 : decode cX8_addIndexEntries 79 = .ok (.aload 4, 2) := by decide +kernel
theorem dX8_addIndexEntries_81 : decode cX8_addIndexEntries 81 = .ok (.invokevirtual 248, 3) := by decide +kernel
theorem dX8_addIndexEntries_84 : decode cX8_addIndexEntries 84 = .ok (.iload_n 1, 1) := by decide +kernel
theorem dX8_addIndexEntries_85 : decode cX8_addIndexEntries 85 = .ok (.iload_n 2, 1) := by decide +kernel
theorem dX8_addIndexEntries_86 : decode cX8_addIndexEntries 86 = .ok (.aload 4, 2) := by decide +kernel
theorem dX8_addIndexEntries_88 : decode cX8_addIndexEntries 88 = .ok (.invokespecial 258, 3) := by decide +kernel
theorem dX8_addIndexEntries_91 : decode cX8_addIndexEntries 91 = .ok (.invokevirtual 261, 3) := by decide +kernel
theorem dX8_addIndexEntries_94 : decode cX8_addIndexEntries 94 = .ok (.iinc 5 1, 3) := by decide +kernel
theorem dX8_addIndexEntries_97 : decode cX8_addIndexEntries 97 = .ok (.goto (-94), 3) := by decide +kernel
theorem dX8_addIndexEntries_100 : decode cX8_addIndexEntries 100 = .ok (.return_, 1) := by decide +kernel
theorem dX8_flushAndMerge_0 : decode cX8_flushAndMerge 0 = .ok (.aload_n 0, 1) := by decide +kernel
theorem dX8_flushAndMerge_1 : decode cX8_flushAndMerge 1 = .ok (.getfield 27, 3) := by decide +kernel
theorem dX8_flushAndMerge_4 : decode cX8_flushAndMerge 4 = .ok (.invokevirtual 165, 3) := by decide +kernel
theorem dX8_flushAndMerge_7 : decode cX8_flushAndMerge 7 = .ok (.pop, 1) := by decide +kernel
theorem dX8_flushAndMerge_8 : decode cX8_flushAndMerge 8 = .ok (.aload_n 0, 1) := by decide +kernel
theorem dX8_flushAndMerge_9 : decode cX8_flushAndMerge 9 = .ok (.invokevirtual 171, 3) := by decide +kernel
theorem dX8_flushAndMerge_12 : decode cX8_flushAndMerge 12 = .ok (.istore_n 1, 1) := by decide +kernel
theorem dX8_flushAndMerge_13 : decode cX8_flushAndMerge 13 = .ok (.iconst 0, 1) := by decide +kernel
theorem dX8_flushAndMerge_14 : decode cX8_flushAndMerge 14 = .ok (.istore_n 2, 1) := by decide +kernel
theorem dX8_flushAndMerge_15 : decode cX8_flushAndMerge 15 = .ok (.iload_n 2, 1) := by decide +kernel
theorem dX8_flushAndMerge_16 : decode cX8_flushAndMerge 16 = .ok (.ldc_w 269, 3) := by decide +kernel
theorem dX8_flushAndMerge_19 : decode cX8_flushAndMerge 19 = .ok (.if_icmp .ge 33, 3) := by decide +kernel
theorem dX8_flushAndMerge_22 : decode cX8_flushAndMerge 22 = .ok (.aload_n 0, 1) := by decide +kernel
theorem dX8_flushAndMerge_23 : decode cX8_flushAndMerge 23 = .ok (.getfield 27, 3) := by decide +kernel
theorem dX8_flushAndMerge_26 : decode cX8_flushAndMerge 26 = .ok (.invokevirtual 270, 3) := by decide +kernel
theorem dX8_flushAndMerge_29 : decode cX8_flushAndMerge 29 = .ok (.istore_n 3, 1) := by decide +kernel
theorem dX8_flushAndMerge_30 : decode cX8_flushAndMerge 30 = .ok (.iload_n 3, 1) := by decide +kernel
theorem dX8_flushAndMerge_31 : decode cX8_flushAndMerge 31 = .ok (.iconst (-1), 1) := by decide +kernel
theorem dX8_flushAndMerge_32 : decode cX8_flushAndMerge 32 = .ok (.if_icmp .ne 4, 3) := by decide +kernel
theorem dX8_flushAndMerge_35 : decode cX8_flushAndMerge 35 = .ok (.return_, 1) := by decide +kernel
theorem dX8_flushAndMerge_36 : decode cX8_flushAndMerge 36 = .ok (.aload_n 0, 1) := by decide +kernel
theorem dX8_flushAndMerge_37 : decode cX8_flushAndMerge 37 = .ok (.getfield 27, 3) := by decide +kernel
theorem dX8_flushAndMerge_40 : decode cX8_flushAndMerge 40 = .ok (.iload_n 3, 1) := by decide +kernel
theorem dX8_flushAndMerge_41 : decode cX8_flushAndMerge 41 = .ok (.iload_n 1, 1) := by decide +kernel
theorem dX8_flushAndMerge_42 : decode cX8_flushAndMerge 42 = .ok (.invokevirtual 174, 3) := by decide +kernel
theorem dX8_flushAndMerge_45 : decode cX8_flushAndMerge 45 = .ok (.pop, 1) := by decide +kernel
theorem dX8_flushAndMerge_46 : decode cX8_flushAndMerge 46 = .ok (.iinc 2 1, 3) := by decide +kernel
theorem dX8_flushAndMerge_49 : decode cX8_flushAndMerge 49 = .ok (.goto (-34), 3) := by decide +kernel
theorem dX8_flushAndMerge_52 : decode cX8_flushAndMerge 52 = .ok (.return_, 1) := by decide +kernel
theorem dX8_choosePlan_0 : decode cX8_choosePlan 0 = .ok (.aload_n 0, 1) := by decide +kernel
theorem dX8_choosePlan_1 : decode cX8_choosePlan 1 = .ok (.iconst (-1), 1) := by decide +kernel
theorem dX8_choosePlan_2 : decode cX8_choosePlan 2 = .ok (.putfield 35, 3) := by decide +kernel
theorem dX8_choosePlan_5 : decode cX8_choosePlan 5 = .ok (.aload_n 0, 1) := by decide +kernel
theorem dX8_choosePlan_6 : decode cX8_choosePlan 6 = .ok (.aconst_null, 1) := by decide +kernel
theorem dX8_choosePlan_7 : decode cX8_choosePlan 7 = .ok (.putfield 181, 3) := by decide +kernel
theorem dX8_choosePlan_10 : decode cX8_choosePlan 10 = .ok (.iconst 0, 1) := by decide +kernel
theorem dX8_choosePlan_11 : decode cX8_choosePlan 11 = .ok (.istore_n 2, 1) := by decide +kernel
theorem dX8_choosePlan_12 : decode cX8_choosePlan 12 = .ok (.iload_n 2, 1) := by decide +kernel
theorem dX8_choosePlan_13 : decode cX8_choosePlan 13 = .ok (.aload_n 0, 1) := by decide +kernel
theorem dX8_choosePlan_14 : decode cX8_choosePlan 14 = .ok (.getfield 72, 3) := by decide +kernel
theorem dX8_choosePlan_17 : decode cX8_choosePlan 17 = .ok (.if_icmp .ge 67, 3) := by decide +kernel
theorem dX8_choosePlan_20 : decode cX8_choosePlan 20 = .ok (.new 186, 3) := by decide +kernel
theorem dX8_choosePlan_23 : decode cX8_choosePlan 23 = .ok (.dup, 1) := by decide +kernel
theorem dX8_choosePlan_24 : decode cX8_choosePlan 24 = .ok (.aload_n 0, 1) := by decide +kernel
theorem dX8_choosePlan_25 : decode cX8_choosePlan 25 = .ok (.getfield 15, 3) := by decide +kernel
theorem dX8_choosePlan_28 : decode cX8_choosePlan 28 = .ok (.iload_n 2, 1) := by decide +kernel
theorem dX8_choosePlan_29 : decode cX8_choosePlan 29 = .ok (.aaload, 1) := by decide +kernel
theorem dX8_choosePlan_30 : decode cX8_choosePlan 30 = .ok (.invokespecial 273, 3) := by decide +kernel
theorem dX8_choosePlan_33 : decode cX8_choosePlan 33 = .ok (.astore_n 3, 1) := by decide +kernel
theorem dX8_choosePlan_34 : decode cX8_choosePlan 34 = .ok (.aload_n 3, 1) := by decide +kernel
theorem dX8_choosePlan_35 : decode cX8_choosePlan 35 = .ok (.aload_n 1, 1) := by decide +kernel
theorem dX8_choosePlan_36 : decode cX8_choosePlan 36 = .ok (.invokevirtual 275, 3) := by decide +kernel
theorem dX8_choosePlan_39 : decode cX8_choosePlan 39 = .ok (.aload_n 3, 1) := by decide +kernel
theorem dX8_choosePlan_40 : decode cX8_choosePlan 40 = .ok (.getfield 278, 3) := by decide +kernel
theorem dX8_choosePlan_43 : decode cX8_choosePlan 43 = .ok (.ifCond .eq 35, 3) := by decide +kernel
theorem dX8_choosePlan_46 : decode cX8_choosePlan 46 = .ok (.aload_n 0, 1) := by decide +kernel
theorem dX8_choosePlan_47 : decode cX8_choosePlan 47 = .ok (.getfield 181, 3) := by decide +kernel
theorem dX8_choosePlan_50 : decode cX8_choosePlan 50 = .ok (.ifnull 18, 3) := by decide +kernel
theorem dX8_choosePlan_53 : decode cX8_choosePlan 53 = .ok (.aload_n 3, 1) := by decide +kernel
theorem dX8_choosePlan_54 : decode cX8_choosePlan 54 = .ok (.invokevirtual 281, 3) := by decide +kernel
theorem dX8_choosePlan_57 : decode cX8_choosePlan 57 = .ok (.aload_n 0, 1) := by decide +kernel
theorem dX8_choosePlan_58 : decode cX8_choosePlan 58 = .ok (.getfield 181, 3) := by decide +kernel
theorem dX8_choosePlan_61 : decode cX8_choosePlan 61 = .ok (.invokevirtual 281, 3) := by decide +kernel
theorem dX8_choosePlan_64 : decode cX8_choosePlan 64 = .ok (.lcmp, 1) := by decide +kernel
theorem dX8_choosePlan_65 : decode cX8_choosePlan 65 = .ok (.ifCond .ge 13, 3) := by decide +kernel
theorem dX8_choosePlan_68 : decode cX8_choosePlan 68 = .ok (.aload_n 0, 1) := by decide +kernel
theorem dX8_choosePlan_69 : decode cX8_choosePlan 69 = .ok (.iload_n 2, 1) := by decide +kernel
theorem dX8_choosePlan_70 : decode cX8_choosePlan 70 = .ok (.putfield 35, 3) := by decide +kernel
theorem dX8_choosePlan_73 : decode cX8_choosePlan 73 = .ok (.aload_n 0, 1) := by decide +kernel
theorem dX8_choosePlan_74 : decode cX8_choosePlan 74 = .ok (.aload_n 3, 1) := by decide +kernel
theorem dX8_choosePlan_75 : decode cX8_choosePlan 75 = .ok (.putfield 181, 3) := by decide +kernel
theorem dX8_choosePlan_78 : decode cX8_choosePlan 78 = .ok (.iinc 2 1, 3) := by decide +kernel
theorem dX8_choosePlan_81 : decode cX8_choosePlan 81 = .ok (.goto (-69), 3) := by decide +kernel
theorem dX8_choosePlan_84 : decode cX8_choosePlan 84 = .ok (.return_, 1) := by decide +kernel
theorem dX8_countCandidates_0 : decode cX8_countCandidates 0 = .ok (.aload_n 0, 1) := by decide +kernel
theorem dX8_countCandidates_1 : decode cX8_countCandidates 1 = .ok (.aload_n 0, 1) := by decide +kernel
theorem dX8_countCandidates_2 : decode cX8_countCandidates 2 = .ok (.getfield 181, 3) := by decide +kernel
theorem dX8_countCandidates_5 : decode cX8_countCandidates 5 = .ok (.ifnonnull 17, 3) := by decide +kernel
theorem dX8_countCandidates_8 : decode cX8_countCandidates 8 = .ok (.aload_n 0, 1) := by decide +kernel
theorem dX8_countCandidates_9 : decode cX8_countCandidates 9 = .ok (.getfield 27, 3) := by decide +kernel
theorem dX8_countCandidates_12 : decode cX8_countCandidates 12 = .ok (.iconst 0, 1) := by decide +kernel
theorem dX8_countCandidates_13 : decode cX8_countCandidates 13 = .ok (.lconst 0, 1) := by decide +kernel
theorem dX8_countCandidates_14 : decode cX8_countCandidates 14 = .ok (.lconst 0, 1) := by decide +kernel
theorem dX8_countCandidates_15 : decode cX8_countCandidates 15 = .ok (.iload_n 1, 1) := by decide +kernel
theorem dX8_countCandidates_16 : decode cX8_countCandidates 16 = .ok (.invokevirtual 285, 3) := by decide +kernel
theorem dX8_countCandidates_19 : decode cX8_countCandidates 19 = .ok (.goto 31, 3) := by decide +kernel
theorem dX8_countCandidates_22 : decode cX8_countCandidates 22 = .ok (.aload_n 0, 1) := by decide +kernel
theorem dX8_countCandidates_23 : decode cX8_countCandidates 23 = .ok (.getfield 27, 3) := by decide +kernel
theorem dX8_countCandidates_26 : decode cX8_countCandidates 26 = .ok (.aload_n 0, 1) := by decide +kernel
theorem dX8_countCandidates_27 : decode cX8_countCandidates 27 = .ok (.getfield 35, 3) := by decide +kernel
theorem dX8_countCandidates_30 : decode cX8_countCandidates 30 = .ok (.iconst 1, 1) := by decide +kernel
theorem dX8_countCandidates_31 : decode cX8_countCandidates 31 = .ok (.iadd, 1) := by decide +kernel
theorem dX8_countCandidates_32 : decode cX8_countCandidates 32 = .ok (.aload_n 0, 1) := by decide +kernel
theorem dX8_countCandidates_33 : decode cX8_countCandidates 33 = .ok (.getfield 181, 3) := by decide +kernel
theorem dX8_countCandidates_36 : decode cX8_countCandidates 36 = .ok (.getfield 185, 3) := by decide +kernel
theorem dX8_countCandidates_39 : decode cX8_countCandidates 39 = .ok (.aload_n 0, 1) := by decide +kernel
theorem dX8_countCandidates_40 : decode cX8_countCandidates 40 = .ok (.getfield 181, 3) := by decide +kernel
theorem dX8_countCandidates_43 : decode cX8_countCandidates 43 = .ok (.getfield 191, 3) := by decide +kernel
theorem dX8_countCandidates_46 : decode cX8_countCandidates 46 = .ok (.iload_n 1, 1) := by decide +kernel
theorem dX8_countCandidates_47 : decode cX8_countCandidates 47 = .ok (.invokevirtual 285, 3) := by decide +kernel
theorem dX8_countCandidates_50 : decode cX8_countCandidates 50 = .ok (.putfield 178, 3) := by decide +kernel
theorem dX8_countCandidates_53 : decode cX8_countCandidates 53 = .ok (.return_, 1) := by decide +kernel
theorem dX8_fillResult_0 : decode cX8_fillResult 0 = .ok (.aload_n 0, 1) := by decide +kernel
theorem dX8_fillResult_1 : decode cX8_fillResult 1 = .ok (.iconst 0, 1) := by decide +kernel
theorem dX8_fillResult_2 : decode cX8_fillResult 2 = .ok (.putfield 131, 3) := by decide +kernel
theorem dX8_fillResult_5 : decode cX8_fillResult 5 = .ok (.iconst 0, 1) := by decide +kernel
theorem dX8_fillResult_6 : decode cX8_fillResult 6 = .ok (.istore_n 3, 1) := by decide +kernel
theorem dX8_fillResult_7 : decode cX8_fillResult 7 = .ok (.iload_n 3, 1) := by decide +kernel
theorem dX8_fillResult_8 : decode cX8_fillResult 8 = .ok (.bipush 32, 2) := by decide +kernel
theorem dX8_fillResult_10 : decode cX8_fillResult 10 = .ok (.if_icmp .ge 51, 3) := by decide +kernel
theorem dX8_fillResult_13 : decode cX8_fillResult 13 = .ok (.aload_n 0, 1) := by decide +kernel
theorem dX8_fillResult_14 : decode cX8_fillResult 14 = .ok (.aload_n 2, 1) := by decide +kernel
theorem dX8_fillResult_15 : decode cX8_fillResult 15 = .ok (.iload_n 3, 1) := by decide +kernel
theorem dX8_fillResult_16 : decode cX8_fillResult 16 = .ok (.invokevirtual 95, 3) := by decide +kernel
theorem dX8_fillResult_19 : decode cX8_fillResult 19 = .ok (.astore 4, 2) := by decide +kernel
theorem dX8_fillResult_21 : decode cX8_fillResult 21 = .ok (.aload 4, 2) := by decide +kernel
theorem dX8_fillResult_23 : decode cX8_fillResult 23 = .ok (.ifnull 32, 3) := by decide +kernel
theorem dX8_fillResult_26 : decode cX8_fillResult 26 = .ok (.aload_n 1, 1) := by decide +kernel
theorem dX8_fillResult_27 : decode cX8_fillResult 27 = .ok (.aload 4, 2) := by decide +kernel
theorem dX8_fillResult_29 : decode cX8_fillResult 29 = .ok (.invokestatic 289, 3) := by decide +kernel
theorem dX8_fillResult_32 : decode cX8_fillResult 32 = .ok (.ifCond .eq 23, 3) := by decide +kernel
theorem dX8_fillResult_35 : decode cX8_fillResult 35 = .ok (.aload_n 0, 1) := by decide +kernel
theorem dX8_fillResult_36 : decode cX8_fillResult 36 = .ok (.getfield 31, 3) := by decide +kernel
theorem dX8_fillResult_39 : decode cX8_fillResult 39 = .ok (.aload_n 0, 1) := by decide +kernel
theorem dX8_fillResult_40 : decode cX8_fillResult 40 = .ok (.getfield 131, 3) := by decide +kernel
theorem dX8_fillResult_43 : decode cX8_fillResult 43 = .ok (.iload_n 3, 1) := by decide +kernel
theorem dX8_fillResult_44 : decode cX8_fillResult 44 = .ok (.iastore, 1) := by decide +kernel
theorem dX8_fillResult_45 : decode cX8_fillResult 45 = .ok (.aload_n 0, 1) := by decide +kernel
theorem dX8_fillResult_46 : decode cX8_fillResult 46 = .ok (.dup, 1) := by decide +kernel
theorem dX8_fillResult_47 : decode cX8_fillResult 47 = .ok (.getfield 131, 3) := by decide +kernel
theorem dX8_fillResult_50 : decode cX8_fillResult 50 = .ok (.iconst 1, 1) := by decide +kernel
theorem dX8_fillResult_51 : decode cX8_fillResult 51 = .ok (.iadd, 1) := by decide +kernel
theorem dX8_fillResult_52 : decode cX8_fillResult 52 = .ok (.putfield 131, 3) := by decide +kernel
theorem dX8_fillResult_55 : decode cX8_fillResult 55 = .ok (.iinc 3 1, 3) := by decide +kernel
theorem dX8_fillResult_58 : decode cX8_fillResult 58 = .ok (.goto (-51), 3) := by decide +kernel
theorem dX8_fillResult_61 : decode cX8_fillResult 61 = .ok (.return_, 1) := by decide +kernel
theorem dL_law_0 : decode cL_law 0 = .ok (.new 7, 3) := by decide +kernel
theorem dL_law_3 : decode cL_law 3 = .ok (.dup, 1) := by decide +kernel
theorem dL_law_4 : decode cL_law 4 = .ok (.invokespecial 9, 3) := by decide +kernel
theorem dL_law_7 : decode cL_law 7 = .ok (.astore_n 1, 1) := by decide +kernel
theorem dL_law_8 : decode cL_law 8 = .ok (.new 10, 3) := by decide +kernel
theorem dL_law_11 : decode cL_law 11 = .ok (.dup, 1) := by decide +kernel
theorem dL_law_12 : decode cL_law 12 = .ok (.invokespecial 12, 3) := by decide +kernel
theorem dL_law_15 : decode cL_law 15 = .ok (.astore_n 2, 1) := by decide +kernel
theorem dL_law_16 : decode cL_law 16 = .ok (.iconst 0, 1) := by decide +kernel
theorem dL_law_17 : decode cL_law 17 = .ok (.istore_n 3, 1) := by decide +kernel
theorem dL_law_18 : decode cL_law 18 = .ok (.iload_n 3, 1) := by decide +kernel
theorem dL_law_19 : decode cL_law 19 = .ok (.aload_n 0, 1) := by decide +kernel
theorem dL_law_20 : decode cL_law 20 = .ok (.arraylength, 1) := by decide +kernel
theorem dL_law_21 : decode cL_law 21 = .ok (.bipush 6, 2) := by decide +kernel
theorem dL_law_23 : decode cL_law 23 = .ok (.isub, 1) := by decide +kernel
theorem dL_law_24 : decode cL_law 24 = .ok (.if_icmp .gt 604, 3) := by decide +kernel
theorem dL_law_27 : decode cL_law 27 = .ok (.aload_n 0, 1) := by decide +kernel
theorem dL_law_28 : decode cL_law 28 = .ok (.iload_n 3, 1) := by decide +kernel
theorem dL_law_29 : decode cL_law 29 = .ok (.iaload, 1) := by decide +kernel
theorem dL_law_30 : decode cL_law 30 = .ok (.bipush 31, 2) := by decide +kernel
theorem dL_law_32 : decode cL_law 32 = .ok (.iand, 1) := by decide +kernel
theorem dL_law_33 : decode cL_law 33 = .ok (.tableswitch 589 0 18 #[91, 124, 137, 150, 193, 256, 289, 312, 335, 368, 391, 404, 417, 430, 453, 477, 500, 523, 546], 91) := by decide +kernel
theorem dL_law_124 : decode cL_law 124 = .ok (.aload_n 1, 1) := by decide +kernel
theorem dL_law_125 : decode cL_law 125 = .ok (.aload_n 0, 1) := by decide +kernel
theorem dL_law_126 : decode cL_law 126 = .ok (.iload_n 3, 1) := by decide +kernel
theorem dL_law_127 : decode cL_law 127 = .ok (.iconst 1, 1) := by decide +kernel
theorem dL_law_128 : decode cL_law 128 = .ok (.iadd, 1) := by decide +kernel
theorem dL_law_129 : decode cL_law 129 = .ok (.iaload, 1) := by decide +kernel
theorem dL_law_130 : decode cL_law 130 = .ok (.aload_n 0, 1) := by decide +kernel
theorem dL_law_131 : decode cL_law 131 = .ok (.iload_n 3, 1) := by decide +kernel
theorem dL_law_132 : decode cL_law 132 = .ok (.iconst 2, 1) := by decide +kernel
theorem dL_law_133 : decode cL_law 133 = .ok (.iadd, 1) := by decide +kernel
theorem dL_law_134 : decode cL_law 134 = .ok (.iaload, 1) := by decide +kernel
theorem dL_law_135 : decode cL_law 135 = .ok (.invokevirtual 13, 3) := by decide +kernel
theorem dL_law_138 : decode cL_law 138 = .ok (.aload_n 2, 1) := by decide +kernel
theorem dL_law_139 : decode cL_law 139 = .ok (.aload_n 0, 1) := by decide +kernel
theorem dL_law_140 : decode cL_law 140 = .ok (.iload_n 3, 1) := by decide +kernel
theorem dL_law_141 : decode cL_law 141 = .ok (.iconst 1, 1) := by decide +kernel
theorem dL_law_142 : decode cL_law 142 = .ok (.iadd, 1) := by decide +kernel
theorem dL_law_143 : decode cL_law 143 = .ok (.iaload, 1) := by decide +kernel
theorem dL_law_144 : decode cL_law 144 = .ok (.aload_n 0, 1) := by decide +kernel
theorem dL_law_145 : decode cL_law 145 = .ok (.iload_n 3, 1) := by decide +kernel
theorem dL_law_146 : decode cL_law 146 = .ok (.iconst 2, 1) := by decide +kernel
theorem dL_law_147 : decode cL_law 147 = .ok (.iadd, 1) := by decide +kernel
theorem dL_law_148 : decode cL_law 148 = .ok (.iaload, 1) := by decide +kernel
theorem dL_law_149 : decode cL_law 149 = .ok (.invokevirtual 17, 3) := by decide +kernel
theorem dL_law_152 : decode cL_law 152 = .ok (.if_icmp .eq 470, 3) := by decide +kernel
theorem dL_law_155 : decode cL_law 155 = .ok (.iconst 0, 1) := by decide +kernel
theorem dL_law_156 : decode cL_law 156 = .ok (.ireturn, 1) := by decide +kernel
theorem dL_law_157 : decode cL_law 157 = .ok (.aload_n 1, 1) := by decide +kernel
theorem dL_law_158 : decode cL_law 158 = .ok (.invokevirtual 18, 3) := by decide +kernel
theorem dL_law_161 : decode cL_law 161 = .ok (.aload_n 2, 1) := by decide +kernel
theorem dL_law_162 : decode cL_law 162 = .ok (.invokevirtual 22, 3) := by decide +kernel
theorem dL_law_165 : decode cL_law 165 = .ok (.if_icmp .eq 457, 3) := by decide +kernel
theorem dL_law_168 : decode cL_law 168 = .ok (.iconst 0, 1) := by decide +kernel
theorem dL_law_169 : decode cL_law 169 = .ok (.ireturn, 1) := by decide +kernel
theorem dL_law_170 : decode cL_law 170 = .ok (.aload_n 1, 1) := by decide +kernel
theorem dL_law_171 : decode cL_law 171 = .ok (.invokevirtual 23, 3) := by decide +kernel
theorem dL_law_174 : decode cL_law 174 = .ok (.aload_n 2, 1) := by decide +kernel
theorem dL_law_175 : decode cL_law 175 = .ok (.invokevirtual 26, 3) := by decide +kernel
theorem dL_law_178 : decode cL_law 178 = .ok (.if_icmp .eq 444, 3) := by decide +kernel
theorem dL_law_181 : decode cL_law 181 = .ok (.iconst 0, 1) := by decide +kernel
theorem dL_law_182 : decode cL_law 182 = .ok (.ireturn, 1) := by decide +kernel
theorem dL_law_183 : decode cL_law 183 = .ok (.aload_n 1, 1) := by decide +kernel
theorem dL_law_184 : decode cL_law 184 = .ok (.aload_n 0, 1) := by decide +kernel
theorem dL_law_185 : decode cL_law 185 = .ok (.iload_n 3, 1) := by decide +kernel
theorem dL_law_186 : decode cL_law 186 = .ok (.iconst 1, 1) := by decide +kernel
theorem dL_law_187 : decode cL_law 187 = .ok (.iadd, 1) := by decide +kernel
theorem dL_law_188 : decode cL_law 188 = .ok (.iaload, 1) := by decide +kernel
theorem dL_law_189 : decode cL_law 189 = .ok (.aload_n 0, 1) := by decide +kernel
theorem dL_law_190 : decode cL_law 190 = .ok (.iload_n 3, 1) := by decide +kernel
theorem dL_law_191 : decode cL_law 191 = .ok (.iconst 2, 1) := by decide +kernel
theorem dL_law_192 : decode cL_law 192 = .ok (.iadd, 1) := by decide +kernel
theorem dL_law_193 : decode cL_law 193 = .ok (.iaload, 1) := by decide +kernel
theorem dL_law_194 : decode cL_law 194 = .ok (.aload_n 0, 1) := by decide +kernel
theorem dL_law_195 : decode cL_law 195 = .ok (.iload_n 3, 1) := by decide +kernel
theorem dL_law_196 : decode cL_law 196 = .ok (.iconst 3, 1) := by decide +kernel
theorem dL_law_197 : decode cL_law 197 = .ok (.iadd, 1) := by decide +kernel
theorem dL_law_198 : decode cL_law 198 = .ok (.iaload, 1) := by decide +kernel
theorem dL_law_199 : decode cL_law 199 = .ok (.invokevirtual 27, 3) := by decide +kernel
theorem dL_law_202 : decode cL_law 202 = .ok (.aload_n 2, 1) := by decide +kernel
theorem dL_law_203 : decode cL_law 203 = .ok (.aload_n 0, 1) := by decide +kernel
theorem dL_law_204 : decode cL_law 204 = .ok (.iload_n 3, 1) := by decide +kernel
theorem dL_law_205 : decode cL_law 205 = .ok (.iconst 1, 1) := by decide +kernel
theorem dL_law_206 : decode cL_law 206 = .ok (.iadd, 1) := by decide +kernel
theorem dL_law_207 : decode cL_law 207 = .ok (.iaload, 1) := by decide +kernel
theorem dL_law_208 : decode cL_law 208 = .ok (.aload_n 0, 1) := by decide +kernel
theorem dL_law_209 : decode cL_law 209 = .ok (.iload_n 3, 1) := by decide +kernel
theorem dL_law_210 : decode cL_law 210 = .ok (.iconst 2, 1) := by decide +kernel
theorem dL_law_211 : decode cL_law 211 = .ok (.iadd, 1) := by decide +kernel
theorem dL_law_212 : decode cL_law 212 = .ok (.iaload, 1) := by decide +kernel
theorem dL_law_213 : decode cL_law 213 = .ok (.aload_n 0, 1) := by decide +kernel
theorem dL_law_214 : decode cL_law 214 = .ok (.iload_n 3, 1) := by decide +kernel
theorem dL_law_215 : decode cL_law 215 = .ok (.iconst 3, 1) := by decide +kernel
theorem dL_law_216 : decode cL_law 216 = .ok (.iadd, 1) := by decide +kernel
theorem dL_law_217 : decode cL_law 217 = .ok (.iaload, 1) := by decide +kernel
theorem dL_law_218 : decode cL_law 218 = .ok (.invokevirtual 31, 3) := by decide +kernel
theorem dL_law_221 : decode cL_law 221 = .ok (.if_icmp .eq 401, 3) := by decide +kernel
theorem dL_law_224 : decode cL_law 224 = .ok (.iconst 0, 1) := by decide +kernel
theorem dL_law_225 : decode cL_law 225 = .ok (.ireturn, 1) := by decide +kernel
theorem dL_law_226 : decode cL_law 226 = .ok (.aload_n 1, 1) := by decide +kernel
theorem dL_law_227 : decode cL_law 227 = .ok (.aload_n 0, 1) := by decide +kernel
theorem dL_law_228 : decode cL_law 228 = .ok (.iload_n 3, 1) := by decide +kernel
theorem dL_law_229 : decode cL_law 229 = .ok (.iconst 1, 1) := by decide +kernel
theorem dL_law_230 : decode cL_law 230 = .ok (.iadd, 1) := by decide +kernel
theorem dL_law_231 : decode cL_law 231 = .ok (.iaload, 1) := by decide +kernel
theorem dL_law_232 : decode cL_law 232 = .ok (.aload_n 0, 1) := by decide +kernel
theorem dL_law_233 : decode cL_law 233 = .ok (.iload_n 3, 1) := by decide +kernel
theorem dL_law_234 : decode cL_law 234 = .ok (.iconst 2, 1) := by decide +kernel
theorem dL_law_235 : decode cL_law 235 = .ok (.iadd, 1) := by decide +kernel
theorem dL_law_236 : decode cL_law 236 = .ok (.iaload, 1) := by decide +kernel
theorem dL_law_237 : decode cL_law 237 = .ok (.aload_n 0, 1) := by decide +kernel
theorem dL_law_238 : decode cL_law 238 = .ok (.iload_n 3, 1) := by decide +kernel
theorem dL_law_239 : decode cL_law 239 = .ok (.iconst 3, 1) := by decide +kernel
theorem dL_law_240 : decode cL_law 240 = .ok (.iadd, 1) := by decide +kernel
theorem dL_law_241 : decode cL_law 241 = .ok (.iaload, 1) := by decide +kernel
theorem dL_law_242 : decode cL_law 242 = .ok (.aload_n 0, 1) := by decide +kernel
theorem dL_law_243 : decode cL_law 243 = .ok (.iload_n 3, 1) := by decide +kernel
theorem dL_law_244 : decode cL_law 244 = .ok (.iconst 4, 1) := by decide +kernel
theorem dL_law_245 : decode cL_law 245 = .ok (.iadd, 1) := by decide +kernel
theorem dL_law_246 : decode cL_law 246 = .ok (.iaload, 1) := by decide +kernel
theorem dL_law_247 : decode cL_law 247 = .ok (.aload_n 0, 1) := by decide +kernel
theorem dL_law_248 : decode cL_law 248 = .ok (.iload_n 3, 1) := by decide +kernel
theorem dL_law_249 : decode cL_law 249 = .ok (.iconst 5, 1) := by decide +kernel
theorem dL_law_250 : decode cL_law 250 = .ok (.iadd, 1) := by decide +kernel
theorem dL_law_251 : decode cL_law 251 = .ok (.iaload, 1) := by decide +kernel
theorem dL_law_252 : decode cL_law 252 = .ok (.invokevirtual 32, 3) := by decide +kernel
theorem dL_law_255 : decode cL_law 255 = .ok (.aload_n 2, 1) := by decide +kernel
theorem dL_law_256 : decode cL_law 256 = .ok (.aload_n 0, 1) := by decide +kernel
theorem dL_law_257 : decode cL_law 257 = .ok (.iload_n 3, 1) := by decide +kernel
theorem dL_law_258 : decode cL_law 258 = .ok (.iconst 1, 1) := by decide +kernel
theorem dL_law_259 : decode cL_law 259 = .ok (.iadd, 1) := by decide +kernel
theorem dL_law_260 : decode cL_law 260 = .ok (.iaload, 1) := by decide +kernel
theorem dL_law_261 : decode cL_law 261 = .ok (.aload_n 0, 1) := by decide +kernel
theorem dL_law_262 : decode cL_law 262 = .ok (.iload_n 3, 1) := by decide +kernel
theorem dL_law_263 : decode cL_law 263 = .ok (.iconst 2, 1) := by decide +kernel
theorem dL_law_264 : decode cL_law 264 = .ok (.iadd, 1) := by decide +kernel
theorem dL_law_265 : decode cL_law 265 = .ok (.iaload, 1) := by decide +kernel
theorem dL_law_266 : decode cL_law 266 = .ok (.aload_n 0, 1) := by decide +kernel
theorem dL_law_267 : decode cL_law 267 = .ok (.iload_n 3, 1) := by decide +kernel
theorem dL_law_268 : decode cL_law 268 = .ok (.iconst 3, 1) := by decide +kernel
theorem dL_law_269 : decode cL_law 269 = .ok (.iadd, 1) := by decide +kernel
theorem dL_law_270 : decode cL_law 270 = .ok (.iaload, 1) := by decide +kernel
theorem dL_law_271 : decode cL_law 271 = .ok (.aload_n 0, 1) := by decide +kernel
theorem dL_law_272 : decode cL_law 272 = .ok (.iload_n 3, 1) := by decide +kernel
theorem dL_law_273 : decode cL_law 273 = .ok (.iconst 4, 1) := by decide +kernel
theorem dL_law_274 : decode cL_law 274 = .ok (.iadd, 1) := by decide +kernel
theorem dL_law_275 : decode cL_law 275 = .ok (.iaload, 1) := by decide +kernel
theorem dL_law_276 : decode cL_law 276 = .ok (.aload_n 0, 1) := by decide +kernel
theorem dL_law_277 : decode cL_law 277 = .ok (.iload_n 3, 1) := by decide +kernel
theorem dL_law_278 : decode cL_law 278 = .ok (.iconst 5, 1) := by decide +kernel
theorem dL_law_279 : decode cL_law 279 = .ok (.iadd, 1) := by decide +kernel
theorem dL_law_280 : decode cL_law 280 = .ok (.iaload, 1) := by decide +kernel
theorem dL_law_281 : decode cL_law 281 = .ok (.invokevirtual 36, 3) := by decide +kernel
theorem dL_law_284 : decode cL_law 284 = .ok (.if_icmp .eq 338, 3) := by decide +kernel
theorem dL_law_287 : decode cL_law 287 = .ok (.iconst 0, 1) := by decide +kernel
theorem dL_law_288 : decode cL_law 288 = .ok (.ireturn, 1) := by decide +kernel
theorem dL_law_289 : decode cL_law 289 = .ok (.aload_n 1, 1) := by decide +kernel
theorem dL_law_290 : decode cL_law 290 = .ok (.aload_n 0, 1) := by decide +kernel
theorem dL_law_291 : decode cL_law 291 = .ok (.iload_n 3, 1) := by decide +kernel
theorem dL_law_292 : decode cL_law 292 = .ok (.iconst 1, 1) := by decide +kernel
theorem dL_law_293 : decode cL_law 293 = .ok (.iadd, 1) := by decide +kernel
theorem dL_law_294 : decode cL_law 294 = .ok (.iaload, 1) := by decide +kernel
theorem dL_law_295 : decode cL_law 295 = .ok (.aload_n 0, 1) := by decide +kernel
theorem dL_law_296 : decode cL_law 296 = .ok (.iload_n 3, 1) := by decide +kernel
theorem dL_law_297 : decode cL_law 297 = .ok (.iconst 2, 1) := by decide +kernel
theorem dL_law_298 : decode cL_law 298 = .ok (.iadd, 1) := by decide +kernel
theorem dL_law_299 : decode cL_law 299 = .ok (.iaload, 1) := by decide +kernel
theorem dL_law_300 : decode cL_law 300 = .ok (.invokevirtual 37, 3) := by decide +kernel
theorem dL_law_303 : decode cL_law 303 = .ok (.aload_n 2, 1) := by decide +kernel
theorem dL_law_304 : decode cL_law 304 = .ok (.aload_n 0, 1) := by decide +kernel
theorem dL_law_305 : decode cL_law 305 = .ok (.iload_n 3, 1) := by decide +kernel
theorem dL_law_306 : decode cL_law 306 = .ok (.iconst 1, 1) := by decide +kernel
theorem dL_law_307 : decode cL_law 307 = .ok (.iadd, 1) := by decide +kernel
theorem dL_law_308 : decode cL_law 308 = .ok (.iaload, 1) := by decide +kernel
theorem dL_law_309 : decode cL_law 309 = .ok (.aload_n 0, 1) := by decide +kernel
theorem dL_law_310 : decode cL_law 310 = .ok (.iload_n 3, 1) := by decide +kernel
theorem dL_law_311 : decode cL_law 311 = .ok (.iconst 2, 1) := by decide +kernel
theorem dL_law_312 : decode cL_law 312 = .ok (.iadd, 1) := by decide +kernel
theorem dL_law_313 : decode cL_law 313 = .ok (.iaload, 1) := by decide +kernel
theorem dL_law_314 : decode cL_law 314 = .ok (.invokevirtual 40, 3) := by decide +kernel
theorem dL_law_317 : decode cL_law 317 = .ok (.if_icmp .eq 305, 3) := by decide +kernel
theorem dL_law_320 : decode cL_law 320 = .ok (.iconst 0, 1) := by decide +kernel
theorem dL_law_321 : decode cL_law 321 = .ok (.ireturn, 1) := by decide +kernel
theorem dL_law_322 : decode cL_law 322 = .ok (.aload_n 1, 1) := by decide +kernel
theorem dL_law_323 : decode cL_law 323 = .ok (.aload_n 0, 1) := by decide +kernel
theorem dL_law_324 : decode cL_law 324 = .ok (.iload_n 3, 1) := by decide +kernel
theorem dL_law_325 : decode cL_law 325 = .ok (.iconst 1, 1) := by decide +kernel
theorem dL_law_326 : decode cL_law 326 = .ok (.iadd, 1) := by decide +kernel
theorem dL_law_327 : decode cL_law 327 = .ok (.iaload, 1) := by decide +kernel
theorem dL_law_328 : decode cL_law 328 = .ok (.invokevirtual 41, 3) := by decide +kernel
theorem dL_law_331 : decode cL_law 331 = .ok (.aload_n 2, 1) := by decide +kernel
theorem dL_law_332 : decode cL_law 332 = .ok (.aload_n 0, 1) := by decide +kernel
theorem dL_law_333 : decode cL_law 333 = .ok (.iload_n 3, 1) := by decide +kernel
theorem dL_law_334 : decode cL_law 334 = .ok (.iconst 1, 1) := by decide +kernel
theorem dL_law_335 : decode cL_law 335 = .ok (.iadd, 1) := by decide +kernel
theorem dL_law_336 : decode cL_law 336 = .ok (.iaload, 1) := by decide +kernel
theorem dL_law_337 : decode cL_law 337 = .ok (.invokevirtual 45, 3) := by decide +kernel
theorem dL_law_340 : decode cL_law 340 = .ok (.if_icmp .eq 282, 3) := by decide +kernel
theorem dL_law_343 : decode cL_law 343 = .ok (.iconst 0, 1) := by decide +kernel
theorem dL_law_344 : decode cL_law 344 = .ok (.ireturn, 1) := by decide +kernel
theorem dL_law_345 : decode cL_law 345 = .ok (.aload_n 1, 1) := by decide +kernel
theorem dL_law_346 : decode cL_law 346 = .ok (.aload_n 0, 1) := by decide +kernel
theorem dL_law_347 : decode cL_law 347 = .ok (.iload_n 3, 1) := by decide +kernel
theorem dL_law_348 : decode cL_law 348 = .ok (.iconst 1, 1) := by decide +kernel
theorem dL_law_349 : decode cL_law 349 = .ok (.iadd, 1) := by decide +kernel
theorem dL_law_350 : decode cL_law 350 = .ok (.iaload, 1) := by decide +kernel
theorem dL_law_351 : decode cL_law 351 = .ok (.invokevirtual 46, 3) := by decide +kernel
theorem dL_law_354 : decode cL_law 354 = .ok (.aload_n 2, 1) := by decide +kernel
theorem dL_law_355 : decode cL_law 355 = .ok (.aload_n 0, 1) := by decide +kernel
theorem dL_law_356 : decode cL_law 356 = .ok (.iload_n 3, 1) := by decide +kernel
theorem dL_law_357 : decode cL_law 357 = .ok (.iconst 1, 1) := by decide +kernel
theorem dL_law_358 : decode cL_law 358 = .ok (.iadd, 1) := by decide +kernel
theorem dL_law_359 : decode cL_law 359 = .ok (.iaload, 1) := by decide +kernel
theorem dL_law_360 : decode cL_law 360 = .ok (.invokevirtual 49, 3) := by decide +kernel
theorem dL_law_363 : decode cL_law 363 = .ok (.if_icmp .eq 259, 3) := by decide +kernel
theorem dL_law_366 : decode cL_law 366 = .ok (.iconst 0, 1) := by decide +kernel
theorem dL_law_367 : decode cL_law 367 = .ok (.ireturn, 1) := by decide +kernel
theorem dL_law_368 : decode cL_law 368 = .ok (.aload_n 1, 1) := by decide +kernel
theorem dL_law_369 : decode cL_law 369 = .ok (.aload_n 0, 1) := by decide +kernel
theorem dL_law_370 : decode cL_law 370 = .ok (.iload_n 3, 1) := by decide +kernel
theorem dL_law_371 : decode cL_law 371 = .ok (.iconst 1, 1) := by decide +kernel
theorem dL_law_372 : decode cL_law 372 = .ok (.iadd, 1) := by decide +kernel
theorem dL_law_373 : decode cL_law 373 = .ok (.iaload, 1) := by decide +kernel
theorem dL_law_374 : decode cL_law 374 = .ok (.aload_n 0, 1) := by decide +kernel
theorem dL_law_375 : decode cL_law 375 = .ok (.iload_n 3, 1) := by decide +kernel
theorem dL_law_376 : decode cL_law 376 = .ok (.iconst 2, 1) := by decide +kernel
theorem dL_law_377 : decode cL_law 377 = .ok (.iadd, 1) := by decide +kernel
theorem dL_law_378 : decode cL_law 378 = .ok (.iaload, 1) := by decide +kernel
theorem dL_law_379 : decode cL_law 379 = .ok (.invokevirtual 50, 3) := by decide +kernel
theorem dL_law_382 : decode cL_law 382 = .ok (.aload_n 2, 1) := by decide +kernel
theorem dL_law_383 : decode cL_law 383 = .ok (.aload_n 0, 1) := by decide +kernel
theorem dL_law_384 : decode cL_law 384 = .ok (.iload_n 3, 1) := by decide +kernel
theorem dL_law_385 : decode cL_law 385 = .ok (.iconst 1, 1) := by decide +kernel
theorem dL_law_386 : decode cL_law 386 = .ok (.iadd, 1) := by decide +kernel
theorem dL_law_387 : decode cL_law 387 = .ok (.iaload, 1) := by decide +kernel
theorem dL_law_388 : decode cL_law 388 = .ok (.aload_n 0, 1) := by decide +kernel
theorem dL_law_389 : decode cL_law 389 = .ok (.iload_n 3, 1) := by decide +kernel
theorem dL_law_390 : decode cL_law 390 = .ok (.iconst 2, 1) := by decide +kernel
theorem dL_law_391 : decode cL_law 391 = .ok (.iadd, 1) := by decide +kernel
theorem dL_law_392 : decode cL_law 392 = .ok (.iaload, 1) := by decide +kernel
theorem dL_law_393 : decode cL_law 393 = .ok (.invokevirtual 54, 3) := by decide +kernel
theorem dL_law_396 : decode cL_law 396 = .ok (.if_icmp .eq 226, 3) := by decide +kernel
theorem dL_law_399 : decode cL_law 399 = .ok (.iconst 0, 1) := by decide +kernel
theorem dL_law_400 : decode cL_law 400 = .ok (.ireturn, 1) := by decide +kernel
theorem dL_law_401 : decode cL_law 401 = .ok (.aload_n 1, 1) := by decide +kernel
theorem dL_law_402 : decode cL_law 402 = .ok (.aload_n 0, 1) := by decide +kernel
theorem dL_law_403 : decode cL_law 403 = .ok (.iload_n 3, 1) := by decide +kernel
theorem dL_law_404 : decode cL_law 404 = .ok (.iconst 1, 1) := by decide +kernel
theorem dL_law_405 : decode cL_law 405 = .ok (.iadd, 1) := by decide +kernel
theorem dL_law_406 : decode cL_law 406 = .ok (.iaload, 1) := by decide +kernel
theorem dL_law_407 : decode cL_law 407 = .ok (.invokevirtual 55, 3) := by decide +kernel
theorem dL_law_410 : decode cL_law 410 = .ok (.aload_n 2, 1) := by decide +kernel
theorem dL_law_411 : decode cL_law 411 = .ok (.aload_n 0, 1) := by decide +kernel
theorem dL_law_412 : decode cL_law 412 = .ok (.iload_n 3, 1) := by decide +kernel
theorem dL_law_413 : decode cL_law 413 = .ok (.iconst 1, 1) := by decide +kernel
theorem dL_law_414 : decode cL_law 414 = .ok (.iadd, 1) := by decide +kernel
theorem dL_law_415 : decode cL_law 415 = .ok (.iaload, 1) := by decide +kernel
theorem dL_law_416 : decode cL_law 416 = .ok (.invokevirtual 59, 3) := by decide +kernel
theorem dL_law_419 : decode cL_law 419 = .ok (.if_icmp .eq 203, 3) := by decide +kernel
theorem dL_law_422 : decode cL_law 422 = .ok (.iconst 0, 1) := by decide +kernel
theorem dL_law_423 : decode cL_law 423 = .ok (.ireturn, 1) := by decide +kernel
theorem dL_law_424 : decode cL_law 424 = .ok (.aload_n 1, 1) := by decide +kernel
theorem dL_law_425 : decode cL_law 425 = .ok (.invokevirtual 60, 3) := by decide +kernel
theorem dL_law_428 : decode cL_law 428 = .ok (.aload_n 2, 1) := by decide +kernel
theorem dL_law_429 : decode cL_law 429 = .ok (.invokevirtual 63, 3) := by decide +kernel
theorem dL_law_432 : decode cL_law 432 = .ok (.if_icmp .eq 190, 3) := by decide +kernel
theorem dL_law_435 : decode cL_law 435 = .ok (.iconst 0, 1) := by decide +kernel
theorem dL_law_436 : decode cL_law 436 = .ok (.ireturn, 1) := by decide +kernel
theorem dL_law_437 : decode cL_law 437 = .ok (.aload_n 1, 1) := by decide +kernel
theorem dL_law_438 : decode cL_law 438 = .ok (.invokevirtual 64, 3) := by decide +kernel
theorem dL_law_441 : decode cL_law 441 = .ok (.aload_n 2, 1) := by decide +kernel
theorem dL_law_442 : decode cL_law 442 = .ok (.invokevirtual 67, 3) := by decide +kernel
theorem dL_law_445 : decode cL_law 445 = .ok (.if_icmp .eq 177, 3) := by decide +kernel
theorem dL_law_448 : decode cL_law 448 = .ok (.iconst 0, 1) := by decide +kernel
theorem dL_law_449 : decode cL_law 449 = .ok (.ireturn, 1) := by decide +kernel
theorem dL_law_450 : decode cL_law 450 = .ok (.aload_n 1, 1) := by decide +kernel
theorem dL_law_451 : decode cL_law 451 = .ok (.invokevirtual 68, 3) := by decide +kernel
theorem dL_law_454 : decode cL_law 454 = .ok (.aload_n 2, 1) := by decide +kernel
theorem dL_law_455 : decode cL_law 455 = .ok (.invokevirtual 71, 3) := by decide +kernel
theorem dL_law_458 : decode cL_law 458 = .ok (.if_icmp .eq 164, 3) := by decide +kernel
theorem dL_law_461 : decode cL_law 461 = .ok (.iconst 0, 1) := by decide +kernel
theorem dL_law_462 : decode cL_law 462 = .ok (.ireturn, 1) := by decide +kernel
theorem dL_law_463 : decode cL_law 463 = .ok (.aload_n 1, 1) := by decide +kernel
theorem dL_law_464 : decode cL_law 464 = .ok (.aload_n 0, 1) := by decide +kernel
theorem dL_law_465 : decode cL_law 465 = .ok (.iload_n 3, 1) := by decide +kernel
theorem dL_law_466 : decode cL_law 466 = .ok (.iconst 1, 1) := by decide +kernel
theorem dL_law_467 : decode cL_law 467 = .ok (.iadd, 1) := by decide +kernel
theorem dL_law_468 : decode cL_law 468 = .ok (.iaload, 1) := by decide +kernel
theorem dL_law_469 : decode cL_law 469 = .ok (.invokevirtual 72, 3) := by decide +kernel
theorem dL_law_472 : decode cL_law 472 = .ok (.aload_n 2, 1) := by decide +kernel
theorem dL_law_473 : decode cL_law 473 = .ok (.aload_n 0, 1) := by decide +kernel
theorem dL_law_474 : decode cL_law 474 = .ok (.iload_n 3, 1) := by decide +kernel
theorem dL_law_475 : decode cL_law 475 = .ok (.iconst 1, 1) := by decide +kernel
theorem dL_law_476 : decode cL_law 476 = .ok (.iadd, 1) := by decide +kernel
theorem dL_law_477 : decode cL_law 477 = .ok (.iaload, 1) := by decide +kernel
theorem dL_law_478 : decode cL_law 478 = .ok (.invokevirtual 75, 3) := by decide +kernel
theorem dL_law_481 : decode cL_law 481 = .ok (.if_icmp .eq 141, 3) := by decide +kernel
theorem dL_law_484 : decode cL_law 484 = .ok (.iconst 0, 1) := by decide +kernel
theorem dL_law_485 : decode cL_law 485 = .ok (.ireturn, 1) := by decide +kernel
theorem dL_law_486 : decode cL_law 486 = .ok (.aload_n 1, 1) := by decide +kernel
theorem dL_law_487 : decode cL_law 487 = .ok (.aload_n 0, 1) := by decide +kernel
theorem dL_law_488 : decode cL_law 488 = .ok (.iload_n 3, 1) := by decide +kernel
theorem dL_law_489 : decode cL_law 489 = .ok (.iconst 1, 1) := by decide +kernel
theorem dL_law_490 : decode cL_law 490 = .ok (.iadd, 1) := by decide +kernel
theorem dL_law_491 : decode cL_law 491 = .ok (.iaload, 1) := by decide +kernel
theorem dL_law_492 : decode cL_law 492 = .ok (.invokevirtual 76, 3) := by decide +kernel
theorem dL_law_495 : decode cL_law 495 = .ok (.aload_n 2, 1) := by decide +kernel
theorem dL_law_496 : decode cL_law 496 = .ok (.aload_n 0, 1) := by decide +kernel
theorem dL_law_497 : decode cL_law 497 = .ok (.iload_n 3, 1) := by decide +kernel
theorem dL_law_498 : decode cL_law 498 = .ok (.iconst 1, 1) := by decide +kernel
theorem dL_law_499 : decode cL_law 499 = .ok (.iadd, 1) := by decide +kernel
theorem dL_law_500 : decode cL_law 500 = .ok (.iaload, 1) := by decide +kernel
theorem dL_law_501 : decode cL_law 501 = .ok (.invokevirtual 80, 3) := by decide +kernel
theorem dL_law_504 : decode cL_law 504 = .ok (.lcmp, 1) := by decide +kernel
theorem dL_law_505 : decode cL_law 505 = .ok (.ifCond .eq 117, 3) := by decide +kernel
theorem dL_law_508 : decode cL_law 508 = .ok (.iconst 0, 1) := by decide +kernel
theorem dL_law_509 : decode cL_law 509 = .ok (.ireturn, 1) := by decide +kernel
theorem dL_law_510 : decode cL_law 510 = .ok (.aload_n 1, 1) := by decide +kernel
theorem dL_law_511 : decode cL_law 511 = .ok (.aload_n 0, 1) := by decide +kernel
theorem dL_law_512 : decode cL_law 512 = .ok (.iload_n 3, 1) := by decide +kernel
theorem dL_law_513 : decode cL_law 513 = .ok (.iconst 1, 1) := by decide +kernel
theorem dL_law_514 : decode cL_law 514 = .ok (.iadd, 1) := by decide +kernel
theorem dL_law_515 : decode cL_law 515 = .ok (.iaload, 1) := by decide +kernel
theorem dL_law_516 : decode cL_law 516 = .ok (.invokevirtual 81, 3) := by decide +kernel
theorem dL_law_519 : decode cL_law 519 = .ok (.aload_n 2, 1) := by decide +kernel
theorem dL_law_520 : decode cL_law 520 = .ok (.aload_n 0, 1) := by decide +kernel
theorem dL_law_521 : decode cL_law 521 = .ok (.iload_n 3, 1) := by decide +kernel
theorem dL_law_522 : decode cL_law 522 = .ok (.iconst 1, 1) := by decide +kernel
theorem dL_law_523 : decode cL_law 523 = .ok (.iadd, 1) := by decide +kernel
theorem dL_law_524 : decode cL_law 524 = .ok (.iaload, 1) := by decide +kernel
theorem dL_law_525 : decode cL_law 525 = .ok (.invokevirtual 84, 3) := by decide +kernel
theorem dL_law_528 : decode cL_law 528 = .ok (.if_icmp .eq 94, 3) := by decide +kernel
theorem dL_law_531 : decode cL_law 531 = .ok (.iconst 0, 1) := by decide +kernel
theorem dL_law_532 : decode cL_law 532 = .ok (.ireturn, 1) := by decide +kernel
theorem dL_law_533 : decode cL_law 533 = .ok (.aload_n 1, 1) := by decide +kernel
theorem dL_law_534 : decode cL_law 534 = .ok (.aload_n 0, 1) := by decide +kernel
theorem dL_law_535 : decode cL_law 535 = .ok (.iload_n 3, 1) := by decide +kernel
theorem dL_law_536 : decode cL_law 536 = .ok (.iconst 1, 1) := by decide +kernel
theorem dL_law_537 : decode cL_law 537 = .ok (.iadd, 1) := by decide +kernel
theorem dL_law_538 : decode cL_law 538 = .ok (.iaload, 1) := by decide +kernel
theorem dL_law_539 : decode cL_law 539 = .ok (.invokevirtual 85, 3) := by decide +kernel
theorem dL_law_542 : decode cL_law 542 = .ok (.aload_n 2, 1) := by decide +kernel
theorem dL_law_543 : decode cL_law 543 = .ok (.aload_n 0, 1) := by decide +kernel
theorem dL_law_544 : decode cL_law 544 = .ok (.iload_n 3, 1) := by decide +kernel
theorem dL_law_545 : decode cL_law 545 = .ok (.iconst 1, 1) := by decide +kernel
theorem dL_law_546 : decode cL_law 546 = .ok (.iadd, 1) := by decide +kernel
theorem dL_law_547 : decode cL_law 547 = .ok (.iaload, 1) := by decide +kernel
theorem dL_law_548 : decode cL_law 548 = .ok (.invokevirtual 88, 3) := by decide +kernel
theorem dL_law_551 : decode cL_law 551 = .ok (.if_icmp .eq 71, 3) := by decide +kernel
theorem dL_law_554 : decode cL_law 554 = .ok (.iconst 0, 1) := by decide +kernel
theorem dL_law_555 : decode cL_law 555 = .ok (.ireturn, 1) := by decide +kernel
theorem dL_law_556 : decode cL_law 556 = .ok (.aload_n 1, 1) := by decide +kernel
theorem dL_law_557 : decode cL_law 557 = .ok (.aload_n 0, 1) := by decide +kernel
theorem dL_law_558 : decode cL_law 558 = .ok (.iload_n 3, 1) := by decide +kernel
theorem dL_law_559 : decode cL_law 559 = .ok (.iconst 1, 1) := by decide +kernel
theorem dL_law_560 : decode cL_law 560 = .ok (.iadd, 1) := by decide +kernel
theorem dL_law_561 : decode cL_law 561 = .ok (.iaload, 1) := by decide +kernel
theorem dL_law_562 : decode cL_law 562 = .ok (.invokevirtual 89, 3) := by decide +kernel
theorem dL_law_565 : decode cL_law 565 = .ok (.aload_n 2, 1) := by decide +kernel
theorem dL_law_566 : decode cL_law 566 = .ok (.aload_n 0, 1) := by decide +kernel
theorem dL_law_567 : decode cL_law 567 = .ok (.iload_n 3, 1) := by decide +kernel
theorem dL_law_568 : decode cL_law 568 = .ok (.iconst 1, 1) := by decide +kernel
theorem dL_law_569 : decode cL_law 569 = .ok (.iadd, 1) := by decide +kernel
theorem dL_law_570 : decode cL_law 570 = .ok (.iaload, 1) := by decide +kernel
theorem dL_law_571 : decode cL_law 571 = .ok (.invokevirtual 92, 3) := by decide +kernel
theorem dL_law_574 : decode cL_law 574 = .ok (.if_icmp .eq 48, 3) := by decide +kernel
theorem dL_law_577 : decode cL_law 577 = .ok (.iconst 0, 1) := by decide +kernel
theorem dL_law_578 : decode cL_law 578 = .ok (.ireturn, 1) := by decide +kernel
theorem dL_law_579 : decode cL_law 579 = .ok (.aload_n 1, 1) := by decide +kernel
theorem dL_law_580 : decode cL_law 580 = .ok (.aload_n 0, 1) := by decide +kernel
theorem dL_law_581 : decode cL_law 581 = .ok (.iload_n 3, 1) := by decide +kernel
theorem dL_law_582 : decode cL_law 582 = .ok (.iconst 1, 1) := by decide +kernel
theorem dL_law_583 : decode cL_law 583 = .ok (.iadd, 1) := by decide +kernel
theorem dL_law_584 : decode cL_law 584 = .ok (.iaload, 1) := by decide +kernel
theorem dL_law_585 : decode cL_law 585 = .ok (.aload_n 0, 1) := by decide +kernel
theorem dL_law_586 : decode cL_law 586 = .ok (.iload_n 3, 1) := by decide +kernel
theorem dL_law_587 : decode cL_law 587 = .ok (.iconst 2, 1) := by decide +kernel
theorem dL_law_588 : decode cL_law 588 = .ok (.iadd, 1) := by decide +kernel
theorem dL_law_589 : decode cL_law 589 = .ok (.iaload, 1) := by decide +kernel
theorem dL_law_590 : decode cL_law 590 = .ok (.aload_n 0, 1) := by decide +kernel
theorem dL_law_591 : decode cL_law 591 = .ok (.iload_n 3, 1) := by decide +kernel
theorem dL_law_592 : decode cL_law 592 = .ok (.iconst 3, 1) := by decide +kernel
theorem dL_law_593 : decode cL_law 593 = .ok (.iadd, 1) := by decide +kernel
theorem dL_law_594 : decode cL_law 594 = .ok (.iaload, 1) := by decide +kernel
theorem dL_law_595 : decode cL_law 595 = .ok (.invokevirtual 93, 3) := by decide +kernel
theorem dL_law_598 : decode cL_law 598 = .ok (.aload_n 2, 1) := by decide +kernel
theorem dL_law_599 : decode cL_law 599 = .ok (.aload_n 0, 1) := by decide +kernel
theorem dL_law_600 : decode cL_law 600 = .ok (.iload_n 3, 1) := by decide +kernel
theorem dL_law_601 : decode cL_law 601 = .ok (.iconst 1, 1) := by decide +kernel
theorem dL_law_602 : decode cL_law 602 = .ok (.iadd, 1) := by decide +kernel
theorem dL_law_603 : decode cL_law 603 = .ok (.iaload, 1) := by decide +kernel
theorem dL_law_604 : decode cL_law 604 = .ok (.aload_n 0, 1) := by decide +kernel
theorem dL_law_605 : decode cL_law 605 = .ok (.iload_n 3, 1) := by decide +kernel
theorem dL_law_606 : decode cL_law 606 = .ok (.iconst 2, 1) := by decide +kernel
theorem dL_law_607 : decode cL_law 607 = .ok (.iadd, 1) := by decide +kernel
theorem dL_law_608 : decode cL_law 608 = .ok (.iaload, 1) := by decide +kernel
theorem dL_law_609 : decode cL_law 609 = .ok (.aload_n 0, 1) := by decide +kernel
theorem dL_law_610 : decode cL_law 610 = .ok (.iload_n 3, 1) := by decide +kernel
theorem dL_law_611 : decode cL_law 611 = .ok (.iconst 3, 1) := by decide +kernel
theorem dL_law_612 : decode cL_law 612 = .ok (.iadd, 1) := by decide +kernel
theorem dL_law_613 : decode cL_law 613 = .ok (.iaload, 1) := by decide +kernel
theorem dL_law_614 : decode cL_law 614 = .ok (.invokevirtual 96, 3) := by decide +kernel
theorem dL_law_617 : decode cL_law 617 = .ok (.if_icmp .eq 5, 3) := by decide +kernel
theorem dL_law_620 : decode cL_law 620 = .ok (.iconst 0, 1) := by decide +kernel
theorem dL_law_621 : decode cL_law 621 = .ok (.ireturn, 1) := by decide +kernel
theorem dL_law_622 : decode cL_law 622 = .ok (.iinc 3 6, 3) := by decide +kernel
theorem dL_law_625 : decode cL_law 625 = .ok (.goto (-607), 3) := by decide +kernel
theorem dL_law_628 : decode cL_law 628 = .ok (.iconst 1, 1) := by decide +kernel
theorem dL_law_629 : decode cL_law 629 = .ok (.ireturn, 1) := by decide +kernel
theorem dJ15_checkIndex_7cf53_0 : decode cJ15_checkIndex_7cf53 0 = .ok (.iload_n 0, 1) := by decide +kernel
theorem dJ15_checkIndex_7cf53_1 : decode cJ15_checkIndex_7cf53 1 = .ok (.iload_n 1, 1) := by decide +kernel
theorem dJ15_checkIndex_7cf53_2 : decode cJ15_checkIndex_7cf53 2 = .ok (.aconst_null, 1) := by decide +kernel
theorem dJ15_checkIndex_7cf53_3 : decode cJ15_checkIndex_7cf53 3 = .ok (.invokestatic 105, 3) := by decide +kernel
theorem dJ15_checkIndex_7cf53_6 : decode cJ15_checkIndex_7cf53 6 = .ok (.ireturn, 1) := by decide +kernel
theorem dJ3_checkIndex_8e157_0 : decode cJ3_checkIndex_8e157 0 = .ok (.iload_n 0, 1) := by decide +kernel
theorem dJ3_checkIndex_8e157_1 : decode cJ3_checkIndex_8e157 1 = .ok (.ifCond .lt 8, 3) := by decide +kernel
theorem dJ3_checkIndex_8e157_4 : decode cJ3_checkIndex_8e157 4 = .ok (.iload_n 0, 1) := by decide +kernel
theorem dJ3_checkIndex_8e157_5 : decode cJ3_checkIndex_8e157 5 = .ok (.iload_n 1, 1) := by decide +kernel
theorem dJ3_checkIndex_8e157_6 : decode cJ3_checkIndex_8e157 6 = .ok (.if_icmp .lt 10, 3) := by decide +kernel
theorem dJ3_checkIndex_8e157_9 : decode cJ3_checkIndex_8e157 9 = .ok (.aload_n 2, 1) := by decide +kernel
theorem dJ3_checkIndex_8e157_10 : decode cJ3_checkIndex_8e157 10 = .ok (.iload_n 0, 1) := by decide +kernel
theorem dJ3_checkIndex_8e157_11 : decode cJ3_checkIndex_8e157 11 = .ok (.iload_n 1, 1) := by decide +kernel
theorem dJ3_checkIndex_8e157_12 : decode cJ3_checkIndex_8e157 12 = .ok (.invokestatic 95, 3) := by decide +kernel
theorem dJ3_checkIndex_8e157_15 : decode cJ3_checkIndex_8e157 15 = .ok (.athrow, 1) := by decide +kernel
theorem dJ3_checkIndex_8e157_16 : decode cJ3_checkIndex_8e157 16 = .ok (.iload_n 0, 1) := by decide +kernel
theorem dJ3_checkIndex_8e157_17 : decode cJ3_checkIndex_8e157 17 = .ok (.ireturn, 1) := by decide +kernel
theorem dJ7_copyOf_1904c_0 : decode cJ7_copyOf_1904c 0 = .ok (.aload_n 0, 1) := by decide +kernel
theorem dJ7_copyOf_1904c_1 : decode cJ7_copyOf_1904c 1 = .ok (.iload_n 1, 1) := by decide +kernel
theorem dJ7_copyOf_1904c_2 : decode cJ7_copyOf_1904c 2 = .ok (.aload_n 0, 1) := by decide +kernel
theorem dJ7_copyOf_1904c_3 : decode cJ7_copyOf_1904c 3 = .ok (.invokevirtual 86, 3) := by decide +kernel
theorem dJ7_copyOf_1904c_6 : decode cJ7_copyOf_1904c 6 = .ok (.invokestatic 300, 3) := by decide +kernel
theorem dJ7_copyOf_1904c_9 : decode cJ7_copyOf_1904c 9 = .ok (.areturn, 1) := by decide +kernel
theorem dJ7_copyOf_6403c_0 : decode cJ7_copyOf_6403c 0 = .ok (.aload_n 2, 1) := by decide +kernel
theorem dJ7_copyOf_6403c_1 : decode cJ7_copyOf_6403c 1 = .ok (.ldc 110, 2) := by decide +kernel
theorem dJ7_copyOf_6403c_3 : decode cJ7_copyOf_6403c 3 = .ok (.if_acmp .ne 10, 3) := by decide +kernel
theorem dJ7_copyOf_6403c_6 : decode cJ7_copyOf_6403c 6 = .ok (.iload_n 1, 1) := by decide +kernel
theorem dJ7_copyOf_6403c_7 : decode cJ7_copyOf_6403c 7 = .ok (.anewarray 2, 3) := by decide +kernel
theorem dJ7_copyOf_6403c_10 : decode cJ7_copyOf_6403c 10 = .ok (.goto 14, 3) := by decide +kernel
theorem dJ7_copyOf_6403c_13 : decode cJ7_copyOf_6403c 13 = .ok (.aload_n 2, 1) := by decide +kernel
theorem dJ7_copyOf_6403c_14 : decode cJ7_copyOf_6403c 14 = .ok (.invokevirtual 90, 3) := by decide +kernel
theorem dJ7_copyOf_6403c_17 : decode cJ7_copyOf_6403c 17 = .ok (.iload_n 1, 1) := by decide +kernel
theorem dJ7_copyOf_6403c_18 : decode cJ7_copyOf_6403c 18 = .ok (.invokestatic 95, 3) := by decide +kernel
theorem dJ7_copyOf_6403c_21 : decode cJ7_copyOf_6403c 21 = .ok (.checkcast 110, 3) := by decide +kernel
theorem dJ7_copyOf_6403c_24 : decode cJ7_copyOf_6403c 24 = .ok (.astore_n 3, 1) := by decide +kernel
theorem dJ7_copyOf_6403c_25 : decode cJ7_copyOf_6403c 25 = .ok (.aload_n 0, 1) := by decide +kernel
theorem dJ7_copyOf_6403c_26 : decode cJ7_copyOf_6403c 26 = .ok (.iconst 0, 1) := by decide +kernel
theorem dJ7_copyOf_6403c_27 : decode cJ7_copyOf_6403c 27 = .ok (.aload_n 3, 1) := by decide +kernel
theorem dJ7_copyOf_6403c_28 : decode cJ7_copyOf_6403c 28 = .ok (.iconst 0, 1) := by decide +kernel
theorem dJ7_copyOf_6403c_29 : decode cJ7_copyOf_6403c 29 = .ok (.aload_n 0, 1) := by decide +kernel
theorem dJ7_copyOf_6403c_30 : decode cJ7_copyOf_6403c 30 = .ok (.arraylength, 1) := by decide +kernel
theorem dJ7_copyOf_6403c_31 : decode cJ7_copyOf_6403c 31 = .ok (.iload_n 1, 1) := by decide +kernel
theorem dJ7_copyOf_6403c_32 : decode cJ7_copyOf_6403c 32 = .ok (.invokestatic 304, 3) := by decide +kernel
theorem dJ7_copyOf_6403c_35 : decode cJ7_copyOf_6403c 35 = .ok (.invokestatic 150, 3) := by decide +kernel
theorem dJ7_copyOf_6403c_38 : decode cJ7_copyOf_6403c 38 = .ok (.aload_n 3, 1) := by decide +kernel
theorem dJ7_copyOf_6403c_39 : decode cJ7_copyOf_6403c 39 = .ok (.areturn, 1) := by decide +kernel
theorem dJ8_newLength_cabcc_0 : decode cJ8_newLength_cabcc 0 = .ok (.iload_n 0, 1) := by decide +kernel
theorem dJ8_newLength_cabcc_1 : decode cJ8_newLength_cabcc 1 = .ok (.iload_n 1, 1) := by decide +kernel
theorem dJ8_newLength_cabcc_2 : decode cJ8_newLength_cabcc 2 = .ok (.iload_n 2, 1) := by decide +kernel
theorem dJ8_newLength_cabcc_3 : decode cJ8_newLength_cabcc 3 = .ok (.invokestatic 194, 3) := by decide +kernel
theorem dJ8_newLength_cabcc_6 : decode cJ8_newLength_cabcc 6 = .ok (.iadd, 1) := by decide +kernel
theorem dJ8_newLength_cabcc_7 : decode cJ8_newLength_cabcc 7 = .ok (.istore_n 3, 1) := by decide +kernel
theorem dJ8_newLength_cabcc_8 : decode cJ8_newLength_cabcc 8 = .ok (.iconst 0, 1) := by decide +kernel
theorem dJ8_newLength_cabcc_9 : decode cJ8_newLength_cabcc 9 = .ok (.iload_n 3, 1) := by decide +kernel
theorem dJ8_newLength_cabcc_10 : decode cJ8_newLength_cabcc 10 = .ok (.if_icmp .ge 11, 3) := by decide +kernel
theorem dJ8_newLength_cabcc_13 : decode cJ8_newLength_cabcc 13 = .ok (.iload_n 3, 1) := by decide +kernel
theorem dJ8_newLength_cabcc_14 : decode cJ8_newLength_cabcc 14 = .ok (.ldc 200, 2) := by decide +kernel
theorem dJ8_newLength_cabcc_16 : decode cJ8_newLength_cabcc 16 = .ok (.if_icmp .gt 5, 3) := by decide +kernel
theorem dJ8_newLength_cabcc_19 : decode cJ8_newLength_cabcc 19 = .ok (.iload_n 3, 1) := by decide +kernel
theorem dJ8_newLength_cabcc_20 : decode cJ8_newLength_cabcc 20 = .ok (.ireturn, 1) := by decide +kernel
theorem dJ8_newLength_cabcc_21 : decode cJ8_newLength_cabcc 21 = .ok (.iload_n 0, 1) := by decide +kernel
theorem dJ8_newLength_cabcc_22 : decode cJ8_newLength_cabcc 22 = .ok (.iload_n 1, 1) := by decide +kernel
theorem dJ8_newLength_cabcc_23 : decode cJ8_newLength_cabcc 23 = .ok (.invokestatic 201, 3) := by decide +kernel
theorem dJ8_newLength_cabcc_26 : decode cJ8_newLength_cabcc 26 = .ok (.ireturn, 1) := by decide +kernel
theorem dJ8_hugeLength_7cf53_0 : decode cJ8_hugeLength_7cf53 0 = .ok (.iload_n 0, 1) := by decide +kernel
theorem dJ8_hugeLength_7cf53_1 : decode cJ8_hugeLength_7cf53 1 = .ok (.iload_n 1, 1) := by decide +kernel
theorem dJ8_hugeLength_7cf53_2 : decode cJ8_hugeLength_7cf53 2 = .ok (.iadd, 1) := by decide +kernel
theorem dJ8_hugeLength_7cf53_3 : decode cJ8_hugeLength_7cf53 3 = .ok (.istore_n 2, 1) := by decide +kernel
theorem dJ8_hugeLength_7cf53_4 : decode cJ8_hugeLength_7cf53 4 = .ok (.iload_n 2, 1) := by decide +kernel
theorem dJ8_hugeLength_7cf53_5 : decode cJ8_hugeLength_7cf53 5 = .ok (.ifCond .ge 44, 3) := by decide +kernel
theorem dJ8_hugeLength_7cf53_8 : decode cJ8_hugeLength_7cf53 8 = .ok (.new 204, 3) := by decide +kernel
theorem dJ8_hugeLength_7cf53_11 : decode cJ8_hugeLength_7cf53 11 = .ok (.dup, 1) := by decide +kernel
theorem dJ8_hugeLength_7cf53_12 : decode cJ8_hugeLength_7cf53 12 = .ok (.new 89, 3) := by decide +kernel
theorem dJ8_hugeLength_7cf53_15 : decode cJ8_hugeLength_7cf53 15 = .ok (.dup, 1) := by decide +kernel
theorem dJ8_hugeLength_7cf53_16 : decode cJ8_hugeLength_7cf53 16 = .ok (.invokespecial 91, 3) := by decide +kernel
theorem dJ8_hugeLength_7cf53_19 : decode cJ8_hugeLength_7cf53 19 = .ok (.ldc 206, 2) := by decide +kernel
theorem dJ8_hugeLength_7cf53_21 : decode cJ8_hugeLength_7cf53 21 = .ok (.invokevirtual 94, 3) := by decide +kernel
theorem dJ8_hugeLength_7cf53_24 : decode cJ8_hugeLength_7cf53 24 = .ok (.iload_n 0, 1) := by decide +kernel
theorem dJ8_hugeLength_7cf53_25 : decode cJ8_hugeLength_7cf53 25 = .ok (.invokevirtual 98, 3) := by decide +kernel
theorem dJ8_hugeLength_7cf53_28 : decode cJ8_hugeLength_7cf53 28 = .ok (.ldc 208, 2) := by decide +kernel
theorem dJ8_hugeLength_7cf53_30 : decode cJ8_hugeLength_7cf53 30 = .ok (.invokevirtual 94, 3) := by decide +kernel
theorem dJ8_hugeLength_7cf53_33 : decode cJ8_hugeLength_7cf53 33 = .ok (.iload_n 1, 1) := by decide +kernel
theorem dJ8_hugeLength_7cf53_34 : decode cJ8_hugeLength_7cf53 34 = .ok (.invokevirtual 98, 3) := by decide +kernel
theorem dJ8_hugeLength_7cf53_37 : decode cJ8_hugeLength_7cf53 37 = .ok (.ldc 210, 2) := by decide +kernel
theorem dJ8_hugeLength_7cf53_39 : decode cJ8_hugeLength_7cf53 39 = .ok (.invokevirtual 94, 3) := by decide +kernel
theorem dJ8_hugeLength_7cf53_42 : decode cJ8_hugeLength_7cf53 42 = .ok (.invokevirtual 101, 3) := by decide +kernel
theorem dJ8_hugeLength_7cf53_45 : decode cJ8_hugeLength_7cf53 45 = .ok (.invokespecial 212, 3) := by decide +kernel
theorem dJ8_hugeLength_7cf53_48 : decode cJ8_hugeLength_7cf53 48 = .ok (.athrow, 1) := by decide +kernel
theorem dJ8_hugeLength_7cf53_49 : decode cJ8_hugeLength_7cf53 49 = .ok (.iload_n 2, 1) := by decide +kernel
theorem dJ8_hugeLength_7cf53_50 : decode cJ8_hugeLength_7cf53 50 = .ok (.ldc 200, 2) := by decide +kernel
theorem dJ8_hugeLength_7cf53_52 : decode cJ8_hugeLength_7cf53 52 = .ok (.if_icmp .gt 6, 3) := by decide +kernel
theorem dJ8_hugeLength_7cf53_55 : decode cJ8_hugeLength_7cf53 55 = .ok (.ldc 200, 2) := by decide +kernel
theorem dJ8_hugeLength_7cf53_57 : decode cJ8_hugeLength_7cf53 57 = .ok (.ireturn, 1) := by decide +kernel
theorem dJ8_hugeLength_7cf53_58 : decode cJ8_hugeLength_7cf53 58 = .ok (.iload_n 2, 1) := by decide +kernel
theorem dJ8_hugeLength_7cf53_59 : decode cJ8_hugeLength_7cf53 59 = .ok (.ireturn, 1) := by decide +kernel
theorem dJ9_max_7cf53_0 : decode cJ9_max_7cf53 0 = .ok (.iload_n 0, 1) := by decide +kernel
theorem dJ9_max_7cf53_1 : decode cJ9_max_7cf53 1 = .ok (.iload_n 1, 1) := by decide +kernel
theorem dJ9_max_7cf53_2 : decode cJ9_max_7cf53 2 = .ok (.if_icmp .lt 7, 3) := by decide +kernel
theorem dJ9_max_7cf53_5 : decode cJ9_max_7cf53 5 = .ok (.iload_n 0, 1) := by decide +kernel
theorem dJ9_max_7cf53_6 : decode cJ9_max_7cf53 6 = .ok (.goto 4, 3) := by decide +kernel
theorem dJ9_max_7cf53_9 : decode cJ9_max_7cf53 9 = .ok (.iload_n 1, 1) := by decide +kernel
theorem dJ9_max_7cf53_10 : decode cJ9_max_7cf53 10 = .ok (.ireturn, 1) := by decide +kernel
theorem dJ9_max_f86c9_0 : decode cJ9_max_f86c9 0 = .ok (.lload_n 0, 1) := by decide +kernel
theorem dJ9_max_f86c9_1 : decode cJ9_max_f86c9 1 = .ok (.lload_n 2, 1) := by decide +kernel
theorem dJ9_max_f86c9_2 : decode cJ9_max_f86c9 2 = .ok (.lcmp, 1) := by decide +kernel
theorem dJ9_max_f86c9_3 : decode cJ9_max_f86c9 3 = .ok (.ifCond .lt 7, 3) := by decide +kernel
theorem dJ9_max_f86c9_6 : decode cJ9_max_f86c9 6 = .ok (.lload_n 0, 1) := by decide +kernel
theorem dJ9_max_f86c9_7 : decode cJ9_max_f86c9 7 = .ok (.goto 4, 3) := by decide +kernel
theorem dJ9_max_f86c9_10 : decode cJ9_max_f86c9 10 = .ok (.lload_n 2, 1) := by decide +kernel
theorem dJ9_max_f86c9_11 : decode cJ9_max_f86c9 11 = .ok (.lreturn, 1) := by decide +kernel
theorem dJ9_min_7cf53_0 : decode cJ9_min_7cf53 0 = .ok (.iload_n 0, 1) := by decide +kernel
theorem dJ9_min_7cf53_1 : decode cJ9_min_7cf53 1 = .ok (.iload_n 1, 1) := by decide +kernel
theorem dJ9_min_7cf53_2 : decode cJ9_min_7cf53 2 = .ok (.if_icmp .gt 7, 3) := by decide +kernel
theorem dJ9_min_7cf53_5 : decode cJ9_min_7cf53 5 = .ok (.iload_n 0, 1) := by decide +kernel
theorem dJ9_min_7cf53_6 : decode cJ9_min_7cf53 6 = .ok (.goto 4, 3) := by decide +kernel
theorem dJ9_min_7cf53_9 : decode cJ9_min_7cf53 9 = .ok (.iload_n 1, 1) := by decide +kernel
theorem dJ9_min_7cf53_10 : decode cJ9_min_7cf53 10 = .ok (.ireturn, 1) := by decide +kernel
theorem dJ9_min_f86c9_0 : decode cJ9_min_f86c9 0 = .ok (.lload_n 0, 1) := by decide +kernel
theorem dJ9_min_f86c9_1 : decode cJ9_min_f86c9 1 = .ok (.lload_n 2, 1) := by decide +kernel
theorem dJ9_min_f86c9_2 : decode cJ9_min_f86c9 2 = .ok (.lcmp, 1) := by decide +kernel
theorem dJ9_min_f86c9_3 : decode cJ9_min_f86c9 3 = .ok (.ifCond .gt 7, 3) := by decide +kernel
theorem dJ9_min_f86c9_6 : decode cJ9_min_f86c9 6 = .ok (.lload_n 0, 1) := by decide +kernel
theorem dJ9_min_f86c9_7 : decode cJ9_min_f86c9 7 = .ok (.goto 4, 3) := by decide +kernel
theorem dJ9_min_f86c9_10 : decode cJ9_min_f86c9 10 = .ok (.lload_n 2, 1) := by decide +kernel
theorem dJ9_min_f86c9_11 : decode cJ9_min_f86c9 11 = .ok (.lreturn, 1) := by decide +kernel
theorem dJx4a65c_init_da8c8_0 : decode cJx4a65c_init_da8c8 0 = .ok (.aload_n 0, 1) := by decide +kernel
theorem dJx4a65c_init_da8c8_1 : decode cJx4a65c_init_da8c8 1 = .ok (.invokespecial 1, 3) := by decide +kernel
theorem dJx4a65c_init_da8c8_4 : decode cJx4a65c_init_da8c8 4 = .ok (.aload_n 0, 1) := by decide +kernel
theorem dJx4a65c_init_da8c8_5 : decode cJx4a65c_init_da8c8 5 = .ok (.getstatic 39, 3) := by decide +kernel
theorem dJx4a65c_init_da8c8_8 : decode cJx4a65c_init_da8c8 8 = .ok (.putfield 9, 3) := by decide +kernel
theorem dJx4a65c_init_da8c8_11 : decode cJx4a65c_init_da8c8 11 = .ok (.return_, 1) := by decide +kernel
theorem dJx4a65c_grow_92f84_0 : decode cJx4a65c_grow_92f84 0 = .ok (.aload_n 0, 1) := by decide +kernel
theorem dJx4a65c_grow_92f84_1 : decode cJx4a65c_grow_92f84 1 = .ok (.getfield 9, 3) := by decide +kernel
theorem dJx4a65c_grow_92f84_4 : decode cJx4a65c_grow_92f84 4 = .ok (.arraylength, 1) := by decide +kernel
theorem dJx4a65c_grow_92f84_5 : decode cJx4a65c_grow_92f84 5 = .ok (.istore_n 2, 1) := by decide +kernel
theorem dJx4a65c_grow_92f84_6 : decode cJx4a65c_grow_92f84 6 = .ok (.iload_n 2, 1) := by decide +kernel
theorem dJx4a65c_grow_92f84_7 : decode cJx4a65c_grow_92f84 7 = .ok (.ifCond .gt 13, 3) := by decide +kernel
theorem dJx4a65c_grow_92f84_10 : decode cJx4a65c_grow_92f84 10 = .ok (.aload_n 0, 1) := by decide +kernel
theorem dJx4a65c_grow_92f84_11 : decode cJx4a65c_grow_92f84 11 = .ok (.getfield 9, 3) := by decide +kernel
theorem dJx4a65c_grow_92f84_14 : decode cJx4a65c_grow_92f84 14 = .ok (.getstatic 39, 3) := by decide +kernel
theorem dJx4a65c_grow_92f84_17 : decode cJx4a65c_grow_92f84 17 = .ok (.if_acmp .eq 28, 3) := by decide +kernel
theorem dJx4a65c_grow_92f84_20 : decode cJx4a65c_grow_92f84 20 = .ok (.iload_n 2, 1) := by decide +kernel
theorem dJx4a65c_grow_92f84_21 : decode cJx4a65c_grow_92f84 21 = .ok (.iload_n 1, 1) := by decide +kernel
theorem dJx4a65c_grow_92f84_22 : decode cJx4a65c_grow_92f84 22 = .ok (.iload_n 2, 1) := by decide +kernel
theorem dJx4a65c_grow_92f84_23 : decode cJx4a65c_grow_92f84 23 = .ok (.isub, 1) := by decide +kernel
theorem dJx4a65c_grow_92f84_24 : decode cJx4a65c_grow_92f84 24 = .ok (.iload_n 2, 1) := by decide +kernel
theorem dJx4a65c_grow_92f84_25 : decode cJx4a65c_grow_92f84 25 = .ok (.iconst 1, 1) := by decide +kernel
theorem dJx4a65c_grow_92f84_26 : decode cJx4a65c_grow_92f84 26 = .ok (.ishr, 1) := by decide +kernel
theorem dJx4a65c_grow_92f84_27 : decode cJx4a65c_grow_92f84 27 = .ok (.invokestatic 73, 3) := by decide +kernel
theorem dJx4a65c_grow_92f84_30 : decode cJx4a65c_grow_92f84 30 = .ok (.istore_n 3, 1) := by decide +kernel
theorem dJx4a65c_grow_92f84_31 : decode cJx4a65c_grow_92f84 31 = .ok (.aload_n 0, 1) := by decide +kernel
theorem dJx4a65c_grow_92f84_32 : decode cJx4a65c_grow_92f84 32 = .ok (.aload_n 0, 1) := by decide +kernel
theorem dJx4a65c_grow_92f84_33 : decode cJx4a65c_grow_92f84 33 = .ok (.getfield 9, 3) := by decide +kernel
theorem dJx4a65c_grow_92f84_36 : decode cJx4a65c_grow_92f84 36 = .ok (.iload_n 3, 1) := by decide +kernel
theorem dJx4a65c_grow_92f84_37 : decode cJx4a65c_grow_92f84 37 = .ok (.invokestatic 66, 3) := by decide +kernel
theorem dJx4a65c_grow_92f84_40 : decode cJx4a65c_grow_92f84 40 = .ok (.dup_x1, 1) := by decide +kernel
theorem dJx4a65c_grow_92f84_41 : decode cJx4a65c_grow_92f84 41 = .ok (.putfield 9, 3) := by decide +kernel
theorem dJx4a65c_grow_92f84_44 : decode cJx4a65c_grow_92f84 44 = .ok (.areturn, 1) := by decide +kernel
theorem dJx4a65c_grow_92f84_45 : decode cJx4a65c_grow_92f84 45 = .ok (.aload_n 0, 1) := by decide +kernel
theorem dJx4a65c_grow_92f84_46 : decode cJx4a65c_grow_92f84 46 = .ok (.bipush 10, 2) := by decide +kernel
theorem dJx4a65c_grow_92f84_48 : decode cJx4a65c_grow_92f84 48 = .ok (.iload_n 1, 1) := by decide +kernel
theorem dJx4a65c_grow_92f84_49 : decode cJx4a65c_grow_92f84 49 = .ok (.invokestatic 79, 3) := by decide +kernel
theorem dJx4a65c_grow_92f84_52 : decode cJx4a65c_grow_92f84 52 = .ok (.anewarray 7, 3) := by decide +kernel
theorem dJx4a65c_grow_92f84_55 : decode cJx4a65c_grow_92f84 55 = .ok (.dup_x1, 1) := by decide +kernel
theorem dJx4a65c_grow_92f84_56 : decode cJx4a65c_grow_92f84 56 = .ok (.putfield 9, 3) := by decide +kernel
theorem dJx4a65c_grow_92f84_59 : decode cJx4a65c_grow_92f84 59 = .ok (.areturn, 1) := by decide +kernel
theorem dJx4a65c_grow_d5877_0 : decode cJx4a65c_grow_d5877 0 = .ok (.aload_n 0, 1) := by decide +kernel
theorem dJx4a65c_grow_d5877_1 : decode cJx4a65c_grow_d5877 1 = .ok (.aload_n 0, 1) := by decide +kernel
theorem dJx4a65c_grow_d5877_2 : decode cJx4a65c_grow_d5877 2 = .ok (.getfield 48, 3) := by decide +kernel
theorem dJx4a65c_grow_d5877_5 : decode cJx4a65c_grow_d5877 5 = .ok (.iconst 1, 1) := by decide +kernel
theorem dJx4a65c_grow_d5877_6 : decode cJx4a65c_grow_d5877 6 = .ok (.iadd, 1) := by decide +kernel
theorem dJx4a65c_grow_d5877_7 : decode cJx4a65c_grow_d5877 7 = .ok (.invokevirtual 69, 3) := by decide +kernel
theorem dJx4a65c_grow_d5877_10 : decode cJx4a65c_grow_d5877 10 = .ok (.areturn, 1) := by decide +kernel
theorem dJx4a65c_size_8abf5_0 : decode cJx4a65c_size_8abf5 0 = .ok (.aload_n 0, 1) := by decide +kernel
theorem dJx4a65c_size_8abf5_1 : decode cJx4a65c_size_8abf5 1 = .ok (.getfield 48, 3) := by decide +kernel
theorem dJx4a65c_size_8abf5_4 : decode cJx4a65c_size_8abf5 4 = .ok (.ireturn, 1) := by decide +kernel
theorem dJx4a65c_elementData_915e3_0 : decode cJx4a65c_elementData_915e3 0 = .ok (.aload_n 0, 1) := by decide +kernel
theorem dJx4a65c_elementData_915e3_1 : decode cJx4a65c_elementData_915e3 1 = .ok (.getfield 9, 3) := by decide +kernel
theorem dJx4a65c_elementData_915e3_4 : decode cJx4a65c_elementData_915e3 4 = .ok (.iload_n 1, 1) := by decide +kernel
theorem dJx4a65c_elementData_915e3_5 : decode cJx4a65c_elementData_915e3 5 = .ok (.aaload, 1) := by decide +kernel
theorem dJx4a65c_elementData_915e3_6 : decode cJx4a65c_elementData_915e3 6 = .ok (.areturn, 1) := by decide +kernel
theorem dJx4a65c_get_915e3_0 : decode cJx4a65c_get_915e3 0 = .ok (.iload_n 1, 1) := by decide +kernel
theorem dJx4a65c_get_915e3_1 : decode cJx4a65c_get_915e3 1 = .ok (.aload_n 0, 1) := by decide +kernel
theorem dJx4a65c_get_915e3_2 : decode cJx4a65c_get_915e3 2 = .ok (.getfield 48, 3) := by decide +kernel
theorem dJx4a65c_get_915e3_5 : decode cJx4a65c_get_915e3 5 = .ok (.invokestatic 118, 3) := by decide +kernel
theorem dJx4a65c_get_915e3_8 : decode cJx4a65c_get_915e3 8 = .ok (.pop, 1) := by decide +kernel
theorem dJx4a65c_get_915e3_9 : decode cJx4a65c_get_915e3 9 = .ok (.aload_n 0, 1) := by decide +kernel
theorem dJx4a65c_get_915e3_10 : decode cJx4a65c_get_915e3 10 = .ok (.iload_n 1, 1) := by decide +kernel
theorem dJx4a65c_get_915e3_11 : decode cJx4a65c_get_915e3 11 = .ok (.invokevirtual 123, 3) := by decide +kernel
theorem dJx4a65c_get_915e3_14 : decode cJx4a65c_get_915e3 14 = .ok (.areturn, 1) := by decide +kernel
theorem dJx4a65c_add_72be8_0 : decode cJx4a65c_add_72be8 0 = .ok (.iload_n 3, 1) := by decide +kernel
theorem dJx4a65c_add_72be8_1 : decode cJx4a65c_add_72be8 1 = .ok (.aload_n 2, 1) := by decide +kernel
theorem dJx4a65c_add_72be8_2 : decode cJx4a65c_add_72be8 2 = .ok (.arraylength, 1) := by decide +kernel
theorem dJx4a65c_add_72be8_3 : decode cJx4a65c_add_72be8 3 = .ok (.if_icmp .ne 8, 3) := by decide +kernel
theorem dJx4a65c_add_72be8_6 : decode cJx4a65c_add_72be8 6 = .ok (.aload_n 0, 1) := by decide +kernel
theorem dJx4a65c_add_72be8_7 : decode cJx4a65c_add_72be8 7 = .ok (.invokevirtual 129, 3) := by decide +kernel
theorem dJx4a65c_add_72be8_10 : decode cJx4a65c_add_72be8 10 = .ok (.astore_n 2, 1) := by decide +kernel
theorem dJx4a65c_add_72be8_11 : decode cJx4a65c_add_72be8 11 = .ok (.aload_n 2, 1) := by decide +kernel
theorem dJx4a65c_add_72be8_12 : decode cJx4a65c_add_72be8 12 = .ok (.iload_n 3, 1) := by decide +kernel
theorem dJx4a65c_add_72be8_13 : decode cJx4a65c_add_72be8 13 = .ok (.aload_n 1, 1) := by decide +kernel
theorem dJx4a65c_add_72be8_14 : decode cJx4a65c_add_72be8 14 = .ok (.aastore, 1) := by decide +kernel
theorem dJx4a65c_add_72be8_15 : decode cJx4a65c_add_72be8 15 = .ok (.aload_n 0, 1) := by decide +kernel
theorem dJx4a65c_add_72be8_16 : decode cJx4a65c_add_72be8 16 = .ok (.iload_n 3, 1) := by decide +kernel
theorem dJx4a65c_add_72be8_17 : decode cJx4a65c_add_72be8 17 = .ok (.iconst 1, 1) := by decide +kernel
theorem dJx4a65c_add_72be8_18 : decode cJx4a65c_add_72be8 18 = .ok (.iadd, 1) := by decide +kernel
theorem dJx4a65c_add_72be8_19 : decode cJx4a65c_add_72be8 19 = .ok (.putfield 48, 3) := by decide +kernel
theorem dJx4a65c_add_72be8_22 : decode cJx4a65c_add_72be8 22 = .ok (.return_, 1) := by decide +kernel
theorem dJx4a65c_add_9ea2d_0 : decode cJx4a65c_add_9ea2d 0 = .ok (.aload_n 0, 1) := by decide +kernel
theorem dJx4a65c_add_9ea2d_1 : decode cJx4a65c_add_9ea2d 1 = .ok (.dup, 1) := by decide +kernel
theorem dJx4a65c_add_9ea2d_2 : decode cJx4a65c_add_9ea2d 2 = .ok (.getfield 63, 3) := by decide +kernel
theorem dJx4a65c_add_9ea2d_5 : decode cJx4a65c_add_9ea2d 5 = .ok (.iconst 1, 1) := by decide +kernel
theorem dJx4a65c_add_9ea2d_6 : decode cJx4a65c_add_9ea2d 6 = .ok (.iadd, 1) := by decide +kernel
theorem dJx4a65c_add_9ea2d_7 : decode cJx4a65c_add_9ea2d 7 = .ok (.putfield 63, 3) := by decide +kernel
theorem dJx4a65c_add_9ea2d_10 : decode cJx4a65c_add_9ea2d 10 = .ok (.aload_n 0, 1) := by decide +kernel
theorem dJx4a65c_add_9ea2d_11 : decode cJx4a65c_add_9ea2d 11 = .ok (.aload_n 1, 1) := by decide +kernel
theorem dJx4a65c_add_9ea2d_12 : decode cJx4a65c_add_9ea2d 12 = .ok (.aload_n 0, 1) := by decide +kernel
theorem dJx4a65c_add_9ea2d_13 : decode cJx4a65c_add_9ea2d 13 = .ok (.getfield 9, 3) := by decide +kernel
theorem dJx4a65c_add_9ea2d_16 : decode cJx4a65c_add_9ea2d 16 = .ok (.aload_n 0, 1) := by decide +kernel
theorem dJx4a65c_add_9ea2d_17 : decode cJx4a65c_add_9ea2d 17 = .ok (.getfield 48, 3) := by decide +kernel
theorem dJx4a65c_add_9ea2d_20 : decode cJx4a65c_add_9ea2d 20 = .ok (.invokevirtual 131, 3) := by decide +kernel
theorem dJx4a65c_add_9ea2d_23 : decode cJx4a65c_add_9ea2d 23 = .ok (.iconst 1, 1) := by decide +kernel
theorem dJx4a65c_add_9ea2d_24 : decode cJx4a65c_add_9ea2d 24 = .ok (.ireturn, 1) := by decide +kernel
theorem dJx4a65c_remove_915e3_0 : decode cJx4a65c_remove_915e3 0 = .ok (.iload_n 1, 1) := by decide +kernel
theorem dJx4a65c_remove_915e3_1 : decode cJx4a65c_remove_915e3 1 = .ok (.aload_n 0, 1) := by decide +kernel
theorem dJx4a65c_remove_915e3_2 : decode cJx4a65c_remove_915e3 2 = .ok (.getfield 48, 3) := by decide +kernel
theorem dJx4a65c_remove_915e3_5 : decode cJx4a65c_remove_915e3 5 = .ok (.invokestatic 118, 3) := by decide +kernel
theorem dJx4a65c_remove_915e3_8 : decode cJx4a65c_remove_915e3 8 = .ok (.pop, 1) := by decide +kernel
theorem dJx4a65c_remove_915e3_9 : decode cJx4a65c_remove_915e3 9 = .ok (.aload_n 0, 1) := by decide +kernel
theorem dJx4a65c_remove_915e3_10 : decode cJx4a65c_remove_915e3 10 = .ok (.getfield 9, 3) := by decide +kernel
theorem dJx4a65c_remove_915e3_13 : decode cJx4a65c_remove_915e3 13 = .ok (.astore_n 2, 1) := by decide +kernel
theorem dJx4a65c_remove_915e3_14 : decode cJx4a65c_remove_915e3 14 = .ok (.aload_n 2, 1) := by decide +kernel
theorem dJx4a65c_remove_915e3_15 : decode cJx4a65c_remove_915e3 15 = .ok (.iload_n 1, 1) := by decide +kernel
theorem dJx4a65c_remove_915e3_16 : decode cJx4a65c_remove_915e3 16 = .ok (.aaload, 1) := by decide +kernel
theorem dJx4a65c_remove_915e3_17 : decode cJx4a65c_remove_915e3 17 = .ok (.astore_n 3, 1) := by decide +kernel
theorem dJx4a65c_remove_915e3_18 : decode cJx4a65c_remove_915e3 18 = .ok (.aload_n 0, 1) := by decide +kernel
theorem dJx4a65c_remove_915e3_19 : decode cJx4a65c_remove_915e3 19 = .ok (.aload_n 2, 1) := by decide +kernel
theorem dJx4a65c_remove_915e3_20 : decode cJx4a65c_remove_915e3 20 = .ok (.iload_n 1, 1) := by decide +kernel
theorem dJx4a65c_remove_915e3_21 : decode cJx4a65c_remove_915e3 21 = .ok (.invokevirtual 144, 3) := by decide +kernel
theorem dJx4a65c_remove_915e3_24 : decode cJx4a65c_remove_915e3 24 = .ok (.aload_n 3, 1) := by decide +kernel
theorem dJx4a65c_remove_915e3_25 : decode cJx4a65c_remove_915e3 25 = .ok (.areturn, 1) := by decide +kernel
theorem dJx4a65c_fastRemove_b59b0_0 : decode cJx4a65c_fastRemove_b59b0 0 = .ok (.aload_n 0, 1) := by decide +kernel
theorem dJx4a65c_fastRemove_b59b0_1 : decode cJx4a65c_fastRemove_b59b0 1 = .ok (.dup, 1) := by decide +kernel
theorem dJx4a65c_fastRemove_b59b0_2 : decode cJx4a65c_fastRemove_b59b0 2 = .ok (.getfield 63, 3) := by decide +kernel
theorem dJx4a65c_fastRemove_b59b0_5 : decode cJx4a65c_fastRemove_b59b0 5 = .ok (.iconst 1, 1) := by decide +kernel
theorem dJx4a65c_fastRemove_b59b0_6 : decode cJx4a65c_fastRemove_b59b0 6 = .ok (.iadd, 1) := by decide +kernel
theorem dJx4a65c_fastRemove_b59b0_7 : decode cJx4a65c_fastRemove_b59b0 7 = .ok (.putfield 63, 3) := by decide +kernel
theorem dJx4a65c_fastRemove_b59b0_10 : decode cJx4a65c_fastRemove_b59b0 10 = .ok (.aload_n 0, 1) := by decide +kernel
theorem dJx4a65c_fastRemove_b59b0_11 : decode cJx4a65c_fastRemove_b59b0 11 = .ok (.getfield 48, 3) := by decide +kernel
theorem dJx4a65c_fastRemove_b59b0_14 : decode cJx4a65c_fastRemove_b59b0 14 = .ok (.iconst 1, 1) := by decide +kernel
theorem dJx4a65c_fastRemove_b59b0_15 : decode cJx4a65c_fastRemove_b59b0 15 = .ok (.isub, 1) := by decide +kernel
theorem dJx4a65c_fastRemove_b59b0_16 : decode cJx4a65c_fastRemove_b59b0 16 = .ok (.dup, 1) := by decide +kernel
theorem dJx4a65c_fastRemove_b59b0_17 : decode cJx4a65c_fastRemove_b59b0 17 = .ok (.istore_n 3, 1) := by decide +kernel
theorem dJx4a65c_fastRemove_b59b0_18 : decode cJx4a65c_fastRemove_b59b0 18 = .ok (.iload_n 2, 1) := by decide +kernel
theorem dJx4a65c_fastRemove_b59b0_19 : decode cJx4a65c_fastRemove_b59b0 19 = .ok (.if_icmp .le 15, 3) := by decide +kernel
theorem dJx4a65c_fastRemove_b59b0_22 : decode cJx4a65c_fastRemove_b59b0 22 = .ok (.aload_n 1, 1) := by decide +kernel
theorem dJx4a65c_fastRemove_b59b0_23 : decode cJx4a65c_fastRemove_b59b0 23 = .ok (.iload_n 2, 1) := by decide +kernel
theorem dJx4a65c_fastRemove_b59b0_24 : decode cJx4a65c_fastRemove_b59b0 24 = .ok (.iconst 1, 1) := by decide +kernel
theorem dJx4a65c_fastRemove_b59b0_25 : decode cJx4a65c_fastRemove_b59b0 25 = .ok (.iadd, 1) := by decide +kernel
theorem dJx4a65c_fastRemove_b59b0_26 : decode cJx4a65c_fastRemove_b59b0 26 = .ok (.aload_n 1, 1) := by decide +kernel
theorem dJx4a65c_fastRemove_b59b0_27 : decode cJx4a65c_fastRemove_b59b0 27 = .ok (.iload_n 2, 1) := by decide +kernel
theorem dJx4a65c_fastRemove_b59b0_28 : decode cJx4a65c_fastRemove_b59b0 28 = .ok (.iload_n 3, 1) := by decide +kernel
theorem dJx4a65c_fastRemove_b59b0_29 : decode cJx4a65c_fastRemove_b59b0 29 = .ok (.iload_n 2, 1) := by decide +kernel
theorem dJx4a65c_fastRemove_b59b0_30 : decode cJx4a65c_fastRemove_b59b0 30 = .ok (.isub, 1) := by decide +kernel
theorem dJx4a65c_fastRemove_b59b0_31 : decode cJx4a65c_fastRemove_b59b0 31 = .ok (.invokestatic 112, 3) := by decide +kernel
theorem dJx4a65c_fastRemove_b59b0_34 : decode cJx4a65c_fastRemove_b59b0 34 = .ok (.aload_n 1, 1) := by decide +kernel
theorem dJx4a65c_fastRemove_b59b0_35 : decode cJx4a65c_fastRemove_b59b0 35 = .ok (.aload_n 0, 1) := by decide +kernel
theorem dJx4a65c_fastRemove_b59b0_36 : decode cJx4a65c_fastRemove_b59b0 36 = .ok (.iload_n 3, 1) := by decide +kernel
theorem dJx4a65c_fastRemove_b59b0_37 : decode cJx4a65c_fastRemove_b59b0 37 = .ok (.dup_x1, 1) := by decide +kernel
theorem dJx4a65c_fastRemove_b59b0_38 : decode cJx4a65c_fastRemove_b59b0 38 = .ok (.putfield 48, 3) := by decide +kernel
theorem dJx4a65c_fastRemove_b59b0_41 : decode cJx4a65c_fastRemove_b59b0 41 = .ok (.aconst_null, 1) := by decide +kernel
theorem dJx4a65c_fastRemove_b59b0_42 : decode cJx4a65c_fastRemove_b59b0 42 = .ok (.aastore, 1) := by decide +kernel
theorem dJx4a65c_fastRemove_b59b0_43 : decode cJx4a65c_fastRemove_b59b0 43 = .ok (.return_, 1) := by decide +kernel
theorem dJxa1e45_init_da8c8_0 : decode cJxa1e45_init_da8c8 0 = .ok (.aload_n 0, 1) := by decide +kernel
theorem dJxa1e45_init_da8c8_1 : decode cJxa1e45_init_da8c8 1 = .ok (.invokespecial 1, 3) := by decide +kernel
theorem dJxa1e45_init_da8c8_4 : decode cJxa1e45_init_da8c8 4 = .ok (.return_, 1) := by decide +kernel
theorem dJxc12de_init_da8c8_0 : decode cJxc12de_init_da8c8 0 = .ok (.aload_n 0, 1) := by decide +kernel
theorem dJxc12de_init_da8c8_1 : decode cJxc12de_init_da8c8 1 = .ok (.invokespecial 1, 3) := by decide +kernel
theorem dJxc12de_init_da8c8_4 : decode cJxc12de_init_da8c8 4 = .ok (.aload_n 0, 1) := by decide +kernel
theorem dJxc12de_init_da8c8_5 : decode cJxc12de_init_da8c8 5 = .ok (.iconst 0, 1) := by decide +kernel
theorem dJxc12de_init_da8c8_6 : decode cJxc12de_init_da8c8 6 = .ok (.putfield 7, 3) := by decide +kernel
theorem dJxc12de_init_da8c8_9 : decode cJxc12de_init_da8c8 9 = .ok (.return_, 1) := by decide +kernel
end
section
/-- the reference's object and its arrays, where the law makes them -/
def MFix (K : Nat → Nat) (R : Nat → Nat → Option Nat) (Ln : Nat → Nat) : Prop := K 11 = 9 ∧ (R 578 11 = some 12 ∧ K 12 = 100 ∧ Ln 12 = 11) ∧ (R 579 11 = some 13 ∧ K 13 = 100 ∧ Ln 13 = 165) ∧ (R 580 11 = some 14 ∧ K 14 = 100 ∧ Ln 14 = 165) ∧ (R 581 11 = some 15 ∧ K 15 = 101 ∧ Ln 15 = 11) ∧ (R 583 11 = some 16 ∧ K 16 = 100 ∧ Ln 16 = 520) ∧ (R 584 11 = some 17 ∧ K 17 = 100 ∧ Ln 17 = 520) ∧ (R 585 11 = some 18 ∧ K 18 = 100 ∧ Ln 18 = 520) ∧ (R 586 11 = some 19 ∧ K 19 = 100 ∧ Ln 19 = 520) ∧ (R 587 11 = some 20 ∧ K 20 = 101 ∧ Ln 20 = 520) ∧ (R 588 11 = some 21 ∧ K 21 = 100 ∧ Ln 21 = 1560) ∧ (R 589 11 = some 22 ∧ K 22 = 100 ∧ Ln 22 = 520) ∧ (R 591 11 = some 23 ∧ K 23 = 100 ∧ Ln 23 = 520) ∧ (R 592 11 = some 24 ∧ K 24 = 100 ∧ Ln 24 = 520) ∧ (R 596 11 = some 25 ∧ K 25 = 100 ∧ Ln 25 = 60) ∧ (R 597 11 = some 26 ∧ K 26 = 100 ∧ Ln 26 = 60) ∧ (R 598 11 = some 27 ∧ K 27 = 100 ∧ Ln 27 = 1920) ∧ (R 599 11 = some 28 ∧ K 28 = 100 ∧ Ln 28 = 5760) ∧ (R 600 11 = some 29 ∧ K 29 = 100 ∧ Ln 29 = 3) ∧ (R 601 11 = some 30 ∧ K 30 = 100 ∧ Ln 30 = 16) ∧ (R 602 11 = some 31 ∧ K 31 = 100 ∧ Ln 31 = 32) ∧ (R 611 11 = some 32 ∧ K 32 = 100 ∧ Ln 32 = 520) ∧ (R 613 11 = some 33 ∧ K 33 = 101 ∧ Ln 33 = 520)
section MFIX
variable {K : Nat → Nat} {R : Nat → Nat → Option Nat} {Ln : Nat → Nat}
theorem MFix.m (h : MFix K R Ln) : K 11 = 9 := h.1
theorem MFix.R_nodes (h : MFix K R Ln) : R 578 11 = some 12 := h.2.1.1
theorem MFix.K_nodes (h : MFix K R Ln) : K 12 = 100 := h.2.1.2.1
theorem MFix.L_nodes (h : MFix K R Ln) : Ln 12 = 11 := h.2.1.2.2
theorem MFix.R_op (h : MFix K R Ln) : R 579 11 = some 13 := h.2.2.1.1
theorem MFix.K_op (h : MFix K R Ln) : K 13 = 100 := h.2.2.1.2.1
theorem MFix.L_op (h : MFix K R Ln) : Ln 13 = 165 := h.2.2.1.2.2
theorem MFix.R_with (h : MFix K R Ln) : R 580 11 = some 14 := h.2.2.2.1.1
theorem MFix.K_with (h : MFix K R Ln) : K 14 = 100 := h.2.2.2.1.2.1
theorem MFix.L_with (h : MFix K R Ln) : Ln 14 = 165 := h.2.2.2.1.2.2
theorem MFix.R_bool (h : MFix K R Ln) : R 581 11 = some 15 := h.2.2.2.2.1.1
theorem MFix.K_bool (h : MFix K R Ln) : K 15 = 101 := h.2.2.2.2.1.2.1
theorem MFix.L_bool (h : MFix K R Ln) : Ln 15 = 11 := h.2.2.2.2.1.2.2
theorem MFix.R_space (h : MFix K R Ln) : R 583 11 = some 16 := h.2.2.2.2.2.1.1
theorem MFix.K_space (h : MFix K R Ln) : K 16 = 100 := h.2.2.2.2.2.1.2.1
theorem MFix.L_space (h : MFix K R Ln) : Ln 16 = 520 := h.2.2.2.2.2.1.2.2
theorem MFix.R_value (h : MFix K R Ln) : R 584 11 = some 17 := h.2.2.2.2.2.2.1.1
theorem MFix.K_value (h : MFix K R Ln) : K 17 = 100 := h.2.2.2.2.2.2.1.2.1
theorem MFix.L_value (h : MFix K R Ln) : Ln 17 = 520 := h.2.2.2.2.2.2.1.2.2
theorem MFix.R_key (h : MFix K R Ln) : R 585 11 = some 18 := h.2.2.2.2.2.2.2.1.1
theorem MFix.K_key (h : MFix K R Ln) : K 18 = 100 := h.2.2.2.2.2.2.2.1.2.1
theorem MFix.L_key (h : MFix K R Ln) : Ln 18 = 520 := h.2.2.2.2.2.2.2.1.2.2
theorem MFix.R_stamp (h : MFix K R Ln) : R 586 11 = some 19 := h.2.2.2.2.2.2.2.2.1.1
theorem MFix.K_stamp (h : MFix K R Ln) : K 19 = 100 := h.2.2.2.2.2.2.2.2.1.2.1
theorem MFix.L_stamp (h : MFix K R Ln) : Ln 19 = 520 := h.2.2.2.2.2.2.2.2.1.2.2
theorem MFix.R_live (h : MFix K R Ln) : R 587 11 = some 20 := h.2.2.2.2.2.2.2.2.2.1.1
theorem MFix.K_live (h : MFix K R Ln) : K 20 = 101 := h.2.2.2.2.2.2.2.2.2.1.2.1
theorem MFix.L_live (h : MFix K R Ln) : Ln 20 = 520 := h.2.2.2.2.2.2.2.2.2.1.2.2
theorem MFix.R_fields (h : MFix K R Ln) : R 588 11 = some 21 := h.2.2.2.2.2.2.2.2.2.2.1.1
theorem MFix.K_fields (h : MFix K R Ln) : K 21 = 100 := h.2.2.2.2.2.2.2.2.2.2.1.2.1
theorem MFix.L_fields (h : MFix K R Ln) : Ln 21 = 1560 := h.2.2.2.2.2.2.2.2.2.2.1.2.2
theorem MFix.R_file (h : MFix K R Ln) : R 589 11 = some 22 := h.2.2.2.2.2.2.2.2.2.2.2.1.1
theorem MFix.K_file (h : MFix K R Ln) : K 22 = 100 := h.2.2.2.2.2.2.2.2.2.2.2.1.2.1
theorem MFix.L_file (h : MFix K R Ln) : Ln 22 = 520 := h.2.2.2.2.2.2.2.2.2.2.2.1.2.2
theorem MFix.R_number (h : MFix K R Ln) : R 591 11 = some 23 := h.2.2.2.2.2.2.2.2.2.2.2.2.1.1
theorem MFix.K_number (h : MFix K R Ln) : K 23 = 100 := h.2.2.2.2.2.2.2.2.2.2.2.2.1.2.1
theorem MFix.L_number (h : MFix K R Ln) : Ln 23 = 520 := h.2.2.2.2.2.2.2.2.2.2.2.2.1.2.2
theorem MFix.R_level (h : MFix K R Ln) : R 592 11 = some 24 := h.2.2.2.2.2.2.2.2.2.2.2.2.2.1.1
theorem MFix.K_level (h : MFix K R Ln) : K 24 = 100 := h.2.2.2.2.2.2.2.2.2.2.2.2.2.1.2.1
theorem MFix.L_level (h : MFix K R Ln) : Ln 24 = 520 := h.2.2.2.2.2.2.2.2.2.2.2.2.2.1.2.2
theorem MFix.R_state (h : MFix K R Ln) : R 596 11 = some 25 := h.2.2.2.2.2.2.2.2.2.2.2.2.2.2.1.1
theorem MFix.K_state (h : MFix K R Ln) : K 25 = 100 := h.2.2.2.2.2.2.2.2.2.2.2.2.2.2.1.2.1
theorem MFix.L_state (h : MFix K R Ln) : Ln 25 = 60 := h.2.2.2.2.2.2.2.2.2.2.2.2.2.2.1.2.2
theorem MFix.R_began (h : MFix K R Ln) : R 597 11 = some 26 := h.2.2.2.2.2.2.2.2.2.2.2.2.2.2.2.1.1
theorem MFix.K_began (h : MFix K R Ln) : K 26 = 100 := h.2.2.2.2.2.2.2.2.2.2.2.2.2.2.2.1.2.1
theorem MFix.L_began (h : MFix K R Ln) : Ln 26 = 60 := h.2.2.2.2.2.2.2.2.2.2.2.2.2.2.2.1.2.2
theorem MFix.R_writes (h : MFix K R Ln) : R 598 11 = some 27 := h.2.2.2.2.2.2.2.2.2.2.2.2.2.2.2.2.1.1
theorem MFix.K_writes (h : MFix K R Ln) : K 27 = 100 := h.2.2.2.2.2.2.2.2.2.2.2.2.2.2.2.2.1.2.1
theorem MFix.L_writes (h : MFix K R Ln) : Ln 27 = 1920 := h.2.2.2.2.2.2.2.2.2.2.2.2.2.2.2.2.1.2.2
theorem MFix.R_rows (h : MFix K R Ln) : R 599 11 = some 28 := h.2.2.2.2.2.2.2.2.2.2.2.2.2.2.2.2.2.1.1
theorem MFix.K_rows (h : MFix K R Ln) : K 28 = 100 := h.2.2.2.2.2.2.2.2.2.2.2.2.2.2.2.2.2.1.2.1
theorem MFix.L_rows (h : MFix K R Ln) : Ln 28 = 5760 := h.2.2.2.2.2.2.2.2.2.2.2.2.2.2.2.2.2.1.2.2
theorem MFix.R_row (h : MFix K R Ln) : R 600 11 = some 29 := h.2.2.2.2.2.2.2.2.2.2.2.2.2.2.2.2.2.2.1.1
theorem MFix.K_row (h : MFix K R Ln) : K 29 = 100 := h.2.2.2.2.2.2.2.2.2.2.2.2.2.2.2.2.2.2.1.2.1
theorem MFix.L_row (h : MFix K R Ln) : Ln 29 = 3 := h.2.2.2.2.2.2.2.2.2.2.2.2.2.2.2.2.2.2.1.2.2
theorem MFix.R_numbers (h : MFix K R Ln) : R 601 11 = some 30 := h.2.2.2.2.2.2.2.2.2.2.2.2.2.2.2.2.2.2.2.1.1
theorem MFix.K_numbers (h : MFix K R Ln) : K 30 = 100 := h.2.2.2.2.2.2.2.2.2.2.2.2.2.2.2.2.2.2.2.1.2.1
theorem MFix.L_numbers (h : MFix K R Ln) : Ln 30 = 16 := h.2.2.2.2.2.2.2.2.2.2.2.2.2.2.2.2.2.2.2.1.2.2
theorem MFix.R_results (h : MFix K R Ln) : R 602 11 = some 31 := h.2.2.2.2.2.2.2.2.2.2.2.2.2.2.2.2.2.2.2.2.1.1
theorem MFix.K_results (h : MFix K R Ln) : K 31 = 100 := h.2.2.2.2.2.2.2.2.2.2.2.2.2.2.2.2.2.2.2.2.1.2.1
theorem MFix.L_results (h : MFix K R Ln) : Ln 31 = 32 := h.2.2.2.2.2.2.2.2.2.2.2.2.2.2.2.2.2.2.2.2.1.2.2
theorem MFix.R_order (h : MFix K R Ln) : R 611 11 = some 32 := h.2.2.2.2.2.2.2.2.2.2.2.2.2.2.2.2.2.2.2.2.2.1.1
theorem MFix.K_order (h : MFix K R Ln) : K 32 = 100 := h.2.2.2.2.2.2.2.2.2.2.2.2.2.2.2.2.2.2.2.2.2.1.2.1
theorem MFix.L_order (h : MFix K R Ln) : Ln 32 = 520 := h.2.2.2.2.2.2.2.2.2.2.2.2.2.2.2.2.2.2.2.2.2.1.2.2
theorem MFix.R_taken (h : MFix K R Ln) : R 613 11 = some 33 := h.2.2.2.2.2.2.2.2.2.2.2.2.2.2.2.2.2.2.2.2.2.2.1
theorem MFix.K_taken (h : MFix K R Ln) : K 33 = 101 := h.2.2.2.2.2.2.2.2.2.2.2.2.2.2.2.2.2.2.2.2.2.2.2.1
theorem MFix.L_taken (h : MFix K R Ln) : Ln 33 = 520 := h.2.2.2.2.2.2.2.2.2.2.2.2.2.2.2.2.2.2.2.2.2.2.2.2
end MFIX
end
section
section M1
variable {X : CX} {d : Nat} {K : Nat → Nat} {I : Nat → Nat → Int32} {J : Nat → Nat → Int64} {R : Nat → Nat → Option Nat} {A : Nat → Nat → Int32} {B : Nat → Nat → Option Nat} {Ln : Nat → Nat} {n sl : Nat}
theorem sp_isKey {k : Int32} {G : GH} : EvM X mX9_isKey d [iV k] G (fun r G' => r = some (iV (if 0 ≤ k ∧ k ≤ 31 then 1 else 0)) ∧ G' = G) := by
  show Ev X mX9_isKey d 0 [some (iV k)] [] G _
  refine ev_iload_n dX9_isKey_0 rfl ?_
  refine ev_if_lt 14 dX9_isKey_1 (by decide) (fun c1 => ?_) (fun c1 => ?_)
  · refine ev_iconstN 0 dX9_isKey_14 (by decide) ?_
    refine ev_zreturn dX9_isKey_15 rfl (by decide) ?_
    first | exact ⟨by rw [if_neg (by intro h; first | exact absurd h.1 (Int32.not_le.mpr c1) | exact absurd h.2 (Int32.not_le.mpr c7))]; rfl, rfl⟩ | exact ⟨by rw [if_pos ⟨Int32.not_lt.mp c1, Int32.not_lt.mp c7⟩]; rfl, rfl⟩
  · refine ev_iload_n dX9_isKey_4 rfl ?_
    refine ev_bipushN 31 dX9_isKey_5 (by decide) ?_
    refine ev_icmp_gt 14 dX9_isKey_7 (by decide) (fun c7 => ?_) (fun c7 => ?_)
    · refine ev_iconstN 0 dX9_isKey_14 (by decide) ?_
      refine ev_zreturn dX9_isKey_15 rfl (by decide) ?_
      first | exact ⟨by rw [if_neg (by intro h; first | exact absurd h.1 (Int32.not_le.mpr c1) | exact absurd h.2 (Int32.not_le.mpr c7))]; rfl, rfl⟩ | exact ⟨by rw [if_pos ⟨Int32.not_lt.mp c1, Int32.not_lt.mp c7⟩]; rfl, rfl⟩
    · refine ev_iconstN 1 dX9_isKey_10 (by decide) ?_
      refine ev_goto 15 dX9_isKey_11 (by decide) ?_
      refine ev_zreturn dX9_isKey_15 rfl (by decide) ?_
      first | exact ⟨by rw [if_neg (by intro h; first | exact absurd h.1 (Int32.not_le.mpr c1) | exact absurd h.2 (Int32.not_le.mpr c7))]; rfl, rfl⟩ | exact ⟨by rw [if_pos ⟨Int32.not_lt.mp c1, Int32.not_lt.mp c7⟩]; rfl, rfl⟩
/-- the entry that the reference's 'seen' finds among the first e -/
def seenN (A : Nat → Nat → Int32) (s v k t : Int32) : Nat → Option Nat
  | 0 => none
  | e + 1 => if A 16 e = s ∧ A 17 e = v ∧ A 18 e = k ∧ A 19 e ≤ t ∧ (∀ b, seenN A s v k t e = some b → A 19 b < A 19 e) then some e else seenN A s v k t e
def oI : Option Nat → Int32
  | none => -1
  | some e => nI e
theorem seenN_lt {s v k t : Int32} : ∀ {e b : Nat}, seenN A s v k t e = some b → b < e
  | 0, b, h => by cases h
  | e + 1, b, h => by
    unfold seenN at h
    split at h
    · cases h; omega
    · have := seenN_lt h; omega

theorem seenN_no {s v k t : Int32} {e : Nat} (h : ¬ (A 16 e = s ∧ A 17 e = v ∧ A 18 e = k ∧ A 19 e ≤ t ∧ (∀ b, seenN A s v k t e = some b → A 19 b < A 19 e))) : seenN A s v k t e = seenN A s v k t (e + 1) := by
  rw [seenN.eq_2, if_neg h]
theorem seenN_yes {s v k t : Int32} {e : Nat} (h : A 16 e = s ∧ A 17 e = v ∧ A 18 e = k ∧ A 19 e ≤ t ∧ (∀ b, seenN A s v k t e = some b → A 19 b < A 19 e)) : some e = seenN A s v k t (e + 1) := by
  rw [seenN.eq_2, if_pos h]
set_option maxRecDepth 100000 in
set_option maxHeartbeats 4000000 in
theorem lp_seen {Q : Option LV → GH → Prop} (hM : MFix K R Ln) {many : Nat} (hm : I 582 11 = nI many) (hb : many ≤ 520) {s v k t : Int32} (hq : Q (some (iV (oI (seenN A s v k t many)))) (K, I, J, R, A, B, Ln, n, sl)) : ∀ (f e : Nat), e + f = many → Ev X mX9_seen d 6 [some (rV (some 11)), some (iV s), some (iV v), some (iV k), some (iV t), some (iV (oI (seenN A s v k t e))), some (iV (nI e))] [] (K, I, J, R, A, B, Ln, n, sl) Q := by
  intro f
  induction f with
  | zero =>
    intro e he
    refine ev_iload dX9_seen_6 rfl ?_
    refine ev_aload_n dX9_seen_8 rfl ?_
    refine ev_getIv dX9_seen_9 fX9_106 hM.m hm ?_
    refine ev_icmp_geN 92 dX9_seen_12 (by decide) (by omega) (by omega) (fun c12 => ?_) (fun c12 => absurd c12 (by omega))
    refine ev_iload dX9_seen_92 rfl ?_
    refine ev_ireturn dX9_seen_94 rfl ?_
    rw [show e = many by omega]; exact hq
  | succ f ih =>
    intro e he
    have kont : ∀ z : Int32, z = oI (seenN A s v k t (e + 1)) → Ev X mX9_seen d 86 [some (rV (some 11)), some (iV s), some (iV v), some (iV k), some (iV t), some (iV z), some (iV (nI e))] [] (K, I, J, R, A, B, Ln, n, sl) Q := by
      intro z hz
      subst hz
      refine ev_iincN (b := 1) _ dX9_seen_86 rfl (by decide) (by decide) rfl ?_
      refine ev_goto 6 dX9_seen_89 (by decide) ?_
      exact ih (e + 1) (by omega)
    cases ho : seenN A s v k t e with
    | none =>
      refine ev_iload dX9_seen_6 rfl ?_
      refine ev_aload_n dX9_seen_8 rfl ?_
      refine ev_getIv dX9_seen_9 fX9_106 hM.m hm ?_
      refine ev_icmp_geN 92 dX9_seen_12 (by decide) (by omega) (by omega) (fun c12 => absurd c12 (by omega)) (fun c12 => ?_)
      refine ev_aload_n dX9_seen_15 rfl ?_
      refine ev_getR dX9_seen_16 fX9_23 hM.m hM.R_space ?_
      refine ev_iload dX9_seen_19 rfl ?_
      refine ev_iald dX9_seen_21 hM.K_space hM.L_space (by decide) (by omega) ?_
      refine ev_iload_n dX9_seen_22 rfl ?_
      refine ev_icmp_ne 86 dX9_seen_23 (by decide) (fun c23 => ?_) (fun c23 => ?_)
      · first | exact kont _ (by rw [← seenN_no (A := A) (s := s) (v := v) (k := k) (t := t) (e := e) (fun h => by obtain ⟨h1, h2, h3, h4, h5⟩ := h; first | exact c23 h1 | exact c34 h2 | exact c45 h3 | exact absurd h4 (Int32.not_le.mpr c57)), ho]) | exact kont _ (by rw [← seenN_yes (A := A) (s := s) (v := v) (k := k) (t := t) (e := e) ⟨c23, c34, c45, Int32.not_lt.mp c57, fun b hb => by rw [ho] at hb; cases hb⟩]; rfl)
      · refine ev_aload_n dX9_seen_26 rfl ?_
        refine ev_getR dX9_seen_27 fX9_26 hM.m hM.R_value ?_
        refine ev_iload dX9_seen_30 rfl ?_
        refine ev_iald dX9_seen_32 hM.K_value hM.L_value (by decide) (by omega) ?_
        refine ev_iload_n dX9_seen_33 rfl ?_
        refine ev_icmp_ne 86 dX9_seen_34 (by decide) (fun c34 => ?_) (fun c34 => ?_)
        · first | exact kont _ (by rw [← seenN_no (A := A) (s := s) (v := v) (k := k) (t := t) (e := e) (fun h => by obtain ⟨h1, h2, h3, h4, h5⟩ := h; first | exact c23 h1 | exact c34 h2 | exact c45 h3 | exact absurd h4 (Int32.not_le.mpr c57)), ho]) | exact kont _ (by rw [← seenN_yes (A := A) (s := s) (v := v) (k := k) (t := t) (e := e) ⟨c23, c34, c45, Int32.not_lt.mp c57, fun b hb => by rw [ho] at hb; cases hb⟩]; rfl)
        · refine ev_aload_n dX9_seen_37 rfl ?_
          refine ev_getR dX9_seen_38 fX9_29 hM.m hM.R_key ?_
          refine ev_iload dX9_seen_41 rfl ?_
          refine ev_iald dX9_seen_43 hM.K_key hM.L_key (by decide) (by omega) ?_
          refine ev_iload_n dX9_seen_44 rfl ?_
          refine ev_icmp_ne 86 dX9_seen_45 (by decide) (fun c45 => ?_) (fun c45 => ?_)
          · first | exact kont _ (by rw [← seenN_no (A := A) (s := s) (v := v) (k := k) (t := t) (e := e) (fun h => by obtain ⟨h1, h2, h3, h4, h5⟩ := h; first | exact c23 h1 | exact c34 h2 | exact c45 h3 | exact absurd h4 (Int32.not_le.mpr c57)), ho]) | exact kont _ (by rw [← seenN_yes (A := A) (s := s) (v := v) (k := k) (t := t) (e := e) ⟨c23, c34, c45, Int32.not_lt.mp c57, fun b hb => by rw [ho] at hb; cases hb⟩]; rfl)
          · refine ev_aload_n dX9_seen_48 rfl ?_
            refine ev_getR dX9_seen_49 fX9_32 hM.m hM.R_stamp ?_
            refine ev_iload dX9_seen_52 rfl ?_
            refine ev_iald dX9_seen_54 hM.K_stamp hM.L_stamp (by decide) (by omega) ?_
            refine ev_iload dX9_seen_55 rfl ?_
            refine ev_icmp_gt 86 dX9_seen_57 (by decide) (fun c57 => ?_) (fun c57 => ?_)
            · first | exact kont _ (by rw [← seenN_no (A := A) (s := s) (v := v) (k := k) (t := t) (e := e) (fun h => by obtain ⟨h1, h2, h3, h4, h5⟩ := h; first | exact c23 h1 | exact c34 h2 | exact c45 h3 | exact absurd h4 (Int32.not_le.mpr c57)), ho]) | exact kont _ (by rw [← seenN_yes (A := A) (s := s) (v := v) (k := k) (t := t) (e := e) ⟨c23, c34, c45, Int32.not_lt.mp c57, fun b hb => by rw [ho] at hb; cases hb⟩]; rfl)
            · refine ev_iload dX9_seen_60 rfl ?_
              refine ev_if_lt 82 dX9_seen_62 (by decide) (fun c62 => ?_) (fun c62 => absurd c62 (by decide))
              refine ev_iload dX9_seen_82 rfl ?_
              refine ev_istore _ dX9_seen_84 (by decide) rfl ?_
              first | exact kont _ (by rw [← seenN_no (A := A) (s := s) (v := v) (k := k) (t := t) (e := e) (fun h => by obtain ⟨h1, h2, h3, h4, h5⟩ := h; first | exact c23 h1 | exact c34 h2 | exact c45 h3 | exact absurd h4 (Int32.not_le.mpr c57)), ho]) | exact kont _ (by rw [← seenN_yes (A := A) (s := s) (v := v) (k := k) (t := t) (e := e) ⟨c23, c34, c45, Int32.not_lt.mp c57, fun b hb => by rw [ho] at hb; cases hb⟩]; rfl)
    | some b0 =>
      have hb0 : b0 < e := seenN_lt ho
      show Ev X mX9_seen d 6 [some (rV (some 11)), some (iV s), some (iV v), some (iV k), some (iV t), some (iV (nI b0)), some (iV (nI e))] [] (K, I, J, R, A, B, Ln, n, sl) Q
      refine ev_iload dX9_seen_6 rfl ?_
      refine ev_aload_n dX9_seen_8 rfl ?_
      refine ev_getIv dX9_seen_9 fX9_106 hM.m hm ?_
      refine ev_icmp_geN 92 dX9_seen_12 (by decide) (by omega) (by omega) (fun c12 => absurd c12 (by omega)) (fun c12 => ?_)
      refine ev_aload_n dX9_seen_15 rfl ?_
      refine ev_getR dX9_seen_16 fX9_23 hM.m hM.R_space ?_
      refine ev_iload dX9_seen_19 rfl ?_
      refine ev_iald dX9_seen_21 hM.K_space hM.L_space (by decide) (by omega) ?_
      refine ev_iload_n dX9_seen_22 rfl ?_
      refine ev_icmp_ne 86 dX9_seen_23 (by decide) (fun c23 => ?_) (fun c23 => ?_)
      · first | exact kont _ (by rw [← seenN_no (A := A) (s := s) (v := v) (k := k) (t := t) (e := e) (fun h => by obtain ⟨h1, h2, h3, h4, h5⟩ := h; first | exact c23 h1 | exact c34 h2 | exact c45 h3 | exact absurd h4 (Int32.not_le.mpr c57) | exact absurd (h5 _ ho) (Int32.not_lt.mpr c79)), ho]; rfl) | exact kont _ (by rw [← seenN_yes (A := A) (s := s) (v := v) (k := k) (t := t) (e := e) ⟨c23, c34, c45, Int32.not_lt.mp c57, fun b hb => by rw [ho] at hb; cases hb; exact Int32.not_le.mp c79⟩]; rfl)
      · refine ev_aload_n dX9_seen_26 rfl ?_
        refine ev_getR dX9_seen_27 fX9_26 hM.m hM.R_value ?_
        refine ev_iload dX9_seen_30 rfl ?_
        refine ev_iald dX9_seen_32 hM.K_value hM.L_value (by decide) (by omega) ?_
        refine ev_iload_n dX9_seen_33 rfl ?_
        refine ev_icmp_ne 86 dX9_seen_34 (by decide) (fun c34 => ?_) (fun c34 => ?_)
        · first | exact kont _ (by rw [← seenN_no (A := A) (s := s) (v := v) (k := k) (t := t) (e := e) (fun h => by obtain ⟨h1, h2, h3, h4, h5⟩ := h; first | exact c23 h1 | exact c34 h2 | exact c45 h3 | exact absurd h4 (Int32.not_le.mpr c57) | exact absurd (h5 _ ho) (Int32.not_lt.mpr c79)), ho]; rfl) | exact kont _ (by rw [← seenN_yes (A := A) (s := s) (v := v) (k := k) (t := t) (e := e) ⟨c23, c34, c45, Int32.not_lt.mp c57, fun b hb => by rw [ho] at hb; cases hb; exact Int32.not_le.mp c79⟩]; rfl)
        · refine ev_aload_n dX9_seen_37 rfl ?_
          refine ev_getR dX9_seen_38 fX9_29 hM.m hM.R_key ?_
          refine ev_iload dX9_seen_41 rfl ?_
          refine ev_iald dX9_seen_43 hM.K_key hM.L_key (by decide) (by omega) ?_
          refine ev_iload_n dX9_seen_44 rfl ?_
          refine ev_icmp_ne 86 dX9_seen_45 (by decide) (fun c45 => ?_) (fun c45 => ?_)
          · first | exact kont _ (by rw [← seenN_no (A := A) (s := s) (v := v) (k := k) (t := t) (e := e) (fun h => by obtain ⟨h1, h2, h3, h4, h5⟩ := h; first | exact c23 h1 | exact c34 h2 | exact c45 h3 | exact absurd h4 (Int32.not_le.mpr c57) | exact absurd (h5 _ ho) (Int32.not_lt.mpr c79)), ho]; rfl) | exact kont _ (by rw [← seenN_yes (A := A) (s := s) (v := v) (k := k) (t := t) (e := e) ⟨c23, c34, c45, Int32.not_lt.mp c57, fun b hb => by rw [ho] at hb; cases hb; exact Int32.not_le.mp c79⟩]; rfl)
          · refine ev_aload_n dX9_seen_48 rfl ?_
            refine ev_getR dX9_seen_49 fX9_32 hM.m hM.R_stamp ?_
            refine ev_iload dX9_seen_52 rfl ?_
            refine ev_iald dX9_seen_54 hM.K_stamp hM.L_stamp (by decide) (by omega) ?_
            refine ev_iload dX9_seen_55 rfl ?_
            refine ev_icmp_gt 86 dX9_seen_57 (by decide) (fun c57 => ?_) (fun c57 => ?_)
            · first | exact kont _ (by rw [← seenN_no (A := A) (s := s) (v := v) (k := k) (t := t) (e := e) (fun h => by obtain ⟨h1, h2, h3, h4, h5⟩ := h; first | exact c23 h1 | exact c34 h2 | exact c45 h3 | exact absurd h4 (Int32.not_le.mpr c57) | exact absurd (h5 _ ho) (Int32.not_lt.mpr c79)), ho]; rfl) | exact kont _ (by rw [← seenN_yes (A := A) (s := s) (v := v) (k := k) (t := t) (e := e) ⟨c23, c34, c45, Int32.not_lt.mp c57, fun b hb => by rw [ho] at hb; cases hb; exact Int32.not_le.mp c79⟩]; rfl)
            · refine ev_iload dX9_seen_60 rfl ?_
              refine ev_if_ltN 82 dX9_seen_62 (by decide) (by omega) ?_
              refine ev_aload_n dX9_seen_65 rfl ?_
              refine ev_getR dX9_seen_66 fX9_32 hM.m hM.R_stamp ?_
              refine ev_iload dX9_seen_69 rfl ?_
              refine ev_iald dX9_seen_71 hM.K_stamp hM.L_stamp (by decide) (by omega) ?_
              refine ev_aload_n dX9_seen_72 rfl ?_
              refine ev_getR dX9_seen_73 fX9_32 hM.m hM.R_stamp ?_
              refine ev_iload dX9_seen_76 rfl ?_
              refine ev_iald dX9_seen_78 hM.K_stamp hM.L_stamp (by decide) (by omega) ?_
              refine ev_icmp_le 86 dX9_seen_79 (by decide) (fun c79 => ?_) (fun c79 => ?_)
              · first | exact kont _ (by rw [← seenN_no (A := A) (s := s) (v := v) (k := k) (t := t) (e := e) (fun h => by obtain ⟨h1, h2, h3, h4, h5⟩ := h; first | exact c23 h1 | exact c34 h2 | exact c45 h3 | exact absurd h4 (Int32.not_le.mpr c57) | exact absurd (h5 _ ho) (Int32.not_lt.mpr c79)), ho]; rfl) | exact kont _ (by rw [← seenN_yes (A := A) (s := s) (v := v) (k := k) (t := t) (e := e) ⟨c23, c34, c45, Int32.not_lt.mp c57, fun b hb => by rw [ho] at hb; cases hb; exact Int32.not_le.mp c79⟩]; rfl)
              · refine ev_iload dX9_seen_82 rfl ?_
                refine ev_istore _ dX9_seen_84 (by decide) rfl ?_
                first | exact kont _ (by rw [← seenN_no (A := A) (s := s) (v := v) (k := k) (t := t) (e := e) (fun h => by obtain ⟨h1, h2, h3, h4, h5⟩ := h; first | exact c23 h1 | exact c34 h2 | exact c45 h3 | exact absurd h4 (Int32.not_le.mpr c57) | exact absurd (h5 _ ho) (Int32.not_lt.mpr c79)), ho]; rfl) | exact kont _ (by rw [← seenN_yes (A := A) (s := s) (v := v) (k := k) (t := t) (e := e) ⟨c23, c34, c45, Int32.not_lt.mp c57, fun b hb => by rw [ho] at hb; cases hb; exact Int32.not_le.mp c79⟩]; rfl)

end M1
end
section
section M2
variable {X : CX} {d : Nat} {K : Nat → Nat} {I : Nat → Nat → Int32} {J : Nat → Nat → Int64} {R : Nat → Nat → Option Nat} {A : Nat → Nat → Int32} {B : Nat → Nat → Option Nat} {Ln : Nat → Nat} {n sl : Nat}
def isNmN (m : Nat) : Prop := m ≤ 19682 ∧ (m / 729 ≠ 0 ∨ m / 27 % 27 = 0) ∧ (m / 27 % 27 ≠ 0 ∨ m % 27 = 0)
def nmB (x : Int32) : Int32 := if ¬ x < 0 ∧ (x.toNatClampNeg ≤ 19682 ∧ (x.toNatClampNeg / 729 ≠ 0 ∨ x.toNatClampNeg / 27 % 27 = 0) ∧ (x.toNatClampNeg / 27 % 27 ≠ 0 ∨ x.toNatClampNeg % 27 = 0)) then 1 else 0
theorem nmB_neg {x : Int32} (h : x < 0) : nmB x = 0 := if_neg (fun z => z.1 h)
theorem nmB_yes {m : Nat} (hm : m < 2147483648) (h : isNmN m) : nmB (nI m) = 1 := by
  unfold nmB
  rw [nI_clamp hm]
  exact if_pos ⟨nI_pos hm, h⟩
theorem nmB_no {m : Nat} (hm : m < 2147483648) (h : ¬ isNmN m) : nmB (nI m) = 0 := by
  unfold nmB
  rw [nI_clamp hm]
  exact if_neg (fun z => h z.2)
theorem nmB_01 (x : Int32) : nmB x = 0 ∨ nmB x = 1 := by
  unfold nmB
  split
  · exact Or.inr rfl
  · exact Or.inl rfl
set_option maxRecDepth 100000 in
set_option maxHeartbeats 4000000 in
theorem sp_isName {x : Int32} {G : GH} : EvM X mX9_isName d [iV x] G (fun r G' => r = some (iV (nmB x)) ∧ G' = G) := by
  show Ev X mX9_isName d 0 [some (iV x), none, none, none] [] G _
  by_cases hn : x < 0
  · refine ev_iload_n dX9_isName_0 rfl ?_
    refine ev_sipushN 729 dX9_isName_1 (by decide) ?_
    refine ev_idiv (y := 729) dX9_isName_4 (by decide) ?_
    refine ev_istore_n _ dX9_isName_5 (by decide) rfl ?_
    refine ev_iload_n dX9_isName_6 rfl ?_
    refine ev_bipushN 27 dX9_isName_7 (by decide) ?_
    refine ev_idiv (y := 27) dX9_isName_9 (by decide) ?_
    refine ev_bipushN 27 dX9_isName_10 (by decide) ?_
    refine ev_irem (y := 27) dX9_isName_12 (by decide) ?_
    refine ev_istore_n _ dX9_isName_13 (by decide) rfl ?_
    refine ev_iload_n dX9_isName_14 rfl ?_
    refine ev_bipushN 27 dX9_isName_15 (by decide) ?_
    refine ev_irem (y := 27) dX9_isName_17 (by decide) ?_
    refine ev_istore_n _ dX9_isName_18 (by decide) rfl ?_
    refine ev_iload_n dX9_isName_19 rfl ?_
    refine ev_if_lt 54 dX9_isName_20 (by decide) (fun c20 => ?_) (fun c20 => absurd hn c20)
    refine ev_iconstN 0 dX9_isName_54 (by decide) ?_
    refine ev_zreturn dX9_isName_55 rfl (by decide) ?_
    exact ⟨by rw [nmB_neg hn]; rfl, rfl⟩
  · obtain ⟨m, hm, rfl⟩ := nI_of hn
    refine ev_iload_n dX9_isName_0 rfl ?_
    refine ev_sipushN 729 dX9_isName_1 (by decide) ?_
    refine ev_idivN dX9_isName_4 (by omega) (by omega) (by omega) ?_
    refine ev_istore_n _ dX9_isName_5 (by decide) rfl ?_
    refine ev_iload_n dX9_isName_6 rfl ?_
    refine ev_bipushN 27 dX9_isName_7 (by decide) ?_
    refine ev_idivN dX9_isName_9 (by omega) (by omega) (by omega) ?_
    refine ev_bipushN 27 dX9_isName_10 (by decide) ?_
    refine ev_iremN dX9_isName_12 (by omega) (by omega) (by omega) ?_
    refine ev_istore_n _ dX9_isName_13 (by decide) rfl ?_
    refine ev_iload_n dX9_isName_14 rfl ?_
    refine ev_bipushN 27 dX9_isName_15 (by decide) ?_
    refine ev_iremN dX9_isName_17 (by omega) (by omega) (by omega) ?_
    refine ev_istore_n _ dX9_isName_18 (by decide) rfl ?_
    refine ev_iload_n dX9_isName_19 rfl ?_
    refine ev_if_ltN 54 dX9_isName_20 (by decide) (by omega) ?_
    refine ev_iload_n dX9_isName_23 rfl ?_
    refine ev_sipushN 19682 dX9_isName_24 (by decide) ?_
    refine ev_icmp_gtN 54 dX9_isName_27 (by decide) (by omega) (by omega) (fun c27 => ?_) (fun c27 => ?_)
    · refine ev_iconstN 0 dX9_isName_54 (by decide) ?_
      refine ev_zreturn dX9_isName_55 rfl (by decide) ?_
      first | exact ⟨by rw [nmB_yes hm (by unfold isNmN; omega)]; rfl, rfl⟩ | exact ⟨by rw [nmB_no hm (by unfold isNmN; omega)]; rfl, rfl⟩
    · refine ev_iload_n dX9_isName_30 rfl ?_
      refine ev_if_gtN 42 dX9_isName_31 (by decide) (by omega) (fun c31 => ?_) (fun c31 => ?_)
      · refine ev_iload_n dX9_isName_42 rfl ?_
        refine ev_if_gtN 50 dX9_isName_43 (by decide) (by omega) (fun c43 => ?_) (fun c43 => ?_)
        · refine ev_iconstN 1 dX9_isName_50 (by decide) ?_
          refine ev_goto 55 dX9_isName_51 (by decide) ?_
          refine ev_zreturn dX9_isName_55 rfl (by decide) ?_
          first | exact ⟨by rw [nmB_yes hm (by unfold isNmN; omega)]; rfl, rfl⟩ | exact ⟨by rw [nmB_no hm (by unfold isNmN; omega)]; rfl, rfl⟩
        · refine ev_iload_n dX9_isName_46 rfl ?_
          refine ev_if_neN 54 dX9_isName_47 (by decide) (by omega) (fun c47 => ?_) (fun c47 => ?_)
          · refine ev_iconstN 0 dX9_isName_54 (by decide) ?_
            refine ev_zreturn dX9_isName_55 rfl (by decide) ?_
            first | exact ⟨by rw [nmB_yes hm (by unfold isNmN; omega)]; rfl, rfl⟩ | exact ⟨by rw [nmB_no hm (by unfold isNmN; omega)]; rfl, rfl⟩
          · refine ev_iconstN 1 dX9_isName_50 (by decide) ?_
            refine ev_goto 55 dX9_isName_51 (by decide) ?_
            refine ev_zreturn dX9_isName_55 rfl (by decide) ?_
            first | exact ⟨by rw [nmB_yes hm (by unfold isNmN; omega)]; rfl, rfl⟩ | exact ⟨by rw [nmB_no hm (by unfold isNmN; omega)]; rfl, rfl⟩
      · refine ev_iload_n dX9_isName_34 rfl ?_
        refine ev_if_neN 54 dX9_isName_35 (by decide) (by omega) (fun c35 => ?_) (fun c35 => ?_)
        · refine ev_iconstN 0 dX9_isName_54 (by decide) ?_
          refine ev_zreturn dX9_isName_55 rfl (by decide) ?_
          first | exact ⟨by rw [nmB_yes hm (by unfold isNmN; omega)]; rfl, rfl⟩ | exact ⟨by rw [nmB_no hm (by unfold isNmN; omega)]; rfl, rfl⟩
        · refine ev_iload_n dX9_isName_38 rfl ?_
          refine ev_if_neN 54 dX9_isName_39 (by decide) (by omega) (fun c39 => ?_) (fun c39 => ?_)
          · refine ev_iconstN 0 dX9_isName_54 (by decide) ?_
            refine ev_zreturn dX9_isName_55 rfl (by decide) ?_
            first | exact ⟨by rw [nmB_yes hm (by unfold isNmN; omega)]; rfl, rfl⟩ | exact ⟨by rw [nmB_no hm (by unfold isNmN; omega)]; rfl, rfl⟩
          · refine ev_iload_n dX9_isName_42 rfl ?_
            refine ev_if_gtN 50 dX9_isName_43 (by decide) (by omega) (fun c43 => ?_) (fun c43 => ?_)
            · refine ev_iconstN 1 dX9_isName_50 (by decide) ?_
              refine ev_goto 55 dX9_isName_51 (by decide) ?_
              refine ev_zreturn dX9_isName_55 rfl (by decide) ?_
              first | exact ⟨by rw [nmB_yes hm (by unfold isNmN; omega)]; rfl, rfl⟩ | exact ⟨by rw [nmB_no hm (by unfold isNmN; omega)]; rfl, rfl⟩
            · refine ev_iload_n dX9_isName_46 rfl ?_
              refine ev_if_neN 54 dX9_isName_47 (by decide) (by omega) (fun c47 => ?_) (fun c47 => ?_)
              · refine ev_iconstN 0 dX9_isName_54 (by decide) ?_
                refine ev_zreturn dX9_isName_55 rfl (by decide) ?_
                first | exact ⟨by rw [nmB_yes hm (by unfold isNmN; omega)]; rfl, rfl⟩ | exact ⟨by rw [nmB_no hm (by unfold isNmN; omega)]; rfl, rfl⟩
              · refine ev_iconstN 1 dX9_isName_50 (by decide) ?_
                refine ev_goto 55 dX9_isName_51 (by decide) ?_
                refine ev_zreturn dX9_isName_55 rfl (by decide) ?_
                first | exact ⟨by rw [nmB_yes hm (by unfold isNmN; omega)]; rfl, rfl⟩ | exact ⟨by rw [nmB_no hm (by unfold isNmN; omega)]; rfl, rfl⟩
def needN (o : Int32) : Nat := if o < 4 ∨ o = 12 then 0 else if o = 11 then 1 else 2
set_option maxRecDepth 100000 in
set_option maxHeartbeats 4000000 in
theorem sp_needs {o : Int32} {G : GH} : EvM X mX9_needs d [iV o] G (fun r G' => r = some (iV (nI (needN o))) ∧ G' = G) := by
  show Ev X mX9_needs d 0 [some (iV o)] [] G _
  unfold needN
  refine ev_iload_n dX9_needs_0 rfl ?_
  refine ev_iconstN 4 dX9_needs_1 (by decide) ?_
  refine ev_icmp_lt (y := 4) 11 dX9_needs_2 (by decide) (fun c2 => ?_) (fun c2 => ?_)
  · refine ev_iconstN 0 dX9_needs_11 (by decide) ?_
    refine ev_goto 26 dX9_needs_12 (by decide) ?_
    refine ev_ireturn dX9_needs_26 rfl ?_
    exact ⟨by simp [*], rfl⟩
  · refine ev_iload_n dX9_needs_5 rfl ?_
    refine ev_bipushN 12 dX9_needs_6 (by decide) ?_
    refine ev_icmp_ne (y := 12) 15 dX9_needs_8 (by decide) (fun c8 => ?_) (fun c8 => ?_)
    · refine ev_iload_n dX9_needs_15 rfl ?_
      refine ev_bipushN 11 dX9_needs_16 (by decide) ?_
      refine ev_icmp_ne (y := 11) 25 dX9_needs_18 (by decide) (fun c18 => ?_) (fun c18 => ?_)
      · refine ev_iconstN 2 dX9_needs_25 (by decide) ?_
        refine ev_ireturn dX9_needs_26 rfl ?_
        exact ⟨by simp [*], rfl⟩
      · refine ev_iconstN 1 dX9_needs_21 (by decide) ?_
        refine ev_goto 26 dX9_needs_22 (by decide) ?_
        refine ev_ireturn dX9_needs_26 rfl ?_
        exact ⟨by simp [*], rfl⟩
    · refine ev_iconstN 0 dX9_needs_11 (by decide) ?_
      refine ev_goto 26 dX9_needs_12 (by decide) ?_
      refine ev_ireturn dX9_needs_26 rfl ?_
      exact ⟨by simp [*], rfl⟩
def startN (a b : Nat) : Prop := (b / 729 = 0 ∨ a / 729 = b / 729) ∧ (b / 27 % 27 = 0 ∨ a / 27 % 27 = b / 27 % 27) ∧ (b % 27 = 0 ∨ a % 27 = b % 27)
def startI (a b : Nat) : Int32 := if (b / 729 = 0 ∨ a / 729 = b / 729) ∧ (b / 27 % 27 = 0 ∨ a / 27 % 27 = b / 27 % 27) ∧ (b % 27 = 0 ∨ a % 27 = b % 27) then 1 else 0
set_option maxRecDepth 100000 in
set_option maxHeartbeats 4000000 in
theorem sp_starts {a b : Nat} {G : GH} (ha : a < 2147483648) (hb : b < 2147483648) : EvM X mX9_starts d [iV (nI a), iV (nI b)] G (fun r G' => r = some (iV (startI a b)) ∧ G' = G) := by
  show Ev X mX9_starts d 0 [some (iV (nI a)), some (iV (nI b)), none, none, none] [] G _
  unfold startI
  refine ev_iload_n dX9_starts_0 rfl ?_
  refine ev_sipushN 729 dX9_starts_1 (by decide) ?_
  refine ev_idivN dX9_starts_4 (by omega) (by omega) (by omega) ?_
  refine ev_istore_n _ dX9_starts_5 (by decide) rfl ?_
  refine ev_iload_n dX9_starts_6 rfl ?_
  refine ev_bipushN 27 dX9_starts_7 (by decide) ?_
  refine ev_idivN dX9_starts_9 (by omega) (by omega) (by omega) ?_
  refine ev_bipushN 27 dX9_starts_10 (by decide) ?_
  refine ev_iremN dX9_starts_12 (by omega) (by omega) (by omega) ?_
  refine ev_istore_n _ dX9_starts_13 (by decide) rfl ?_
  refine ev_iload_n dX9_starts_14 rfl ?_
  refine ev_bipushN 27 dX9_starts_15 (by decide) ?_
  refine ev_iremN dX9_starts_17 (by omega) (by omega) (by omega) ?_
  refine ev_istore _ dX9_starts_18 (by decide) rfl ?_
  refine ev_iload_n dX9_starts_20 rfl ?_
  refine ev_if_eqN 33 dX9_starts_21 (by decide) (by omega) (fun c21 => ?_) (fun c21 => ?_)
  · refine ev_iload_n dX9_starts_33 rfl ?_
    refine ev_if_eqN 48 dX9_starts_34 (by decide) (by omega) (fun c34 => ?_) (fun c34 => ?_)
    · refine ev_iload dX9_starts_48 rfl ?_
      refine ev_if_eqN 62 dX9_starts_50 (by decide) (by omega) (fun c50 => ?_) (fun c50 => ?_)
      · refine ev_iconstN 1 dX9_starts_62 (by decide) ?_
        refine ev_goto 67 dX9_starts_63 (by decide) ?_
        refine ev_zreturn dX9_starts_67 rfl (by decide) ?_
        first | exact ⟨by rw [if_pos (by omega)]; rfl, rfl⟩ | exact ⟨by rw [if_neg (by omega)]; rfl, rfl⟩
      · refine ev_iload_n dX9_starts_53 rfl ?_
        refine ev_bipushN 27 dX9_starts_54 (by decide) ?_
        refine ev_iremN dX9_starts_56 (by omega) (by omega) (by omega) ?_
        refine ev_iload dX9_starts_57 rfl ?_
        refine ev_icmp_neN 66 dX9_starts_59 (by decide) (by omega) (by omega) (fun c59 => ?_) (fun c59 => ?_)
        · refine ev_iconstN 0 dX9_starts_66 (by decide) ?_
          refine ev_zreturn dX9_starts_67 rfl (by decide) ?_
          first | exact ⟨by rw [if_pos (by omega)]; rfl, rfl⟩ | exact ⟨by rw [if_neg (by omega)]; rfl, rfl⟩
        · refine ev_iconstN 1 dX9_starts_62 (by decide) ?_
          refine ev_goto 67 dX9_starts_63 (by decide) ?_
          refine ev_zreturn dX9_starts_67 rfl (by decide) ?_
          first | exact ⟨by rw [if_pos (by omega)]; rfl, rfl⟩ | exact ⟨by rw [if_neg (by omega)]; rfl, rfl⟩
    · refine ev_iload_n dX9_starts_37 rfl ?_
      refine ev_bipushN 27 dX9_starts_38 (by decide) ?_
      refine ev_idivN dX9_starts_40 (by omega) (by omega) (by omega) ?_
      refine ev_bipushN 27 dX9_starts_41 (by decide) ?_
      refine ev_iremN dX9_starts_43 (by omega) (by omega) (by omega) ?_
      refine ev_iload_n dX9_starts_44 rfl ?_
      refine ev_icmp_neN 66 dX9_starts_45 (by decide) (by omega) (by omega) (fun c45 => ?_) (fun c45 => ?_)
      · refine ev_iconstN 0 dX9_starts_66 (by decide) ?_
        refine ev_zreturn dX9_starts_67 rfl (by decide) ?_
        first | exact ⟨by rw [if_pos (by omega)]; rfl, rfl⟩ | exact ⟨by rw [if_neg (by omega)]; rfl, rfl⟩
      · refine ev_iload dX9_starts_48 rfl ?_
        refine ev_if_eqN 62 dX9_starts_50 (by decide) (by omega) (fun c50 => ?_) (fun c50 => ?_)
        · refine ev_iconstN 1 dX9_starts_62 (by decide) ?_
          refine ev_goto 67 dX9_starts_63 (by decide) ?_
          refine ev_zreturn dX9_starts_67 rfl (by decide) ?_
          first | exact ⟨by rw [if_pos (by omega)]; rfl, rfl⟩ | exact ⟨by rw [if_neg (by omega)]; rfl, rfl⟩
        · refine ev_iload_n dX9_starts_53 rfl ?_
          refine ev_bipushN 27 dX9_starts_54 (by decide) ?_
          refine ev_iremN dX9_starts_56 (by omega) (by omega) (by omega) ?_
          refine ev_iload dX9_starts_57 rfl ?_
          refine ev_icmp_neN 66 dX9_starts_59 (by decide) (by omega) (by omega) (fun c59 => ?_) (fun c59 => ?_)
          · refine ev_iconstN 0 dX9_starts_66 (by decide) ?_
            refine ev_zreturn dX9_starts_67 rfl (by decide) ?_
            first | exact ⟨by rw [if_pos (by omega)]; rfl, rfl⟩ | exact ⟨by rw [if_neg (by omega)]; rfl, rfl⟩
          · refine ev_iconstN 1 dX9_starts_62 (by decide) ?_
            refine ev_goto 67 dX9_starts_63 (by decide) ?_
            refine ev_zreturn dX9_starts_67 rfl (by decide) ?_
            first | exact ⟨by rw [if_pos (by omega)]; rfl, rfl⟩ | exact ⟨by rw [if_neg (by omega)]; rfl, rfl⟩
  · refine ev_iload_n dX9_starts_24 rfl ?_
    refine ev_sipushN 729 dX9_starts_25 (by decide) ?_
    refine ev_idivN dX9_starts_28 (by omega) (by omega) (by omega) ?_
    refine ev_iload_n dX9_starts_29 rfl ?_
    refine ev_icmp_neN 66 dX9_starts_30 (by decide) (by omega) (by omega) (fun c30 => ?_) (fun c30 => ?_)
    · refine ev_iconstN 0 dX9_starts_66 (by decide) ?_
      refine ev_zreturn dX9_starts_67 rfl (by decide) ?_
      first | exact ⟨by rw [if_pos (by omega)]; rfl, rfl⟩ | exact ⟨by rw [if_neg (by omega)]; rfl, rfl⟩
    · refine ev_iload_n dX9_starts_33 rfl ?_
      refine ev_if_eqN 48 dX9_starts_34 (by decide) (by omega) (fun c34 => ?_) (fun c34 => ?_)
      · refine ev_iload dX9_starts_48 rfl ?_
        refine ev_if_eqN 62 dX9_starts_50 (by decide) (by omega) (fun c50 => ?_) (fun c50 => ?_)
        · refine ev_iconstN 1 dX9_starts_62 (by decide) ?_
          refine ev_goto 67 dX9_starts_63 (by decide) ?_
          refine ev_zreturn dX9_starts_67 rfl (by decide) ?_
          first | exact ⟨by rw [if_pos (by omega)]; rfl, rfl⟩ | exact ⟨by rw [if_neg (by omega)]; rfl, rfl⟩
        · refine ev_iload_n dX9_starts_53 rfl ?_
          refine ev_bipushN 27 dX9_starts_54 (by decide) ?_
          refine ev_iremN dX9_starts_56 (by omega) (by omega) (by omega) ?_
          refine ev_iload dX9_starts_57 rfl ?_
          refine ev_icmp_neN 66 dX9_starts_59 (by decide) (by omega) (by omega) (fun c59 => ?_) (fun c59 => ?_)
          · refine ev_iconstN 0 dX9_starts_66 (by decide) ?_
            refine ev_zreturn dX9_starts_67 rfl (by decide) ?_
            first | exact ⟨by rw [if_pos (by omega)]; rfl, rfl⟩ | exact ⟨by rw [if_neg (by omega)]; rfl, rfl⟩
          · refine ev_iconstN 1 dX9_starts_62 (by decide) ?_
            refine ev_goto 67 dX9_starts_63 (by decide) ?_
            refine ev_zreturn dX9_starts_67 rfl (by decide) ?_
            first | exact ⟨by rw [if_pos (by omega)]; rfl, rfl⟩ | exact ⟨by rw [if_neg (by omega)]; rfl, rfl⟩
      · refine ev_iload_n dX9_starts_37 rfl ?_
        refine ev_bipushN 27 dX9_starts_38 (by decide) ?_
        refine ev_idivN dX9_starts_40 (by omega) (by omega) (by omega) ?_
        refine ev_bipushN 27 dX9_starts_41 (by decide) ?_
        refine ev_iremN dX9_starts_43 (by omega) (by omega) (by omega) ?_
        refine ev_iload_n dX9_starts_44 rfl ?_
        refine ev_icmp_neN 66 dX9_starts_45 (by decide) (by omega) (by omega) (fun c45 => ?_) (fun c45 => ?_)
        · refine ev_iconstN 0 dX9_starts_66 (by decide) ?_
          refine ev_zreturn dX9_starts_67 rfl (by decide) ?_
          first | exact ⟨by rw [if_pos (by omega)]; rfl, rfl⟩ | exact ⟨by rw [if_neg (by omega)]; rfl, rfl⟩
        · refine ev_iload dX9_starts_48 rfl ?_
          refine ev_if_eqN 62 dX9_starts_50 (by decide) (by omega) (fun c50 => ?_) (fun c50 => ?_)
          · refine ev_iconstN 1 dX9_starts_62 (by decide) ?_
            refine ev_goto 67 dX9_starts_63 (by decide) ?_
            refine ev_zreturn dX9_starts_67 rfl (by decide) ?_
            first | exact ⟨by rw [if_pos (by omega)]; rfl, rfl⟩ | exact ⟨by rw [if_neg (by omega)]; rfl, rfl⟩
          · refine ev_iload_n dX9_starts_53 rfl ?_
            refine ev_bipushN 27 dX9_starts_54 (by decide) ?_
            refine ev_iremN dX9_starts_56 (by omega) (by omega) (by omega) ?_
            refine ev_iload dX9_starts_57 rfl ?_
            refine ev_icmp_neN 66 dX9_starts_59 (by decide) (by omega) (by omega) (fun c59 => ?_) (fun c59 => ?_)
            · refine ev_iconstN 0 dX9_starts_66 (by decide) ?_
              refine ev_zreturn dX9_starts_67 rfl (by decide) ?_
              first | exact ⟨by rw [if_pos (by omega)]; rfl, rfl⟩ | exact ⟨by rw [if_neg (by omega)]; rfl, rfl⟩
            · refine ev_iconstN 1 dX9_starts_62 (by decide) ?_
              refine ev_goto 67 dX9_starts_63 (by decide) ?_
              refine ev_zreturn dX9_starts_67 rfl (by decide) ?_
              first | exact ⟨by rw [if_pos (by omega)]; rfl, rfl⟩ | exact ⟨by rw [if_neg (by omega)]; rfl, rfl⟩
def twoI (o a b : Int32) : Int32 := if o < 7 then (if o = 4 then a + b else if o = 5 then a - b else a * b) else if (if o = 7 then a < b else if o = 8 then a = b else if o = 9 then a = 1 ∧ b = 1 else a = 1 ∨ b = 1) then 1 else 0
set_option maxRecDepth 100000 in
set_option maxHeartbeats 4000000 in
theorem sp_two {o a b : Int32} {G : GH} : EvM X mX9_two d [iV o, iV a, iV b] G (fun r G' => r = some (iV (twoI o a b)) ∧ G' = G) := by
  show Ev X mX9_two d 0 [some (iV o), some (iV a), some (iV b), none] [] G _
  unfold twoI
  refine ev_iload_n dX9_two_0 rfl ?_
  refine ev_bipushN 7 dX9_two_1 (by decide) ?_
  refine ev_icmp_ge (y := 7) 32 dX9_two_3 (by decide) (fun c3 => ?_) (fun c3 => ?_)
  · refine ev_iload_n dX9_two_32 rfl ?_
    refine ev_bipushN 7 dX9_two_33 (by decide) ?_
    refine ev_icmp_ne (y := 7) 51 dX9_two_35 (by decide) (fun c35 => ?_) (fun c35 => ?_)
    · refine ev_iload_n dX9_two_51 rfl ?_
      refine ev_bipushN 8 dX9_two_52 (by decide) ?_
      refine ev_icmp_ne (y := 8) 70 dX9_two_54 (by decide) (fun c54 => ?_) (fun c54 => ?_)
      · refine ev_iload_n dX9_two_70 rfl ?_
        refine ev_bipushN 9 dX9_two_71 (by decide) ?_
        refine ev_icmp_ne (y := 9) 94 dX9_two_73 (by decide) (fun c73 => ?_) (fun c73 => ?_)
        · refine ev_iload_n dX9_two_94 rfl ?_
          refine ev_iconstN 1 dX9_two_95 (by decide) ?_
          refine ev_icmp_eq (y := 1) 104 dX9_two_96 (by decide) (fun c96 => ?_) (fun c96 => ?_)
          · refine ev_iconstN 1 dX9_two_104 (by decide) ?_
            refine ev_goto 109 dX9_two_105 (by decide) ?_
            refine ev_istore_n _ dX9_two_109 (by decide) rfl ?_
            refine ev_iload_n dX9_two_110 rfl ?_
            refine ev_if_eqN 118 dX9_two_111 (by decide) (by omega) (fun c111 => absurd c111 (by decide)) (fun c111 => ?_)
            refine ev_iconstN 1 dX9_two_114 (by decide) ?_
            refine ev_goto 119 dX9_two_115 (by decide) ?_
            refine ev_ireturn dX9_two_119 rfl ?_
            try have z3 := Int32.not_lt.mpr c3
            try have y3 := Int32.not_le.mp c3
            try have z40 := Int32.not_lt.mpr c40
            try have y40 := Int32.not_le.mp c40
            exact ⟨by first | (simp [*]; done) | (simp [*]; rfl), rfl⟩
          · refine ev_iload_n dX9_two_99 rfl ?_
            refine ev_iconstN 1 dX9_two_100 (by decide) ?_
            refine ev_icmp_ne (y := 1) 108 dX9_two_101 (by decide) (fun c101 => ?_) (fun c101 => ?_)
            · refine ev_iconstN 0 dX9_two_108 (by decide) ?_
              refine ev_istore_n _ dX9_two_109 (by decide) rfl ?_
              refine ev_iload_n dX9_two_110 rfl ?_
              refine ev_if_eqN 118 dX9_two_111 (by decide) (by omega) (fun c111 => ?_) (fun c111 => absurd c111 (by decide))
              refine ev_iconstN 0 dX9_two_118 (by decide) ?_
              refine ev_ireturn dX9_two_119 rfl ?_
              try have z3 := Int32.not_lt.mpr c3
              try have y3 := Int32.not_le.mp c3
              try have z40 := Int32.not_lt.mpr c40
              try have y40 := Int32.not_le.mp c40
              exact ⟨by first | (simp [*]; done) | (simp [*]; rfl), rfl⟩
            · refine ev_iconstN 1 dX9_two_104 (by decide) ?_
              refine ev_goto 109 dX9_two_105 (by decide) ?_
              refine ev_istore_n _ dX9_two_109 (by decide) rfl ?_
              refine ev_iload_n dX9_two_110 rfl ?_
              refine ev_if_eqN 118 dX9_two_111 (by decide) (by omega) (fun c111 => absurd c111 (by decide)) (fun c111 => ?_)
              refine ev_iconstN 1 dX9_two_114 (by decide) ?_
              refine ev_goto 119 dX9_two_115 (by decide) ?_
              refine ev_ireturn dX9_two_119 rfl ?_
              try have z3 := Int32.not_lt.mpr c3
              try have y3 := Int32.not_le.mp c3
              try have z40 := Int32.not_lt.mpr c40
              try have y40 := Int32.not_le.mp c40
              exact ⟨by first | (simp [*]; done) | (simp [*]; rfl), rfl⟩
        · refine ev_iload_n dX9_two_76 rfl ?_
          refine ev_iconstN 1 dX9_two_77 (by decide) ?_
          refine ev_icmp_ne (y := 1) 90 dX9_two_78 (by decide) (fun c78 => ?_) (fun c78 => ?_)
          · refine ev_iconstN 0 dX9_two_90 (by decide) ?_
            refine ev_goto 109 dX9_two_91 (by decide) ?_
            refine ev_istore_n _ dX9_two_109 (by decide) rfl ?_
            refine ev_iload_n dX9_two_110 rfl ?_
            refine ev_if_eqN 118 dX9_two_111 (by decide) (by omega) (fun c111 => ?_) (fun c111 => absurd c111 (by decide))
            refine ev_iconstN 0 dX9_two_118 (by decide) ?_
            refine ev_ireturn dX9_two_119 rfl ?_
            try have z3 := Int32.not_lt.mpr c3
            try have y3 := Int32.not_le.mp c3
            try have z40 := Int32.not_lt.mpr c40
            try have y40 := Int32.not_le.mp c40
            exact ⟨by first | (simp [*]; done) | (simp [*]; rfl), rfl⟩
          · refine ev_iload_n dX9_two_81 rfl ?_
            refine ev_iconstN 1 dX9_two_82 (by decide) ?_
            refine ev_icmp_ne (y := 1) 90 dX9_two_83 (by decide) (fun c83 => ?_) (fun c83 => ?_)
            · refine ev_iconstN 0 dX9_two_90 (by decide) ?_
              refine ev_goto 109 dX9_two_91 (by decide) ?_
              refine ev_istore_n _ dX9_two_109 (by decide) rfl ?_
              refine ev_iload_n dX9_two_110 rfl ?_
              refine ev_if_eqN 118 dX9_two_111 (by decide) (by omega) (fun c111 => ?_) (fun c111 => absurd c111 (by decide))
              refine ev_iconstN 0 dX9_two_118 (by decide) ?_
              refine ev_ireturn dX9_two_119 rfl ?_
              try have z3 := Int32.not_lt.mpr c3
              try have y3 := Int32.not_le.mp c3
              try have z40 := Int32.not_lt.mpr c40
              try have y40 := Int32.not_le.mp c40
              exact ⟨by first | (simp [*]; done) | (simp [*]; rfl), rfl⟩
            · refine ev_iconstN 1 dX9_two_86 (by decide) ?_
              refine ev_goto 109 dX9_two_87 (by decide) ?_
              refine ev_istore_n _ dX9_two_109 (by decide) rfl ?_
              refine ev_iload_n dX9_two_110 rfl ?_
              refine ev_if_eqN 118 dX9_two_111 (by decide) (by omega) (fun c111 => absurd c111 (by decide)) (fun c111 => ?_)
              refine ev_iconstN 1 dX9_two_114 (by decide) ?_
              refine ev_goto 119 dX9_two_115 (by decide) ?_
              refine ev_ireturn dX9_two_119 rfl ?_
              try have z3 := Int32.not_lt.mpr c3
              try have y3 := Int32.not_le.mp c3
              try have z40 := Int32.not_lt.mpr c40
              try have y40 := Int32.not_le.mp c40
              exact ⟨by first | (simp [*]; done) | (simp [*]; rfl), rfl⟩
      · refine ev_iload_n dX9_two_57 rfl ?_
        refine ev_iload_n dX9_two_58 rfl ?_
        refine ev_icmp_ne 66 dX9_two_59 (by decide) (fun c59 => ?_) (fun c59 => ?_)
        · refine ev_iconstN 0 dX9_two_66 (by decide) ?_
          refine ev_goto 109 dX9_two_67 (by decide) ?_
          refine ev_istore_n _ dX9_two_109 (by decide) rfl ?_
          refine ev_iload_n dX9_two_110 rfl ?_
          refine ev_if_eqN 118 dX9_two_111 (by decide) (by omega) (fun c111 => ?_) (fun c111 => absurd c111 (by decide))
          refine ev_iconstN 0 dX9_two_118 (by decide) ?_
          refine ev_ireturn dX9_two_119 rfl ?_
          try have z3 := Int32.not_lt.mpr c3
          try have y3 := Int32.not_le.mp c3
          try have z40 := Int32.not_lt.mpr c40
          try have y40 := Int32.not_le.mp c40
          exact ⟨by first | (simp [*]; done) | (simp [*]; rfl), rfl⟩
        · refine ev_iconstN 1 dX9_two_62 (by decide) ?_
          refine ev_goto 109 dX9_two_63 (by decide) ?_
          refine ev_istore_n _ dX9_two_109 (by decide) rfl ?_
          refine ev_iload_n dX9_two_110 rfl ?_
          refine ev_if_eqN 118 dX9_two_111 (by decide) (by omega) (fun c111 => absurd c111 (by decide)) (fun c111 => ?_)
          refine ev_iconstN 1 dX9_two_114 (by decide) ?_
          refine ev_goto 119 dX9_two_115 (by decide) ?_
          refine ev_ireturn dX9_two_119 rfl ?_
          try have z3 := Int32.not_lt.mpr c3
          try have y3 := Int32.not_le.mp c3
          try have z40 := Int32.not_lt.mpr c40
          try have y40 := Int32.not_le.mp c40
          exact ⟨by first | (simp [*]; done) | (simp [*]; rfl), rfl⟩
    · refine ev_iload_n dX9_two_38 rfl ?_
      refine ev_iload_n dX9_two_39 rfl ?_
      refine ev_icmp_ge 47 dX9_two_40 (by decide) (fun c40 => ?_) (fun c40 => ?_)
      · refine ev_iconstN 0 dX9_two_47 (by decide) ?_
        refine ev_goto 109 dX9_two_48 (by decide) ?_
        refine ev_istore_n _ dX9_two_109 (by decide) rfl ?_
        refine ev_iload_n dX9_two_110 rfl ?_
        refine ev_if_eqN 118 dX9_two_111 (by decide) (by omega) (fun c111 => ?_) (fun c111 => absurd c111 (by decide))
        refine ev_iconstN 0 dX9_two_118 (by decide) ?_
        refine ev_ireturn dX9_two_119 rfl ?_
        try have z3 := Int32.not_lt.mpr c3
        try have y3 := Int32.not_le.mp c3
        try have z40 := Int32.not_lt.mpr c40
        try have y40 := Int32.not_le.mp c40
        exact ⟨by first | (simp [*]; done) | (simp [*]; rfl), rfl⟩
      · refine ev_iconstN 1 dX9_two_43 (by decide) ?_
        refine ev_goto 109 dX9_two_44 (by decide) ?_
        refine ev_istore_n _ dX9_two_109 (by decide) rfl ?_
        refine ev_iload_n dX9_two_110 rfl ?_
        refine ev_if_eqN 118 dX9_two_111 (by decide) (by omega) (fun c111 => absurd c111 (by decide)) (fun c111 => ?_)
        refine ev_iconstN 1 dX9_two_114 (by decide) ?_
        refine ev_goto 119 dX9_two_115 (by decide) ?_
        refine ev_ireturn dX9_two_119 rfl ?_
        try have z3 := Int32.not_lt.mpr c3
        try have y3 := Int32.not_le.mp c3
        try have z40 := Int32.not_lt.mpr c40
        try have y40 := Int32.not_le.mp c40
        exact ⟨by first | (simp [*]; done) | (simp [*]; rfl), rfl⟩
  · refine ev_iload_n dX9_two_6 rfl ?_
    refine ev_iconstN 4 dX9_two_7 (by decide) ?_
    refine ev_icmp_ne (y := 4) 17 dX9_two_8 (by decide) (fun c8 => ?_) (fun c8 => ?_)
    · refine ev_iload_n dX9_two_17 rfl ?_
      refine ev_iconstN 5 dX9_two_18 (by decide) ?_
      refine ev_icmp_ne (y := 5) 28 dX9_two_19 (by decide) (fun c19 => ?_) (fun c19 => ?_)
      · refine ev_iload_n dX9_two_28 rfl ?_
        refine ev_iload_n dX9_two_29 rfl ?_
        refine ev_imul dX9_two_30 ?_
        refine ev_ireturn dX9_two_31 rfl ?_
        try have z3 := Int32.not_lt.mpr c3
        try have y3 := Int32.not_le.mp c3
        try have z40 := Int32.not_lt.mpr c40
        try have y40 := Int32.not_le.mp c40
        exact ⟨by first | (simp [*]; done) | (simp [*]; rfl), rfl⟩
      · refine ev_iload_n dX9_two_22 rfl ?_
        refine ev_iload_n dX9_two_23 rfl ?_
        refine ev_isub dX9_two_24 ?_
        refine ev_goto 31 dX9_two_25 (by decide) ?_
        refine ev_ireturn dX9_two_31 rfl ?_
        try have z3 := Int32.not_lt.mpr c3
        try have y3 := Int32.not_le.mp c3
        try have z40 := Int32.not_lt.mpr c40
        try have y40 := Int32.not_le.mp c40
        exact ⟨by first | (simp [*]; done) | (simp [*]; rfl), rfl⟩
    · refine ev_iload_n dX9_two_11 rfl ?_
      refine ev_iload_n dX9_two_12 rfl ?_
      refine ev_iadd dX9_two_13 ?_
      refine ev_goto 31 dX9_two_14 (by decide) ?_
      refine ev_ireturn dX9_two_31 rfl ?_
      try have z3 := Int32.not_lt.mpr c3
      try have y3 := Int32.not_le.mp c3
      try have z40 := Int32.not_lt.mpr c40
      try have y40 := Int32.not_le.mp c40
      exact ⟨by first | (simp [*]; done) | (simp [*]; rfl), rfl⟩
end M2
end
section
section M3
variable {X : CX} {d : Nat} {K : Nat → Nat} {I : Nat → Nat → Int32} {J : Nat → Nat → Int64} {R : Nat → Nat → Option Nat} {A : Nat → Nat → Int32} {B : Nat → Nat → Option Nat} {Ln : Nat → Nat} {n sl : Nat}
def cnt (p : Nat → Bool) : Nat → Nat
  | 0 => 0
  | e + 1 => cnt p e + (if p e = true then 1 else 0)
def allN (p : Nat → Bool) : Nat → Bool
  | 0 => true
  | e + 1 => allN p e && p e
def anyN (p : Nat → Bool) : Nat → Bool
  | 0 => false
  | e + 1 => anyN p e || p e
def bZ (b : Bool) : Int32 := if b = true then 1 else 0
theorem bZ_01 (b : Bool) : bZ b = 0 ∨ bZ b = 1 := by cases b <;> simp [bZ]
theorem cnt_le (p : Nat → Bool) : ∀ e, cnt p e ≤ e
  | 0 => Nat.le_refl 0
  | e + 1 => by
    have := cnt_le p e
    unfold cnt
    split <;> omega
def hzI (s b : Nat → Int32) (la : Int32) : Nat → Int32
  | 0 => la
  | t + 1 => if s t = 1 ∧ b t < hzI s b la t then b t else hzI s b la t
set_option maxRecDepth 100000 in
set_option maxHeartbeats 4000000 in
theorem sp_open_yes (hM : MFix K R Ln) {tn j : Nat} (ht : I 595 11 = nI tn) (hb : tn ≤ 60) (hj : j < tn) (hs : A 25 j = 1) : EvM X mX9_open d [rV (some 11), iV (nI j)] (K, I, J, R, A, B, Ln, n, sl) (fun r G' => r = some (iV 1) ∧ G' = (K, I, J, R, A, B, Ln, n, sl)) := by
  show Ev X mX9_open d 0 [some (rV (some 11)), some (iV (nI j))] [] (K, I, J, R, A, B, Ln, n, sl) _
  refine ev_iload_n dX9_open_0 rfl ?_
  refine ev_if_ltN 26 dX9_open_1 (by decide) (by omega) ?_
  refine ev_iload_n dX9_open_4 rfl ?_
  refine ev_aload_n dX9_open_5 rfl ?_
  refine ev_getIv dX9_open_6 fX9_116 hM.m ht ?_
  refine ev_icmp_geN 26 dX9_open_9 (by decide) (by omega) (by omega) (fun c9 => absurd c9 (by omega)) (fun c9 => ?_)
  refine ev_aload_n dX9_open_12 rfl ?_
  refine ev_getR dX9_open_13 fX9_50 hM.m hM.R_state ?_
  refine ev_iload_n dX9_open_16 rfl ?_
  refine ev_iald dX9_open_17 hM.K_state hM.L_state (by decide) (by omega) ?_
  refine ev_iconstN 1 dX9_open_18 (by decide) ?_
  refine ev_icmp_ne (y := 1) 26 dX9_open_19 (by decide) (fun c19 => absurd hs c19) (fun c19 => ?_)
  refine ev_iconstN 1 dX9_open_22 (by decide) ?_
  refine ev_goto 27 dX9_open_23 (by decide) ?_
  refine ev_zreturn dX9_open_27 rfl (by decide) ?_
  exact ⟨rfl, rfl⟩
set_option maxRecDepth 100000 in
set_option maxHeartbeats 4000000 in
theorem sp_open_no (hM : MFix K R Ln) {tn : Nat} {t : Int32} (ht : I 595 11 = nI tn) (hb : tn ≤ 60) (hs : ∀ j, j < tn → t = nI j → ¬ A 25 j = 1) : EvM X mX9_open d [rV (some 11), iV t] (K, I, J, R, A, B, Ln, n, sl) (fun r G' => r = some (iV 0) ∧ G' = (K, I, J, R, A, B, Ln, n, sl)) := by
  show Ev X mX9_open d 0 [some (rV (some 11)), some (iV t)] [] (K, I, J, R, A, B, Ln, n, sl) _
  rcases pk_ix t (n := tn) (by omega) with hc | hc | ⟨j, hj, rfl⟩
  · refine ev_iload_n dX9_open_0 rfl ?_
    refine ev_if_lt 26 dX9_open_1 (by decide) (fun c1 => ?_) (fun c1 => absurd hc c1)
    refine ev_iconstN 0 dX9_open_26 (by decide) ?_
    refine ev_zreturn dX9_open_27 rfl (by decide) ?_
    exact ⟨rfl, rfl⟩
  · refine ev_iload_n dX9_open_0 rfl ?_
    refine ev_if_lt 26 dX9_open_1 (by decide) (fun c1 => absurd c1 (Int32.not_lt.mpr (Int32.le_trans (nI_pos' (n := tn) (by omega)) hc))) (fun c1 => ?_)
    refine ev_iload_n dX9_open_4 rfl ?_
    refine ev_aload_n dX9_open_5 rfl ?_
    refine ev_getIv dX9_open_6 fX9_116 hM.m ht ?_
    refine ev_icmp_ge 26 dX9_open_9 (by decide) (fun c9 => ?_) (fun c9 => absurd hc c9)
    refine ev_iconstN 0 dX9_open_26 (by decide) ?_
    refine ev_zreturn dX9_open_27 rfl (by decide) ?_
    exact ⟨rfl, rfl⟩
  · refine ev_iload_n dX9_open_0 rfl ?_
    refine ev_if_ltN 26 dX9_open_1 (by decide) (by omega) ?_
    refine ev_iload_n dX9_open_4 rfl ?_
    refine ev_aload_n dX9_open_5 rfl ?_
    refine ev_getIv dX9_open_6 fX9_116 hM.m ht ?_
    refine ev_icmp_geN 26 dX9_open_9 (by decide) (by omega) (by omega) (fun c9 => absurd c9 (by omega)) (fun c9 => ?_)
    refine ev_aload_n dX9_open_12 rfl ?_
    refine ev_getR dX9_open_13 fX9_50 hM.m hM.R_state ?_
    refine ev_iload_n dX9_open_16 rfl ?_
    refine ev_iald dX9_open_17 hM.K_state hM.L_state (by decide) (by omega) ?_
    refine ev_iconstN 1 dX9_open_18 (by decide) ?_
    refine ev_icmp_ne (y := 1) 26 dX9_open_19 (by decide) (fun c19 => ?_) (fun c19 => absurd c19 (hs j hj rfl))
    refine ev_iconstN 0 dX9_open_26 (by decide) ?_
    refine ev_zreturn dX9_open_27 rfl (by decide) ?_
    exact ⟨rfl, rfl⟩
theorem open_cases (A : Nat → Nat → Int32) (tn : Nat) (t : Int32) : (∃ j, j < tn ∧ t = nI j ∧ A 25 j = 1) ∨ ∀ j, j < tn → t = nI j → ¬ A 25 j = 1 := by
  by_cases h : ∃ j, j < tn ∧ t = nI j ∧ A 25 j = 1
  · exact Or.inl h
  · exact Or.inr (fun j h1 h2 h3 => h ⟨j, h1, h2, h3⟩)
set_option maxRecDepth 100000 in
set_option maxHeartbeats 4000000 in
theorem lp_opens {Q : Option LV → GH → Prop} (hM : MFix K R Ln) {tn : Nat} (ht : I 595 11 = nI tn) (hb : tn ≤ 60) (hq : Q (some (iV (nI (cnt (fun t => decide (A 25 t = 1)) tn)))) (K, I, J, R, A, B, Ln, n, sl)) : ∀ (f e : Nat), e + f = tn → Ev X mX9_opens d 4 [some (rV (some 11)), some (iV (nI (cnt (fun t => decide (A 25 t = 1)) e))), some (iV (nI e))] [] (K, I, J, R, A, B, Ln, n, sl) Q := by
  intro f
  induction f with
  | zero =>
    intro e he
    refine ev_iload_n dX9_opens_4 rfl ?_
    refine ev_aload_n dX9_opens_5 rfl ?_
    refine ev_getIv dX9_opens_6 fX9_116 hM.m ht ?_
    refine ev_icmp_geN 36 dX9_opens_9 (by decide) (by omega) (by omega) (fun c9 => ?_) (fun c9 => absurd c9 (by omega))
    refine ev_iload_n dX9_opens_36 rfl ?_
    refine ev_ireturn dX9_opens_37 rfl ?_
    rw [show e = tn by omega]; exact hq
  | succ f ih =>
    intro e he
    have kont : ∀ z : Nat, z = cnt (fun t => decide (A 25 t = 1)) (e + 1) → Ev X mX9_opens d 30 [some (rV (some 11)), some (iV (nI (z))), some (iV (nI e))] [] (K, I, J, R, A, B, Ln, n, sl) Q := by
      intro z hz
      subst hz
      refine ev_iincN (b := 1) _ dX9_opens_30 rfl (by decide) (by decide) rfl ?_
      refine ev_goto 4 dX9_opens_33 (by decide) ?_
      exact ih (e + 1) (by omega)
    refine ev_iload_n dX9_opens_4 rfl ?_
    refine ev_aload_n dX9_opens_5 rfl ?_
    refine ev_getIv dX9_opens_6 fX9_116 hM.m ht ?_
    refine ev_icmp_geN 36 dX9_opens_9 (by decide) (by omega) (by omega) (fun c9 => absurd c9 (by omega)) (fun c9 => ?_)
    refine ev_iload_n dX9_opens_12 rfl ?_
    refine ev_aload_n dX9_opens_13 rfl ?_
    refine ev_getR dX9_opens_14 fX9_50 hM.m hM.R_state ?_
    refine ev_iload_n dX9_opens_17 rfl ?_
    refine ev_iald dX9_opens_18 hM.K_state hM.L_state (by decide) (by omega) ?_
    refine ev_iconstN 1 dX9_opens_19 (by decide) ?_
    refine ev_icmp_ne (y := 1) 27 dX9_opens_20 (by decide) (fun c20 => ?_) (fun c20 => ?_)
    · refine ev_iconstN 0 dX9_opens_27 (by decide) ?_
      refine ev_iaddN dX9_opens_28 ?_
      refine ev_istore_n _ dX9_opens_29 (by decide) rfl ?_
      exact kont _ (by simp [cnt, *])
    · refine ev_iconstN 1 dX9_opens_23 (by decide) ?_
      refine ev_goto 28 dX9_opens_24 (by decide) ?_
      refine ev_iaddN dX9_opens_28 ?_
      refine ev_istore_n _ dX9_opens_29 (by decide) rfl ?_
      exact kont _ (by simp [cnt, *])
theorem sp_opens (hM : MFix K R Ln) {tn : Nat} (ht : I 595 11 = nI tn) (hb : tn ≤ 60) : EvM X mX9_opens d [rV (some 11)] (K, I, J, R, A, B, Ln, n, sl) (fun r G' => r = some (iV (nI (cnt (fun t => decide (A 25 t = 1)) tn))) ∧ G' = (K, I, J, R, A, B, Ln, n, sl)) := by
  show Ev X mX9_opens d 0 [some (rV (some 11)), none, none] [] (K, I, J, R, A, B, Ln, n, sl) _
  refine ev_iconstN 0 dX9_opens_0 (by decide) ?_
  refine ev_istore_n _ dX9_opens_1 (by decide) rfl ?_
  refine ev_iconstN 0 dX9_opens_2 (by decide) ?_
  refine ev_istore_n _ dX9_opens_3 (by decide) rfl ?_
  exact lp_opens hM ht hb ⟨rfl, rfl⟩ tn 0 (by omega)
set_option maxRecDepth 100000 in
set_option maxHeartbeats 4000000 in
theorem lp_inFile {Q : Option LV → GH → Prop} (hM : MFix K R Ln) {many : Nat} {x : Int32} (hm : I 582 11 = nI many) (hb : many ≤ 520) (hq : Q (some (iV (nI (cnt (fun e => decide (A 22 e = x)) many)))) (K, I, J, R, A, B, Ln, n, sl)) : ∀ (f e : Nat), e + f = many → Ev X mX9_inFile d 4 [some (rV (some 11)), some (iV x), some (iV (nI (cnt (fun e => decide (A 22 e = x)) e))), some (iV (nI e))] [] (K, I, J, R, A, B, Ln, n, sl) Q := by
  intro f
  induction f with
  | zero =>
    intro e he
    refine ev_iload_n dX9_inFile_4 rfl ?_
    refine ev_aload_n dX9_inFile_5 rfl ?_
    refine ev_getIv dX9_inFile_6 fX9_106 hM.m hm ?_
    refine ev_icmp_geN 36 dX9_inFile_9 (by decide) (by omega) (by omega) (fun c9 => ?_) (fun c9 => absurd c9 (by omega))
    refine ev_iload_n dX9_inFile_36 rfl ?_
    refine ev_ireturn dX9_inFile_37 rfl ?_
    rw [show e = many by omega]; exact hq
  | succ f ih =>
    intro e he
    have kont : ∀ z : Nat, z = cnt (fun e => decide (A 22 e = x)) (e + 1) → Ev X mX9_inFile d 30 [some (rV (some 11)), some (iV x), some (iV (nI (z))), some (iV (nI e))] [] (K, I, J, R, A, B, Ln, n, sl) Q := by
      intro z hz
      subst hz
      refine ev_iincN (b := 1) _ dX9_inFile_30 rfl (by decide) (by decide) rfl ?_
      refine ev_goto 4 dX9_inFile_33 (by decide) ?_
      exact ih (e + 1) (by omega)
    refine ev_iload_n dX9_inFile_4 rfl ?_
    refine ev_aload_n dX9_inFile_5 rfl ?_
    refine ev_getIv dX9_inFile_6 fX9_106 hM.m hm ?_
    refine ev_icmp_geN 36 dX9_inFile_9 (by decide) (by omega) (by omega) (fun c9 => absurd c9 (by omega)) (fun c9 => ?_)
    refine ev_iload_n dX9_inFile_12 rfl ?_
    refine ev_aload_n dX9_inFile_13 rfl ?_
    refine ev_getR dX9_inFile_14 fX9_41 hM.m hM.R_file ?_
    refine ev_iload_n dX9_inFile_17 rfl ?_
    refine ev_iald dX9_inFile_18 hM.K_file hM.L_file (by decide) (by omega) ?_
    refine ev_iload_n dX9_inFile_19 rfl ?_
    refine ev_icmp_ne 27 dX9_inFile_20 (by decide) (fun c20 => ?_) (fun c20 => ?_)
    · refine ev_iconstN 0 dX9_inFile_27 (by decide) ?_
      refine ev_iaddN dX9_inFile_28 ?_
      refine ev_istore_n _ dX9_inFile_29 (by decide) rfl ?_
      exact kont _ (by simp [cnt, *])
    · refine ev_iconstN 1 dX9_inFile_23 (by decide) ?_
      refine ev_goto 28 dX9_inFile_24 (by decide) ?_
      refine ev_iaddN dX9_inFile_28 ?_
      refine ev_istore_n _ dX9_inFile_29 (by decide) rfl ?_
      exact kont _ (by simp [cnt, *])
theorem sp_inFile (hM : MFix K R Ln) {many : Nat} {x : Int32} (hm : I 582 11 = nI many) (hb : many ≤ 520) : EvM X mX9_inFile d [rV (some 11), iV x] (K, I, J, R, A, B, Ln, n, sl) (fun r G' => r = some (iV (nI (cnt (fun e => decide (A 22 e = x)) many))) ∧ G' = (K, I, J, R, A, B, Ln, n, sl)) := by
  show Ev X mX9_inFile d 0 [some (rV (some 11)), some (iV x), none, none] [] (K, I, J, R, A, B, Ln, n, sl) _
  refine ev_iconstN 0 dX9_inFile_0 (by decide) ?_
  refine ev_istore_n _ dX9_inFile_1 (by decide) rfl ?_
  refine ev_iconstN 0 dX9_inFile_2 (by decide) ?_
  refine ev_istore_n _ dX9_inFile_3 (by decide) rfl ?_
  exact lp_inFile hM hm hb ⟨rfl, rfl⟩ many 0 (by omega)
set_option maxRecDepth 100000 in
set_option maxHeartbeats 4000000 in
theorem lp_horizon {Q : Option LV → GH → Prop} (hM : MFix K R Ln) {tn : Nat} (ht : I 595 11 = nI tn) (hb : tn ≤ 60) (hq : Q (some (iV (hzI (A 25) (A 26) (I 594 11) tn))) (K, I, J, R, A, B, Ln, n, sl)) : ∀ (f e : Nat), e + f = tn → Ev X mX9_horizon d 7 [some (rV (some 11)), some (iV (hzI (A 25) (A 26) (I 594 11) e)), some (iV (nI e))] [] (K, I, J, R, A, B, Ln, n, sl) Q := by
  intro f
  induction f with
  | zero =>
    intro e he
    refine ev_iload_n dX9_horizon_7 rfl ?_
    refine ev_aload_n dX9_horizon_8 rfl ?_
    refine ev_getIv dX9_horizon_9 fX9_116 hM.m ht ?_
    refine ev_icmp_geN 52 dX9_horizon_12 (by decide) (by omega) (by omega) (fun c12 => ?_) (fun c12 => absurd c12 (by omega))
    refine ev_iload_n dX9_horizon_52 rfl ?_
    refine ev_ireturn dX9_horizon_53 rfl ?_
    rw [show e = tn by omega]; exact hq
  | succ f ih =>
    intro e he
    have kont : ∀ z : Int32, z = hzI (A 25) (A 26) (I 594 11) (e + 1) → Ev X mX9_horizon d 46 [some (rV (some 11)), some (iV (z)), some (iV (nI e))] [] (K, I, J, R, A, B, Ln, n, sl) Q := by
      intro z hz
      subst hz
      refine ev_iincN (b := 1) _ dX9_horizon_46 rfl (by decide) (by decide) rfl ?_
      refine ev_goto 7 dX9_horizon_49 (by decide) ?_
      exact ih (e + 1) (by omega)
    refine ev_iload_n dX9_horizon_7 rfl ?_
    refine ev_aload_n dX9_horizon_8 rfl ?_
    refine ev_getIv dX9_horizon_9 fX9_116 hM.m ht ?_
    refine ev_icmp_geN 52 dX9_horizon_12 (by decide) (by omega) (by omega) (fun c12 => absurd c12 (by omega)) (fun c12 => ?_)
    refine ev_aload_n dX9_horizon_15 rfl ?_
    refine ev_getR dX9_horizon_16 fX9_50 hM.m hM.R_state ?_
    refine ev_iload_n dX9_horizon_19 rfl ?_
    refine ev_iald dX9_horizon_20 hM.K_state hM.L_state (by decide) (by omega) ?_
    refine ev_iconstN 1 dX9_horizon_21 (by decide) ?_
    refine ev_icmp_ne (y := 1) 44 dX9_horizon_22 (by decide) (fun c22 => ?_) (fun c22 => ?_)
    · refine ev_iload_n dX9_horizon_44 rfl ?_
      refine ev_istore_n _ dX9_horizon_45 (by decide) rfl ?_
      try have z32 := Int32.not_lt.mpr c32
      try have y32 := Int32.not_le.mp c32
      exact kont _ (by simp [hzI, *])
    · refine ev_aload_n dX9_horizon_25 rfl ?_
      refine ev_getR dX9_horizon_26 fX9_53 hM.m hM.R_began ?_
      refine ev_iload_n dX9_horizon_29 rfl ?_
      refine ev_iald dX9_horizon_30 hM.K_began hM.L_began (by decide) (by omega) ?_
      refine ev_iload_n dX9_horizon_31 rfl ?_
      refine ev_icmp_ge 44 dX9_horizon_32 (by decide) (fun c32 => ?_) (fun c32 => ?_)
      · refine ev_iload_n dX9_horizon_44 rfl ?_
        refine ev_istore_n _ dX9_horizon_45 (by decide) rfl ?_
        try have z32 := Int32.not_lt.mpr c32
        try have y32 := Int32.not_le.mp c32
        exact kont _ (by simp [hzI, *])
      · refine ev_aload_n dX9_horizon_35 rfl ?_
        refine ev_getR dX9_horizon_36 fX9_53 hM.m hM.R_began ?_
        refine ev_iload_n dX9_horizon_39 rfl ?_
        refine ev_iald dX9_horizon_40 hM.K_began hM.L_began (by decide) (by omega) ?_
        refine ev_goto 45 dX9_horizon_41 (by decide) ?_
        refine ev_istore_n _ dX9_horizon_45 (by decide) rfl ?_
        try have z32 := Int32.not_lt.mpr c32
        try have y32 := Int32.not_le.mp c32
        exact kont _ (by simp [hzI, *])
theorem sp_horizon (hM : MFix K R Ln) {tn : Nat} (ht : I 595 11 = nI tn) (hb : tn ≤ 60) : EvM X mX9_horizon d [rV (some 11)] (K, I, J, R, A, B, Ln, n, sl) (fun r G' => r = some (iV (hzI (A 25) (A 26) (I 594 11) tn)) ∧ G' = (K, I, J, R, A, B, Ln, n, sl)) := by
  show Ev X mX9_horizon d 0 [some (rV (some 11)), none, none] [] (K, I, J, R, A, B, Ln, n, sl) _
  refine ev_aload_n dX9_horizon_0 rfl ?_
  refine ev_getI dX9_horizon_1 fX9_103 hM.m ?_
  refine ev_istore_n _ dX9_horizon_4 (by decide) rfl ?_
  refine ev_iconstN 0 dX9_horizon_5 (by decide) ?_
  refine ev_istore_n _ dX9_horizon_6 (by decide) rfl ?_
  exact lp_horizon hM ht hb ⟨rfl, rfl⟩ tn 0 (by omega)
set_option maxRecDepth 100000 in
set_option maxHeartbeats 4000000 in
theorem lp_files {Q : Option LV → GH → Prop} (hM : MFix K R Ln) {fn : Nat} {x : Int32} (hf : I 590 11 = nI fn) (hb : fn ≤ 520) (hq : Q (some (iV (nI (cnt (fun e => decide (A 24 e = x)) fn)))) (K, I, J, R, A, B, Ln, n, sl)) : ∀ (f e : Nat), e + f = fn → Ev X mX9_files d 15 [some (rV (some 11)), some (iV x), some (iV (nI (cnt (fun e => decide (A 24 e = x)) e))), some (iV (nI e))] [] (K, I, J, R, A, B, Ln, n, sl) Q := by
  intro f
  induction f with
  | zero =>
    intro e he
    refine ev_iload_n dX9_files_15 rfl ?_
    refine ev_aload_n dX9_files_16 rfl ?_
    refine ev_getIv dX9_files_17 fX9_167 hM.m hf ?_
    refine ev_icmp_geN 47 dX9_files_20 (by decide) (by omega) (by omega) (fun c20 => ?_) (fun c20 => absurd c20 (by omega))
    refine ev_iload_n dX9_files_47 rfl ?_
    refine ev_ireturn dX9_files_48 rfl ?_
    rw [show e = fn by omega]; exact hq
  | succ f ih =>
    intro e he
    have kont : ∀ z : Nat, z = cnt (fun e => decide (A 24 e = x)) (e + 1) → Ev X mX9_files d 41 [some (rV (some 11)), some (iV x), some (iV (nI (z))), some (iV (nI e))] [] (K, I, J, R, A, B, Ln, n, sl) Q := by
      intro z hz
      subst hz
      refine ev_iincN (b := 1) _ dX9_files_41 rfl (by decide) (by decide) rfl ?_
      refine ev_goto 15 dX9_files_44 (by decide) ?_
      exact ih (e + 1) (by omega)
    refine ev_iload_n dX9_files_15 rfl ?_
    refine ev_aload_n dX9_files_16 rfl ?_
    refine ev_getIv dX9_files_17 fX9_167 hM.m hf ?_
    refine ev_icmp_geN 47 dX9_files_20 (by decide) (by omega) (by omega) (fun c20 => absurd c20 (by omega)) (fun c20 => ?_)
    refine ev_iload_n dX9_files_23 rfl ?_
    refine ev_aload_n dX9_files_24 rfl ?_
    refine ev_getR dX9_files_25 fX9_47 hM.m hM.R_level ?_
    refine ev_iload_n dX9_files_28 rfl ?_
    refine ev_iald dX9_files_29 hM.K_level hM.L_level (by decide) (by omega) ?_
    refine ev_iload_n dX9_files_30 rfl ?_
    refine ev_icmp_ne 38 dX9_files_31 (by decide) (fun c31 => ?_) (fun c31 => ?_)
    · refine ev_iconstN 0 dX9_files_38 (by decide) ?_
      refine ev_iaddN dX9_files_39 ?_
      refine ev_istore_n _ dX9_files_40 (by decide) rfl ?_
      exact kont _ (by simp [cnt, *])
    · refine ev_iconstN 1 dX9_files_34 (by decide) ?_
      refine ev_goto 39 dX9_files_35 (by decide) ?_
      refine ev_iaddN dX9_files_39 ?_
      refine ev_istore_n _ dX9_files_40 (by decide) rfl ?_
      exact kont _ (by simp [cnt, *])
theorem sp_files (hM : MFix K R Ln) {fn : Nat} {x : Int32} (hf : I 590 11 = nI fn) (hb : fn ≤ 520) : EvM X mX9_files d [rV (some 11), iV x] (K, I, J, R, A, B, Ln, n, sl) (fun r G' => r = some (iV (if x < 0 ∨ 2 < x then -1 else nI (cnt (fun e => decide (A 24 e = x)) fn))) ∧ G' = (K, I, J, R, A, B, Ln, n, sl)) := by
  show Ev X mX9_files d 0 [some (rV (some 11)), some (iV x), none, none] [] (K, I, J, R, A, B, Ln, n, sl) _
  refine ev_iload_n dX9_files_0 rfl ?_
  refine ev_if_lt 9 dX9_files_1 (by decide) (fun c1 => ?_) (fun c1 => ?_)
  · refine ev_iconst (-1) dX9_files_9 (by decide) ?_
    refine ev_ireturn dX9_files_10 rfl ?_
    try have z1 := Int32.not_lt.mpr c1
    try have y1 := Int32.not_le.mp c1
    try have z6 := Int32.not_lt.mpr c6
    try have y6 := Int32.not_le.mp c6
    exact ⟨by simp [*], rfl⟩
  · refine ev_iload_n dX9_files_4 rfl ?_
    refine ev_iconstN 2 dX9_files_5 (by decide) ?_
    refine ev_icmp_le (y := 2) 11 dX9_files_6 (by decide) (fun c6 => ?_) (fun c6 => ?_)
    · refine ev_iconstN 0 dX9_files_11 (by decide) ?_
      refine ev_istore_n _ dX9_files_12 (by decide) rfl ?_
      refine ev_iconstN 0 dX9_files_13 (by decide) ?_
      refine ev_istore_n _ dX9_files_14 (by decide) rfl ?_
      try have z1 := Int32.not_lt.mpr c1
      try have y1 := Int32.not_le.mp c1
      try have z6 := Int32.not_lt.mpr c6
      try have y6 := Int32.not_le.mp c6
      exact lp_files hM hf hb ⟨by simp [*], rfl⟩ fn 0 (by omega)
    · refine ev_iconst (-1) dX9_files_9 (by decide) ?_
      refine ev_ireturn dX9_files_10 rfl ?_
      try have z1 := Int32.not_lt.mpr c1
      try have y1 := Int32.not_le.mp c1
      try have z6 := Int32.not_lt.mpr c6
      try have y6 := Int32.not_le.mp c6
      exact ⟨by simp [*], rfl⟩
theorem nI_one : nI 1 = 1 := rfl
set_option maxRecDepth 100000 in
set_option maxHeartbeats 4000000 in
theorem lp_reads {Q : Option LV → GH → Prop} (hM : MFix K R Ln) {t : Nat} (hb : t < 60) (hq : Q (some (iV (bZ (allN (fun k => decide (A 27 (32 * t + k) = 0)) 32)))) (K, I, J, R, A, B, Ln, n, sl)) : ∀ (f e : Nat), e + f = 32 → Ev X mX9_reads d 4 [some (rV (some 11)), some (iV (nI t)), some (iV (bZ (allN (fun k => decide (A 27 (32 * t + k) = 0)) e))), some (iV (nI e))] [] (K, I, J, R, A, B, Ln, n, sl) Q := by
  intro f
  induction f with
  | zero =>
    intro e he
    refine ev_iload_n dX9_reads_4 rfl ?_
    refine ev_bipushN 32 dX9_reads_5 (by decide) ?_
    refine ev_icmp_geN 40 dX9_reads_7 (by decide) (by omega) (by omega) (fun c7 => ?_) (fun c7 => absurd c7 (by omega))
    refine ev_iload_n dX9_reads_40 rfl ?_
    refine ev_zreturn dX9_reads_41 rfl (bZ_01 _) ?_
    rw [show e = 32 by omega]; exact hq
  | succ f ih =>
    intro e he
    have kont : ∀ z : Int32, z = bZ (allN (fun k => decide (A 27 (32 * t + k) = 0)) (e + 1)) → Ev X mX9_reads d 34 [some (rV (some 11)), some (iV (nI t)), some (iV (z)), some (iV (nI e))] [] (K, I, J, R, A, B, Ln, n, sl) Q := by
      intro z hz
      subst hz
      refine ev_iincN (b := 1) _ dX9_reads_34 rfl (by decide) (by decide) rfl ?_
      refine ev_goto 4 dX9_reads_37 (by decide) ?_
      exact ih (e + 1) (by omega)
    cases ho : allN (fun k => decide (A 27 (32 * t + k) = 0)) e with
    | false =>
      show Ev X mX9_reads d 4 [some (rV (some 11)), some (iV (nI t)), some (iV (nI 0)), some (iV (nI e))] [] (K, I, J, R, A, B, Ln, n, sl) Q
      refine ev_iload_n dX9_reads_4 rfl ?_
      refine ev_bipushN 32 dX9_reads_5 (by decide) ?_
      refine ev_icmp_geN 40 dX9_reads_7 (by decide) (by omega) (by omega) (fun c7 => absurd c7 (by omega)) (fun c7 => ?_)
      refine ev_iload_n dX9_reads_10 rfl ?_
      refine ev_if_eqN 32 dX9_reads_11 (by decide) (by omega) (fun c11 => ?_) (fun c11 => absurd c11 (by decide))
      refine ev_iconstN 0 dX9_reads_32 (by decide) ?_
      refine ev_istore_n _ dX9_reads_33 (by decide) rfl ?_
      exact kont _ (by first | (simp [allN, anyN, bZ, ho, nI_0, nI_one, *]; done) | (simp [allN, anyN, bZ, ho, nI_0, nI_one, *]; rfl))
    | true =>
      show Ev X mX9_reads d 4 [some (rV (some 11)), some (iV (nI t)), some (iV (nI 1)), some (iV (nI e))] [] (K, I, J, R, A, B, Ln, n, sl) Q
      refine ev_iload_n dX9_reads_4 rfl ?_
      refine ev_bipushN 32 dX9_reads_5 (by decide) ?_
      refine ev_icmp_geN 40 dX9_reads_7 (by decide) (by omega) (by omega) (fun c7 => absurd c7 (by omega)) (fun c7 => ?_)
      refine ev_iload_n dX9_reads_10 rfl ?_
      refine ev_if_eqN 32 dX9_reads_11 (by decide) (by omega) (fun c11 => absurd c11 (by decide)) (fun c11 => ?_)
      refine ev_aload_n dX9_reads_14 rfl ?_
      refine ev_getR dX9_reads_15 fX9_56 hM.m hM.R_writes ?_
      refine ev_bipushN 32 dX9_reads_18 (by decide) ?_
      refine ev_iload_n dX9_reads_20 rfl ?_
      refine ev_imulN dX9_reads_21 ?_
      refine ev_iload_n dX9_reads_22 rfl ?_
      refine ev_iaddN dX9_reads_23 ?_
      refine ev_iald dX9_reads_24 hM.K_writes hM.L_writes (by decide) (by omega) ?_
      refine ev_if_ne 32 dX9_reads_25 (by decide) (fun c25 => ?_) (fun c25 => ?_)
      · refine ev_iconstN 0 dX9_reads_32 (by decide) ?_
        refine ev_istore_n _ dX9_reads_33 (by decide) rfl ?_
        exact kont _ (by first | (simp [allN, anyN, bZ, ho, nI_0, nI_one, *]; done) | (simp [allN, anyN, bZ, ho, nI_0, nI_one, *]; rfl))
      · refine ev_iconstN 1 dX9_reads_28 (by decide) ?_
        refine ev_goto 33 dX9_reads_29 (by decide) ?_
        refine ev_istore_n _ dX9_reads_33 (by decide) rfl ?_
        exact kont _ (by first | (simp [allN, anyN, bZ, ho, nI_0, nI_one, *]; done) | (simp [allN, anyN, bZ, ho, nI_0, nI_one, *]; rfl))
theorem sp_reads (hM : MFix K R Ln) {t : Nat} (hb : t < 60) : EvM X mX9_reads d [rV (some 11), iV (nI t)] (K, I, J, R, A, B, Ln, n, sl) (fun r G' => r = some (iV (bZ (allN (fun k => decide (A 27 (32 * t + k) = 0)) 32))) ∧ G' = (K, I, J, R, A, B, Ln, n, sl)) := by
  show Ev X mX9_reads d 0 [some (rV (some 11)), some (iV (nI t)), none, none] [] (K, I, J, R, A, B, Ln, n, sl) _
  refine ev_iconstN 1 dX9_reads_0 (by decide) ?_
  refine ev_istore_n _ dX9_reads_1 (by decide) rfl ?_
  refine ev_iconstN 0 dX9_reads_2 (by decide) ?_
  refine ev_istore_n _ dX9_reads_3 (by decide) rfl ?_
  exact lp_reads hM hb ⟨rfl, rfl⟩ 32 0 (by omega)
def btP (A : Nat → Nat → Int32) (t : Nat) (ky : Nat → Nat) (e : Nat) : Bool := decide (A 16 e = 0 ∧ A 26 t < A 19 e ∧ 0 < A 27 (32 * t + ky e))
set_option maxRecDepth 100000 in
set_option maxHeartbeats 4000000 in
theorem lp_beaten {Q : Option LV → GH → Prop} (hM : MFix K R Ln) {many t : Nat} {ky : Nat → Nat} (hm : I 582 11 = nI many) (hb : many ≤ 520) (ht : t < 60) (hk : ∀ e, e < many → A 18 e = nI (ky e) ∧ ky e < 32) (hq : Q (some (iV (bZ (anyN (btP A t ky) many)))) (K, I, J, R, A, B, Ln, n, sl)) : ∀ (f e : Nat), e + f = many → Ev X mX9_beaten d 4 [some (rV (some 11)), some (iV (nI t)), some (iV (bZ (anyN (btP A t ky) e))), some (iV (nI e))] [] (K, I, J, R, A, B, Ln, n, sl) Q := by
  intro f
  induction f with
  | zero =>
    intro e he
    refine ev_iload_n dX9_beaten_4 rfl ?_
    refine ev_aload_n dX9_beaten_5 rfl ?_
    refine ev_getIv dX9_beaten_6 fX9_106 hM.m hm ?_
    refine ev_icmp_geN 71 dX9_beaten_9 (by decide) (by omega) (by omega) (fun c9 => ?_) (fun c9 => absurd c9 (by omega))
    refine ev_iload_n dX9_beaten_71 rfl ?_
    refine ev_zreturn dX9_beaten_72 rfl (bZ_01 _) ?_
    rw [show e = many by omega]; exact hq
  | succ f ih =>
    intro e he
    have kont : ∀ z : Int32, z = bZ (anyN (btP A t ky) (e + 1)) → Ev X mX9_beaten d 65 [some (rV (some 11)), some (iV (nI t)), some (iV (z)), some (iV (nI e))] [] (K, I, J, R, A, B, Ln, n, sl) Q := by
      intro z hz
      subst hz
      refine ev_iincN (b := 1) _ dX9_beaten_65 rfl (by decide) (by decide) rfl ?_
      refine ev_goto 4 dX9_beaten_68 (by decide) ?_
      exact ih (e + 1) (by omega)
    cases ho : anyN (btP A t ky) e with
    | false =>
      show Ev X mX9_beaten d 4 [some (rV (some 11)), some (iV (nI t)), some (iV (nI 0)), some (iV (nI e))] [] (K, I, J, R, A, B, Ln, n, sl) Q
      refine ev_iload_n dX9_beaten_4 rfl ?_
      refine ev_aload_n dX9_beaten_5 rfl ?_
      refine ev_getIv dX9_beaten_6 fX9_106 hM.m hm ?_
      refine ev_icmp_geN 71 dX9_beaten_9 (by decide) (by omega) (by omega) (fun c9 => absurd c9 (by omega)) (fun c9 => ?_)
      refine ev_iload_n dX9_beaten_12 rfl ?_
      refine ev_if_neN 59 dX9_beaten_13 (by decide) (by omega) (fun c13 => absurd c13 (by decide)) (fun c13 => ?_)
      refine ev_aload_n dX9_beaten_16 rfl ?_
      refine ev_getR dX9_beaten_17 fX9_23 hM.m hM.R_space ?_
      refine ev_iload_n dX9_beaten_20 rfl ?_
      refine ev_iald dX9_beaten_21 hM.K_space hM.L_space (by decide) (by omega) ?_
      refine ev_if_ne 63 dX9_beaten_22 (by decide) (fun c22 => ?_) (fun c22 => ?_)
      · refine ev_iconstN 0 dX9_beaten_63 (by decide) ?_
        refine ev_istore_n _ dX9_beaten_64 (by decide) rfl ?_
        try have z37 := Int32.not_lt.mpr c37
        try have y37 := Int32.not_le.mp c37
        try have z56 := Int32.not_lt.mpr c56
        try have y56 := Int32.not_le.mp c56
        exact kont _ (by first | (simp [anyN, btP, bZ, ho, nI_0, nI_one, *]; done) | (simp [anyN, btP, bZ, ho, nI_0, nI_one, *]; rfl))
      · refine ev_aload_n dX9_beaten_25 rfl ?_
        refine ev_getR dX9_beaten_26 fX9_32 hM.m hM.R_stamp ?_
        refine ev_iload_n dX9_beaten_29 rfl ?_
        refine ev_iald dX9_beaten_30 hM.K_stamp hM.L_stamp (by decide) (by omega) ?_
        refine ev_aload_n dX9_beaten_31 rfl ?_
        refine ev_getR dX9_beaten_32 fX9_53 hM.m hM.R_began ?_
        refine ev_iload_n dX9_beaten_35 rfl ?_
        refine ev_iald dX9_beaten_36 hM.K_began hM.L_began (by decide) (by omega) ?_
        refine ev_icmp_le 63 dX9_beaten_37 (by decide) (fun c37 => ?_) (fun c37 => ?_)
        · refine ev_iconstN 0 dX9_beaten_63 (by decide) ?_
          refine ev_istore_n _ dX9_beaten_64 (by decide) rfl ?_
          try have z37 := Int32.not_lt.mpr c37
          try have y37 := Int32.not_le.mp c37
          try have z56 := Int32.not_lt.mpr c56
          try have y56 := Int32.not_le.mp c56
          exact kont _ (by first | (simp [anyN, btP, bZ, ho, nI_0, nI_one, *]; done) | (simp [anyN, btP, bZ, ho, nI_0, nI_one, *]; rfl))
        · refine ev_aload_n dX9_beaten_40 rfl ?_
          refine ev_getR dX9_beaten_41 fX9_56 hM.m hM.R_writes ?_
          refine ev_bipushN 32 dX9_beaten_44 (by decide) ?_
          refine ev_iload_n dX9_beaten_46 rfl ?_
          refine ev_imulN dX9_beaten_47 ?_
          refine ev_aload_n dX9_beaten_48 rfl ?_
          refine ev_getR dX9_beaten_49 fX9_29 hM.m hM.R_key ?_
          refine ev_iload_n dX9_beaten_52 rfl ?_
          refine ev_ialdv dX9_beaten_53 hM.K_key hM.L_key (by decide) (by omega) (hk e (by omega)).1 ?_
          refine ev_iaddN dX9_beaten_54 ?_
          refine ev_iald dX9_beaten_55 hM.K_writes hM.L_writes (by decide) (by have := (hk e (by omega)).2; omega) ?_
          refine ev_if_le 63 dX9_beaten_56 (by decide) (fun c56 => ?_) (fun c56 => ?_)
          · refine ev_iconstN 0 dX9_beaten_63 (by decide) ?_
            refine ev_istore_n _ dX9_beaten_64 (by decide) rfl ?_
            try have z37 := Int32.not_lt.mpr c37
            try have y37 := Int32.not_le.mp c37
            try have z56 := Int32.not_lt.mpr c56
            try have y56 := Int32.not_le.mp c56
            exact kont _ (by first | (simp [anyN, btP, bZ, ho, nI_0, nI_one, *]; done) | (simp [anyN, btP, bZ, ho, nI_0, nI_one, *]; rfl))
          · refine ev_iconstN 1 dX9_beaten_59 (by decide) ?_
            refine ev_goto 64 dX9_beaten_60 (by decide) ?_
            refine ev_istore_n _ dX9_beaten_64 (by decide) rfl ?_
            try have z37 := Int32.not_lt.mpr c37
            try have y37 := Int32.not_le.mp c37
            try have z56 := Int32.not_lt.mpr c56
            try have y56 := Int32.not_le.mp c56
            exact kont _ (by first | (simp [anyN, btP, bZ, ho, nI_0, nI_one, *]; done) | (simp [anyN, btP, bZ, ho, nI_0, nI_one, *]; rfl))
    | true =>
      show Ev X mX9_beaten d 4 [some (rV (some 11)), some (iV (nI t)), some (iV (nI 1)), some (iV (nI e))] [] (K, I, J, R, A, B, Ln, n, sl) Q
      refine ev_iload_n dX9_beaten_4 rfl ?_
      refine ev_aload_n dX9_beaten_5 rfl ?_
      refine ev_getIv dX9_beaten_6 fX9_106 hM.m hm ?_
      refine ev_icmp_geN 71 dX9_beaten_9 (by decide) (by omega) (by omega) (fun c9 => absurd c9 (by omega)) (fun c9 => ?_)
      refine ev_iload_n dX9_beaten_12 rfl ?_
      refine ev_if_neN 59 dX9_beaten_13 (by decide) (by omega) (fun c13 => ?_) (fun c13 => absurd c13 (by decide))
      refine ev_iconstN 1 dX9_beaten_59 (by decide) ?_
      refine ev_goto 64 dX9_beaten_60 (by decide) ?_
      refine ev_istore_n _ dX9_beaten_64 (by decide) rfl ?_
      try have z37 := Int32.not_lt.mpr c37
      try have y37 := Int32.not_le.mp c37
      try have z56 := Int32.not_lt.mpr c56
      try have y56 := Int32.not_le.mp c56
      exact kont _ (by first | (simp [anyN, btP, bZ, ho, nI_0, nI_one, *]; done) | (simp [anyN, btP, bZ, ho, nI_0, nI_one, *]; rfl))
theorem sp_beaten (hM : MFix K R Ln) {many t : Nat} {ky : Nat → Nat} (hm : I 582 11 = nI many) (hb : many ≤ 520) (ht : t < 60) (hk : ∀ e, e < many → A 18 e = nI (ky e) ∧ ky e < 32) : EvM X mX9_beaten d [rV (some 11), iV (nI t)] (K, I, J, R, A, B, Ln, n, sl) (fun r G' => r = some (iV (bZ (anyN (btP A t ky) many))) ∧ G' = (K, I, J, R, A, B, Ln, n, sl)) := by
  show Ev X mX9_beaten d 0 [some (rV (some 11)), some (iV (nI t)), none, none] [] (K, I, J, R, A, B, Ln, n, sl) _
  refine ev_iconstN 0 dX9_beaten_0 (by decide) ?_
  refine ev_istore_n _ dX9_beaten_1 (by decide) rfl ?_
  refine ev_iconstN 0 dX9_beaten_2 (by decide) ?_
  refine ev_istore_n _ dX9_beaten_3 (by decide) rfl ?_
  exact lp_beaten hM hm hb ht hk ⟨rfl, rfl⟩ many 0 (by omega)
def plI (s v k : Nat → Int32) (a b : Nat) : Int32 := if s a = s b then (if v a = v b then (if k a < k b then -1 else if k b < k a then 1 else 0) else if v a < v b then -1 else 1) else if s a < s b then -1 else 1
def bfB (s v k t : Nat → Int32) (a b : Nat) : Bool := decide (plI s v k a b < 0 ∨ (plI s v k a b = 0 ∧ t b < t a))
set_option maxRecDepth 100000 in
set_option maxHeartbeats 4000000 in
theorem sp_places (hM : MFix K R Ln) {a b : Nat} (ha : a < 520) (hb : b < 520) : EvM X mX9_places d [rV (some 11), iV (nI a), iV (nI b)] (K, I, J, R, A, B, Ln, n, sl) (fun r G' => r = some (iV (plI (A 16) (A 17) (A 18) a b)) ∧ G' = (K, I, J, R, A, B, Ln, n, sl)) := by
  show Ev X mX9_places d 0 [some (rV (some 11)), some (iV (nI a)), some (iV (nI b))] [] (K, I, J, R, A, B, Ln, n, sl) _
  unfold plI
  refine ev_aload_n dX9_places_0 rfl ?_
  refine ev_getR dX9_places_1 fX9_23 hM.m hM.R_space ?_
  refine ev_iload_n dX9_places_4 rfl ?_
  refine ev_iald dX9_places_5 hM.K_space hM.L_space (by decide) (by omega) ?_
  refine ev_aload_n dX9_places_6 rfl ?_
  refine ev_getR dX9_places_7 fX9_23 hM.m hM.R_space ?_
  refine ev_iload_n dX9_places_10 rfl ?_
  refine ev_iald dX9_places_11 hM.K_space hM.L_space (by decide) (by omega) ?_
  refine ev_icmp_eq 36 dX9_places_12 (by decide) (fun c12 => ?_) (fun c12 => ?_)
  · refine ev_aload_n dX9_places_36 rfl ?_
    refine ev_getR dX9_places_37 fX9_26 hM.m hM.R_value ?_
    refine ev_iload_n dX9_places_40 rfl ?_
    refine ev_iald dX9_places_41 hM.K_value hM.L_value (by decide) (by omega) ?_
    refine ev_aload_n dX9_places_42 rfl ?_
    refine ev_getR dX9_places_43 fX9_26 hM.m hM.R_value ?_
    refine ev_iload_n dX9_places_46 rfl ?_
    refine ev_iald dX9_places_47 hM.K_value hM.L_value (by decide) (by omega) ?_
    refine ev_icmp_eq 72 dX9_places_48 (by decide) (fun c48 => ?_) (fun c48 => ?_)
    · refine ev_aload_n dX9_places_72 rfl ?_
      refine ev_getR dX9_places_73 fX9_29 hM.m hM.R_key ?_
      refine ev_iload_n dX9_places_76 rfl ?_
      refine ev_iald dX9_places_77 hM.K_key hM.L_key (by decide) (by omega) ?_
      refine ev_aload_n dX9_places_78 rfl ?_
      refine ev_getR dX9_places_79 fX9_29 hM.m hM.R_key ?_
      refine ev_iload_n dX9_places_82 rfl ?_
      refine ev_iald dX9_places_83 hM.K_key hM.L_key (by decide) (by omega) ?_
      refine ev_icmp_ge 91 dX9_places_84 (by decide) (fun c84 => ?_) (fun c84 => ?_)
      · refine ev_aload_n dX9_places_91 rfl ?_
        refine ev_getR dX9_places_92 fX9_29 hM.m hM.R_key ?_
        refine ev_iload_n dX9_places_95 rfl ?_
        refine ev_iald dX9_places_96 hM.K_key hM.L_key (by decide) (by omega) ?_
        refine ev_aload_n dX9_places_97 rfl ?_
        refine ev_getR dX9_places_98 fX9_29 hM.m hM.R_key ?_
        refine ev_iload_n dX9_places_101 rfl ?_
        refine ev_iald dX9_places_102 hM.K_key hM.L_key (by decide) (by omega) ?_
        refine ev_icmp_le 110 dX9_places_103 (by decide) (fun c103 => ?_) (fun c103 => ?_)
        · refine ev_iconstN 0 dX9_places_110 (by decide) ?_
          refine ev_ireturn dX9_places_111 rfl ?_
          try have z27 := Int32.not_lt.mpr c27
          try have y27 := Int32.not_le.mp c27
          try have z63 := Int32.not_lt.mpr c63
          try have y63 := Int32.not_le.mp c63
          try have z84 := Int32.not_lt.mpr c84
          try have y84 := Int32.not_le.mp c84
          try have z103 := Int32.not_lt.mpr c103
          try have y103 := Int32.not_le.mp c103
          exact ⟨by first | (simp [*]; done) | (simp [*]; rfl), rfl⟩
        · refine ev_iconstN 1 dX9_places_106 (by decide) ?_
          refine ev_goto 111 dX9_places_107 (by decide) ?_
          refine ev_ireturn dX9_places_111 rfl ?_
          try have z27 := Int32.not_lt.mpr c27
          try have y27 := Int32.not_le.mp c27
          try have z63 := Int32.not_lt.mpr c63
          try have y63 := Int32.not_le.mp c63
          try have z84 := Int32.not_lt.mpr c84
          try have y84 := Int32.not_le.mp c84
          try have z103 := Int32.not_lt.mpr c103
          try have y103 := Int32.not_le.mp c103
          exact ⟨by first | (simp [*]; done) | (simp [*]; rfl), rfl⟩
      · refine ev_iconst (-1) dX9_places_87 (by decide) ?_
        refine ev_goto 111 dX9_places_88 (by decide) ?_
        refine ev_ireturn dX9_places_111 rfl ?_
        try have z27 := Int32.not_lt.mpr c27
        try have y27 := Int32.not_le.mp c27
        try have z63 := Int32.not_lt.mpr c63
        try have y63 := Int32.not_le.mp c63
        try have z84 := Int32.not_lt.mpr c84
        try have y84 := Int32.not_le.mp c84
        try have z103 := Int32.not_lt.mpr c103
        try have y103 := Int32.not_le.mp c103
        exact ⟨by first | (simp [*]; done) | (simp [*]; rfl), rfl⟩
    · refine ev_aload_n dX9_places_51 rfl ?_
      refine ev_getR dX9_places_52 fX9_26 hM.m hM.R_value ?_
      refine ev_iload_n dX9_places_55 rfl ?_
      refine ev_iald dX9_places_56 hM.K_value hM.L_value (by decide) (by omega) ?_
      refine ev_aload_n dX9_places_57 rfl ?_
      refine ev_getR dX9_places_58 fX9_26 hM.m hM.R_value ?_
      refine ev_iload_n dX9_places_61 rfl ?_
      refine ev_iald dX9_places_62 hM.K_value hM.L_value (by decide) (by omega) ?_
      refine ev_icmp_ge 70 dX9_places_63 (by decide) (fun c63 => ?_) (fun c63 => ?_)
      · refine ev_iconstN 1 dX9_places_70 (by decide) ?_
        refine ev_ireturn dX9_places_71 rfl ?_
        try have z27 := Int32.not_lt.mpr c27
        try have y27 := Int32.not_le.mp c27
        try have z63 := Int32.not_lt.mpr c63
        try have y63 := Int32.not_le.mp c63
        try have z84 := Int32.not_lt.mpr c84
        try have y84 := Int32.not_le.mp c84
        try have z103 := Int32.not_lt.mpr c103
        try have y103 := Int32.not_le.mp c103
        exact ⟨by first | (simp [*]; done) | (simp [*]; rfl), rfl⟩
      · refine ev_iconst (-1) dX9_places_66 (by decide) ?_
        refine ev_goto 71 dX9_places_67 (by decide) ?_
        refine ev_ireturn dX9_places_71 rfl ?_
        try have z27 := Int32.not_lt.mpr c27
        try have y27 := Int32.not_le.mp c27
        try have z63 := Int32.not_lt.mpr c63
        try have y63 := Int32.not_le.mp c63
        try have z84 := Int32.not_lt.mpr c84
        try have y84 := Int32.not_le.mp c84
        try have z103 := Int32.not_lt.mpr c103
        try have y103 := Int32.not_le.mp c103
        exact ⟨by first | (simp [*]; done) | (simp [*]; rfl), rfl⟩
  · refine ev_aload_n dX9_places_15 rfl ?_
    refine ev_getR dX9_places_16 fX9_23 hM.m hM.R_space ?_
    refine ev_iload_n dX9_places_19 rfl ?_
    refine ev_iald dX9_places_20 hM.K_space hM.L_space (by decide) (by omega) ?_
    refine ev_aload_n dX9_places_21 rfl ?_
    refine ev_getR dX9_places_22 fX9_23 hM.m hM.R_space ?_
    refine ev_iload_n dX9_places_25 rfl ?_
    refine ev_iald dX9_places_26 hM.K_space hM.L_space (by decide) (by omega) ?_
    refine ev_icmp_ge 34 dX9_places_27 (by decide) (fun c27 => ?_) (fun c27 => ?_)
    · refine ev_iconstN 1 dX9_places_34 (by decide) ?_
      refine ev_ireturn dX9_places_35 rfl ?_
      try have z27 := Int32.not_lt.mpr c27
      try have y27 := Int32.not_le.mp c27
      try have z63 := Int32.not_lt.mpr c63
      try have y63 := Int32.not_le.mp c63
      try have z84 := Int32.not_lt.mpr c84
      try have y84 := Int32.not_le.mp c84
      try have z103 := Int32.not_lt.mpr c103
      try have y103 := Int32.not_le.mp c103
      exact ⟨by first | (simp [*]; done) | (simp [*]; rfl), rfl⟩
    · refine ev_iconst (-1) dX9_places_30 (by decide) ?_
      refine ev_goto 35 dX9_places_31 (by decide) ?_
      refine ev_ireturn dX9_places_35 rfl ?_
      try have z27 := Int32.not_lt.mpr c27
      try have y27 := Int32.not_le.mp c27
      try have z63 := Int32.not_lt.mpr c63
      try have y63 := Int32.not_le.mp c63
      try have z84 := Int32.not_lt.mpr c84
      try have y84 := Int32.not_le.mp c84
      try have z103 := Int32.not_lt.mpr c103
      try have y103 := Int32.not_le.mp c103
      exact ⟨by first | (simp [*]; done) | (simp [*]; rfl), rfl⟩
set_option maxRecDepth 100000 in
set_option maxHeartbeats 4000000 in
theorem sp_before (hM : MFix K R Ln) {a b : Nat} (ha : a < 520) (hb : b < 520) : EvM X mX9_before (d + 1) [rV (some 11), iV (nI a), iV (nI b)] (K, I, J, R, A, B, Ln, n, sl) (fun r G' => r = some (iV (bZ (bfB (A 16) (A 17) (A 18) (A 19) a b))) ∧ G' = (K, I, J, R, A, B, Ln, n, sl)) := by
  show Ev X mX9_before (d + 1) 0 [some (rV (some 11)), some (iV (nI a)), some (iV (nI b)), none] [] (K, I, J, R, A, B, Ln, n, sl) _
  unfold bfB
  refine ev_aload_n dX9_before_0 rfl ?_
  refine ev_iload_n dX9_before_1 rfl ?_
  refine ev_iload_n dX9_before_2 rfl ?_
  refine ev_callV dX9_before_3 okX9_places inX9_places seX9_places mlX9_178 hM.m (by decide) rfl [iV _, iV _] rfl rfl (Nat.le_of_ble_eq_true rfl) (Nat.le_of_ble_eq_true rfl) (sp_places hM ha hb) (fun r_ G_ h_ => ?_)
  obtain ⟨rfl, rfl⟩ := h_
  dsimp only [Option.toList, List.cons_append, List.nil_append]
  refine ev_istore_n _ dX9_before_6 (by decide) rfl ?_
  refine ev_iload_n dX9_before_7 rfl ?_
  refine ev_if_lt 30 dX9_before_8 (by decide) (fun c8 => ?_) (fun c8 => ?_)
  · refine ev_iconstN 1 dX9_before_30 (by decide) ?_
    refine ev_goto 35 dX9_before_31 (by decide) ?_
    refine ev_zreturn dX9_before_35 rfl (by decide) ?_
    try have z8 := Int32.not_lt.mpr c8
    try have y8 := Int32.not_le.mp c8
    try have z27 := Int32.not_lt.mpr c27
    try have y27 := Int32.not_le.mp c27
    exact ⟨by first | (simp [bZ, *]; done) | (simp [bZ, *]; rfl), rfl⟩
  · refine ev_iload_n dX9_before_11 rfl ?_
    refine ev_if_ne 34 dX9_before_12 (by decide) (fun c12 => ?_) (fun c12 => ?_)
    · refine ev_iconstN 0 dX9_before_34 (by decide) ?_
      refine ev_zreturn dX9_before_35 rfl (by decide) ?_
      try have z8 := Int32.not_lt.mpr c8
      try have y8 := Int32.not_le.mp c8
      try have z27 := Int32.not_lt.mpr c27
      try have y27 := Int32.not_le.mp c27
      exact ⟨by first | (simp [bZ, *]; done) | (simp [bZ, *]; rfl), rfl⟩
    · refine ev_aload_n dX9_before_15 rfl ?_
      refine ev_getR dX9_before_16 fX9_32 hM.m hM.R_stamp ?_
      refine ev_iload_n dX9_before_19 rfl ?_
      refine ev_iald dX9_before_20 hM.K_stamp hM.L_stamp (by decide) (by omega) ?_
      refine ev_aload_n dX9_before_21 rfl ?_
      refine ev_getR dX9_before_22 fX9_32 hM.m hM.R_stamp ?_
      refine ev_iload_n dX9_before_25 rfl ?_
      refine ev_iald dX9_before_26 hM.K_stamp hM.L_stamp (by decide) (by omega) ?_
      refine ev_icmp_le 34 dX9_before_27 (by decide) (fun c27 => ?_) (fun c27 => ?_)
      · refine ev_iconstN 0 dX9_before_34 (by decide) ?_
        refine ev_zreturn dX9_before_35 rfl (by decide) ?_
        try have z8 := Int32.not_lt.mpr c8
        try have y8 := Int32.not_le.mp c8
        try have z27 := Int32.not_lt.mpr c27
        try have y27 := Int32.not_le.mp c27
        exact ⟨by first | (simp [bZ, *]; done) | (simp [bZ, *]; rfl), rfl⟩
      · refine ev_iconstN 1 dX9_before_30 (by decide) ?_
        refine ev_goto 35 dX9_before_31 (by decide) ?_
        refine ev_zreturn dX9_before_35 rfl (by decide) ?_
        try have z8 := Int32.not_lt.mpr c8
        try have y8 := Int32.not_le.mp c8
        try have z27 := Int32.not_lt.mpr c27
        try have y27 := Int32.not_le.mp c27
        exact ⟨by first | (simp [bZ, *]; done) | (simp [bZ, *]; rfl), rfl⟩
end M3
end
