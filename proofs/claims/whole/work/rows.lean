section
-- ===== PART A: goes FIRST, ahead of the names: the tables' words, and 'selects' of the private methods out of them =====
/-- a private method of a class that the tables say can be made, by its rows of tables_1 -/
def lw_okq (q : MethodName × Nat) : Prop := (q.1.cls ≠ "java/lang/invoke/MethodHandle" ∧ q.1.cls ≠ "java/lang/invoke/VarHandle") ∧ Cond.instantiable q.1.cls q.2 ∈ tables_1 ∧ Cond.privateMethod q.1 ∈ tables_1 ∧ Cond.instanceMethod q.1 ∈ tables_1
theorem lw_p0 : lw_okq (⟨"VersionedRows$Expression", "isBool", "()Z"⟩, 5) := ⟨⟨by decide +kernel, by decide +kernel⟩, List.mem_of_getElem? (i := 141) (by decide +kernel), List.mem_of_getElem? (i := 139) (by decide +kernel), List.mem_of_getElem? (i := 140) (by decide +kernel)⟩
theorem lw_p1 : lw_okq (⟨"VersionedRows", "topOfPile", "()LVersionedRows$Expression;"⟩, 13) := ⟨⟨by decide +kernel, by decide +kernel⟩, List.mem_of_getElem? (i := 21) (by decide +kernel), List.mem_of_getElem? (i := 182) (by decide +kernel), List.mem_of_getElem? (i := 183) (by decide +kernel)⟩
theorem lw_p2 : lw_okq (⟨"VersionedRows", "countOpen", "()I"⟩, 13) := ⟨⟨by decide +kernel, by decide +kernel⟩, List.mem_of_getElem? (i := 21) (by decide +kernel), List.mem_of_getElem? (i := 190) (by decide +kernel), List.mem_of_getElem? (i := 191) (by decide +kernel)⟩
theorem lw_p3 : lw_okq (⟨"VersionedRows$Transaction", "isOpen", "()Z"⟩, 5) := ⟨⟨by decide +kernel, by decide +kernel⟩, List.mem_of_getElem? (i := 196) (by decide +kernel), List.mem_of_getElem? (i := 194) (by decide +kernel), List.mem_of_getElem? (i := 195) (by decide +kernel)⟩
theorem lw_p4 : lw_okq (⟨"VersionedRows", "openOne", "(I)LVersionedRows$Transaction;"⟩, 13) := ⟨⟨by decide +kernel, by decide +kernel⟩, List.mem_of_getElem? (i := 21) (by decide +kernel), List.mem_of_getElem? (i := 231) (by decide +kernel), List.mem_of_getElem? (i := 232) (by decide +kernel)⟩
theorem lw_p5 : lw_okq (⟨"VersionedRows", "transactionOf", "(I)LVersionedRows$Transaction;"⟩, 13) := ⟨⟨by decide +kernel, by decide +kernel⟩, List.mem_of_getElem? (i := 21) (by decide +kernel), List.mem_of_getElem? (i := 235) (by decide +kernel), List.mem_of_getElem? (i := 236) (by decide +kernel)⟩
theorem lw_p6 : lw_okq (⟨"VersionedRows", "rowFor", "(LVersionedRows$Transaction;I)LVersionedRows$Row;"⟩, 13) := ⟨⟨by decide +kernel, by decide +kernel⟩, List.mem_of_getElem? (i := 21) (by decide +kernel), List.mem_of_getElem? (i := 242) (by decide +kernel), List.mem_of_getElem? (i := 243) (by decide +kernel)⟩
theorem lw_p7 : lw_okq (⟨"VersionedRows$Store", "rowAt", "(II)LVersionedRows$Row;"⟩, 5) := ⟨⟨by decide +kernel, by decide +kernel⟩, List.mem_of_getElem? (i := 33) (by decide +kernel), List.mem_of_getElem? (i := 246) (by decide +kernel), List.mem_of_getElem? (i := 247) (by decide +kernel)⟩
theorem lw_p8 : lw_okq (⟨"VersionedRows$Store", "seenRow", "(II)LVersionedRows$Entry;"⟩, 5) := ⟨⟨by decide +kernel, by decide +kernel⟩, List.mem_of_getElem? (i := 33) (by decide +kernel), List.mem_of_getElem? (i := 250) (by decide +kernel), List.mem_of_getElem? (i := 251) (by decide +kernel)⟩
theorem lw_p9 : lw_okq (⟨"VersionedRows$Store", "countBefore", "(JI)I"⟩, 5) := ⟨⟨by decide +kernel, by decide +kernel⟩, List.mem_of_getElem? (i := 33) (by decide +kernel), List.mem_of_getElem? (i := 258) (by decide +kernel), List.mem_of_getElem? (i := 259) (by decide +kernel)⟩
theorem lw_p10 : lw_okq (⟨"VersionedRows$Entry", "isBefore", "(JI)Z"⟩, 7) := ⟨⟨by decide +kernel, by decide +kernel⟩, List.mem_of_getElem? (i := 264) (by decide +kernel), List.mem_of_getElem? (i := 262) (by decide +kernel), List.mem_of_getElem? (i := 263) (by decide +kernel)⟩
theorem lw_p11 : lw_okq (⟨"VersionedRows$Transaction", "put", "(ILVersionedRows$Row;)V"⟩, 5) := ⟨⟨by decide +kernel, by decide +kernel⟩, List.mem_of_getElem? (i := 196) (by decide +kernel), List.mem_of_getElem? (i := 293) (by decide +kernel), List.mem_of_getElem? (i := 294) (by decide +kernel)⟩
theorem lw_p12 : lw_okq (⟨"VersionedRows", "choosePlan", "(LVersionedRows$Expression;)V"⟩, 13) := ⟨⟨by decide +kernel, by decide +kernel⟩, List.mem_of_getElem? (i := 21) (by decide +kernel), List.mem_of_getElem? (i := 305) (by decide +kernel), List.mem_of_getElem? (i := 306) (by decide +kernel)⟩
theorem lw_p13 : lw_okq (⟨"VersionedRows$Range", "hear", "(LVersionedRows$Expression;)V"⟩, 4) := ⟨⟨by decide +kernel, by decide +kernel⟩, List.mem_of_getElem? (i := 309) (by decide +kernel), List.mem_of_getElem? (i := 333) (by decide +kernel), List.mem_of_getElem? (i := 334) (by decide +kernel)⟩
theorem lw_p14 : lw_okq (⟨"VersionedRows$Range", "hearComparison", "(ZLVersionedRows$Expression;LVersionedRows$Expression;)V"⟩, 4) := ⟨⟨by decide +kernel, by decide +kernel⟩, List.mem_of_getElem? (i := 309) (by decide +kernel), List.mem_of_getElem? (i := 338) (by decide +kernel), List.mem_of_getElem? (i := 339) (by decide +kernel)⟩
theorem lw_p15 : lw_okq (⟨"VersionedRows$Expression", "isConst", "()Z"⟩, 5) := ⟨⟨by decide +kernel, by decide +kernel⟩, List.mem_of_getElem? (i := 141) (by decide +kernel), List.mem_of_getElem? (i := 342) (by decide +kernel), List.mem_of_getElem? (i := 343) (by decide +kernel)⟩
def lw_privs_1 : List (MethodName × Nat) := [(⟨"VersionedRows$Expression", "isBool", "()Z"⟩, 5), (⟨"VersionedRows", "topOfPile", "()LVersionedRows$Expression;"⟩, 13), (⟨"VersionedRows", "countOpen", "()I"⟩, 13), (⟨"VersionedRows$Transaction", "isOpen", "()Z"⟩, 5), (⟨"VersionedRows", "openOne", "(I)LVersionedRows$Transaction;"⟩, 13), (⟨"VersionedRows", "transactionOf", "(I)LVersionedRows$Transaction;"⟩, 13), (⟨"VersionedRows", "rowFor", "(LVersionedRows$Transaction;I)LVersionedRows$Row;"⟩, 13), (⟨"VersionedRows$Store", "rowAt", "(II)LVersionedRows$Row;"⟩, 5), (⟨"VersionedRows$Store", "seenRow", "(II)LVersionedRows$Entry;"⟩, 5), (⟨"VersionedRows$Store", "countBefore", "(JI)I"⟩, 5), (⟨"VersionedRows$Entry", "isBefore", "(JI)Z"⟩, 7), (⟨"VersionedRows$Transaction", "put", "(ILVersionedRows$Row;)V"⟩, 5), (⟨"VersionedRows", "choosePlan", "(LVersionedRows$Expression;)V"⟩, 13), (⟨"VersionedRows$Range", "hear", "(LVersionedRows$Expression;)V"⟩, 4), (⟨"VersionedRows$Range", "hearComparison", "(ZLVersionedRows$Expression;LVersionedRows$Expression;)V"⟩, 4), (⟨"VersionedRows$Expression", "isConst", "()Z"⟩, 5)]
theorem lw_r1 : ∀ q ∈ lw_privs_1, lw_okq q := List.forall_mem_cons.mpr ⟨lw_p0, List.forall_mem_cons.mpr ⟨lw_p1, List.forall_mem_cons.mpr ⟨lw_p2, List.forall_mem_cons.mpr ⟨lw_p3, List.forall_mem_cons.mpr ⟨lw_p4, List.forall_mem_cons.mpr ⟨lw_p5, List.forall_mem_cons.mpr ⟨lw_p6, List.forall_mem_cons.mpr ⟨lw_p7, List.forall_mem_cons.mpr ⟨lw_p8, List.forall_mem_cons.mpr ⟨lw_p9, List.forall_mem_cons.mpr ⟨lw_p10, List.forall_mem_cons.mpr ⟨lw_p11, List.forall_mem_cons.mpr ⟨lw_p12, List.forall_mem_cons.mpr ⟨lw_p13, List.forall_mem_cons.mpr ⟨lw_p14, List.forall_mem_cons.mpr ⟨lw_p15, fun _ h => absurd h List.not_mem_nil⟩⟩⟩⟩⟩⟩⟩⟩⟩⟩⟩⟩⟩⟩⟩⟩
theorem lw_p16 : lw_okq (⟨"VersionedRows$Range", "narrow", "(JJ)V"⟩, 4) := ⟨⟨by decide +kernel, by decide +kernel⟩, List.mem_of_getElem? (i := 309) (by decide +kernel), List.mem_of_getElem? (i := 350) (by decide +kernel), List.mem_of_getElem? (i := 351) (by decide +kernel)⟩
theorem lw_p17 : lw_okq (⟨"VersionedRows$Range", "width", "()J"⟩, 4) := ⟨⟨by decide +kernel, by decide +kernel⟩, List.mem_of_getElem? (i := 309) (by decide +kernel), List.mem_of_getElem? (i := 360) (by decide +kernel), List.mem_of_getElem? (i := 361) (by decide +kernel)⟩
theorem lw_p18 : lw_okq (⟨"VersionedRows", "countCandidates", "(I)V"⟩, 13) := ⟨⟨by decide +kernel, by decide +kernel⟩, List.mem_of_getElem? (i := 21) (by decide +kernel), List.mem_of_getElem? (i := 364) (by decide +kernel), List.mem_of_getElem? (i := 365) (by decide +kernel)⟩
theorem lw_p19 : lw_okq (⟨"VersionedRows$Store", "countThere", "(IJJI)I"⟩, 5) := ⟨⟨by decide +kernel, by decide +kernel⟩, List.mem_of_getElem? (i := 33) (by decide +kernel), List.mem_of_getElem? (i := 368) (by decide +kernel), List.mem_of_getElem? (i := 369) (by decide +kernel)⟩
theorem lw_p20 : lw_okq (⟨"VersionedRows$Entry", "isWithin", "(IJJ)Z"⟩, 7) := ⟨⟨by decide +kernel, by decide +kernel⟩, List.mem_of_getElem? (i := 264) (by decide +kernel), List.mem_of_getElem? (i := 372) (by decide +kernel), List.mem_of_getElem? (i := 373) (by decide +kernel)⟩
theorem lw_p21 : lw_okq (⟨"VersionedRows", "fillResult", "(LVersionedRows$Expression;LVersionedRows$Transaction;)V"⟩, 13) := ⟨⟨by decide +kernel, by decide +kernel⟩, List.mem_of_getElem? (i := 21) (by decide +kernel), List.mem_of_getElem? (i := 376) (by decide +kernel), List.mem_of_getElem? (i := 377) (by decide +kernel)⟩
theorem lw_p22 : lw_okq (⟨"VersionedRows$Row", "startsWith", "(I)Z"⟩, 3) := ⟨⟨by decide +kernel, by decide +kernel⟩, List.mem_of_getElem? (i := 271) (by decide +kernel), List.mem_of_getElem? (i := 387) (by decide +kernel), List.mem_of_getElem? (i := 388) (by decide +kernel)⟩
theorem lw_p23 : lw_okq (⟨"VersionedRows", "isTooLate", "(LVersionedRows$Transaction;)Z"⟩, 13) := ⟨⟨by decide +kernel, by decide +kernel⟩, List.mem_of_getElem? (i := 21) (by decide +kernel), List.mem_of_getElem? (i := 395) (by decide +kernel), List.mem_of_getElem? (i := 396) (by decide +kernel)⟩
theorem lw_p24 : lw_okq (⟨"VersionedRows$Store", "lastStampOf", "(I)I"⟩, 5) := ⟨⟨by decide +kernel, by decide +kernel⟩, List.mem_of_getElem? (i := 33) (by decide +kernel), List.mem_of_getElem? (i := 399) (by decide +kernel), List.mem_of_getElem? (i := 400) (by decide +kernel)⟩
theorem lw_p25 : lw_okq (⟨"VersionedRows", "batchSize", "(LVersionedRows$Transaction;)I"⟩, 13) := ⟨⟨by decide +kernel, by decide +kernel⟩, List.mem_of_getElem? (i := 21) (by decide +kernel), List.mem_of_getElem? (i := 404) (by decide +kernel), List.mem_of_getElem? (i := 405) (by decide +kernel)⟩
theorem lw_p26 : lw_okq (⟨"VersionedRows", "countIndexEntries", "(LVersionedRows$Row;LVersionedRows$Row;)I"⟩, 13) := ⟨⟨by decide +kernel, by decide +kernel⟩, List.mem_of_getElem? (i := 21) (by decide +kernel), List.mem_of_getElem? (i := 408) (by decide +kernel), List.mem_of_getElem? (i := 409) (by decide +kernel)⟩
theorem lw_p27 : lw_okq (⟨"VersionedRows", "hasOwnValue", "(ILVersionedRows$Row;LVersionedRows$Row;)Z"⟩, 13) := ⟨⟨by decide +kernel, by decide +kernel⟩, List.mem_of_getElem? (i := 21) (by decide +kernel), List.mem_of_getElem? (i := 412) (by decide +kernel), List.mem_of_getElem? (i := 413) (by decide +kernel)⟩
theorem lw_p28 : lw_okq (⟨"VersionedRows", "valueIn", "(ILVersionedRows$Row;)I"⟩, 13) := ⟨⟨by decide +kernel, by decide +kernel⟩, List.mem_of_getElem? (i := 21) (by decide +kernel), List.mem_of_getElem? (i := 416) (by decide +kernel), List.mem_of_getElem? (i := 417) (by decide +kernel)⟩
theorem lw_p29 : lw_okq (⟨"VersionedRows$Store", "hasRoomFor", "(I)Z"⟩, 5) := ⟨⟨by decide +kernel, by decide +kernel⟩, List.mem_of_getElem? (i := 33) (by decide +kernel), List.mem_of_getElem? (i := 421) (by decide +kernel), List.mem_of_getElem? (i := 422) (by decide +kernel)⟩
theorem lw_p30 : lw_okq (⟨"VersionedRows", "takeBatch", "(LVersionedRows$Transaction;)V"⟩, 13) := ⟨⟨by decide +kernel, by decide +kernel⟩, List.mem_of_getElem? (i := 21) (by decide +kernel), List.mem_of_getElem? (i := 425) (by decide +kernel), List.mem_of_getElem? (i := 426) (by decide +kernel)⟩
theorem lw_p31 : lw_okq (⟨"VersionedRows$Store", "add", "(LVersionedRows$Entry;)V"⟩, 5) := ⟨⟨by decide +kernel, by decide +kernel⟩, List.mem_of_getElem? (i := 33) (by decide +kernel), List.mem_of_getElem? (i := 469) (by decide +kernel), List.mem_of_getElem? (i := 470) (by decide +kernel)⟩
def lw_privs_2 : List (MethodName × Nat) := [(⟨"VersionedRows$Range", "narrow", "(JJ)V"⟩, 4), (⟨"VersionedRows$Range", "width", "()J"⟩, 4), (⟨"VersionedRows", "countCandidates", "(I)V"⟩, 13), (⟨"VersionedRows$Store", "countThere", "(IJJI)I"⟩, 5), (⟨"VersionedRows$Entry", "isWithin", "(IJJ)Z"⟩, 7), (⟨"VersionedRows", "fillResult", "(LVersionedRows$Expression;LVersionedRows$Transaction;)V"⟩, 13), (⟨"VersionedRows$Row", "startsWith", "(I)Z"⟩, 3), (⟨"VersionedRows", "isTooLate", "(LVersionedRows$Transaction;)Z"⟩, 13), (⟨"VersionedRows$Store", "lastStampOf", "(I)I"⟩, 5), (⟨"VersionedRows", "batchSize", "(LVersionedRows$Transaction;)I"⟩, 13), (⟨"VersionedRows", "countIndexEntries", "(LVersionedRows$Row;LVersionedRows$Row;)I"⟩, 13), (⟨"VersionedRows", "hasOwnValue", "(ILVersionedRows$Row;LVersionedRows$Row;)Z"⟩, 13), (⟨"VersionedRows", "valueIn", "(ILVersionedRows$Row;)I"⟩, 13), (⟨"VersionedRows$Store", "hasRoomFor", "(I)Z"⟩, 5), (⟨"VersionedRows", "takeBatch", "(LVersionedRows$Transaction;)V"⟩, 13), (⟨"VersionedRows$Store", "add", "(LVersionedRows$Entry;)V"⟩, 5)]
theorem lw_r2 : ∀ q ∈ lw_privs_2, lw_okq q := List.forall_mem_cons.mpr ⟨lw_p16, List.forall_mem_cons.mpr ⟨lw_p17, List.forall_mem_cons.mpr ⟨lw_p18, List.forall_mem_cons.mpr ⟨lw_p19, List.forall_mem_cons.mpr ⟨lw_p20, List.forall_mem_cons.mpr ⟨lw_p21, List.forall_mem_cons.mpr ⟨lw_p22, List.forall_mem_cons.mpr ⟨lw_p23, List.forall_mem_cons.mpr ⟨lw_p24, List.forall_mem_cons.mpr ⟨lw_p25, List.forall_mem_cons.mpr ⟨lw_p26, List.forall_mem_cons.mpr ⟨lw_p27, List.forall_mem_cons.mpr ⟨lw_p28, List.forall_mem_cons.mpr ⟨lw_p29, List.forall_mem_cons.mpr ⟨lw_p30, List.forall_mem_cons.mpr ⟨lw_p31, fun _ h => absurd h List.not_mem_nil⟩⟩⟩⟩⟩⟩⟩⟩⟩⟩⟩⟩⟩⟩⟩⟩
theorem lw_p32 : lw_okq (⟨"VersionedRows", "addIndexEntries", "(IILVersionedRows$Row;LVersionedRows$Row;)V"⟩, 13) := ⟨⟨by decide +kernel, by decide +kernel⟩, List.mem_of_getElem? (i := 21) (by decide +kernel), List.mem_of_getElem? (i := 474) (by decide +kernel), List.mem_of_getElem? (i := 475) (by decide +kernel)⟩
theorem lw_p33 : lw_okq (⟨"VersionedRows", "flushAndMerge", "()V"⟩, 13) := ⟨⟨by decide +kernel, by decide +kernel⟩, List.mem_of_getElem? (i := 21) (by decide +kernel), List.mem_of_getElem? (i := 478) (by decide +kernel), List.mem_of_getElem? (i := 479) (by decide +kernel)⟩
theorem lw_p34 : lw_okq (⟨"VersionedRows$Store", "writeMemoryOut", "()I"⟩, 5) := ⟨⟨by decide +kernel, by decide +kernel⟩, List.mem_of_getElem? (i := 33) (by decide +kernel), List.mem_of_getElem? (i := 482) (by decide +kernel), List.mem_of_getElem? (i := 483) (by decide +kernel)⟩
theorem lw_p35 : lw_okq (⟨"VersionedRows$Store", "newFile", "(ILVersionedRows$Entry;)LVersionedRows$SortedFile;"⟩, 5) := ⟨⟨by decide +kernel, by decide +kernel⟩, List.mem_of_getElem? (i := 33) (by decide +kernel), List.mem_of_getElem? (i := 486) (by decide +kernel), List.mem_of_getElem? (i := 487) (by decide +kernel)⟩
theorem lw_p36 : lw_okq (⟨"java/util/ArrayList", "add", "(Ljava/lang/Object;[Ljava/lang/Object;I)V"⟩, 3) := ⟨⟨by decide +kernel, by decide +kernel⟩, List.mem_of_getElem? (i := 41) (by decide +kernel), List.mem_of_getElem? (i := 521) (by decide +kernel), List.mem_of_getElem? (i := 522) (by decide +kernel)⟩
theorem lw_p37 : lw_okq (⟨"java/util/ArrayList", "grow", "()[Ljava/lang/Object;"⟩, 3) := ⟨⟨by decide +kernel, by decide +kernel⟩, List.mem_of_getElem? (i := 41) (by decide +kernel), List.mem_of_getElem? (i := 525) (by decide +kernel), List.mem_of_getElem? (i := 526) (by decide +kernel)⟩
theorem lw_p38 : lw_okq (⟨"java/util/ArrayList", "grow", "(I)[Ljava/lang/Object;"⟩, 3) := ⟨⟨by decide +kernel, by decide +kernel⟩, List.mem_of_getElem? (i := 41) (by decide +kernel), List.mem_of_getElem? (i := 529) (by decide +kernel), List.mem_of_getElem? (i := 530) (by decide +kernel)⟩
theorem lw_p39 : lw_okq (⟨"VersionedRows$SortedFile", "append", "(LVersionedRows$Entry;)V"⟩, 6) := ⟨⟨by decide +kernel, by decide +kernel⟩, List.mem_of_getElem? (i := 490) (by decide +kernel), List.mem_of_getElem? (i := 575) (by decide +kernel), List.mem_of_getElem? (i := 576) (by decide +kernel)⟩
theorem lw_p40 : lw_okq (⟨"VersionedRows", "horizon", "()I"⟩, 13) := ⟨⟨by decide +kernel, by decide +kernel⟩, List.mem_of_getElem? (i := 21) (by decide +kernel), List.mem_of_getElem? (i := 579) (by decide +kernel), List.mem_of_getElem? (i := 580) (by decide +kernel)⟩
theorem lw_p41 : lw_okq (⟨"VersionedRows$Store", "overfullLevel", "()I"⟩, 5) := ⟨⟨by decide +kernel, by decide +kernel⟩, List.mem_of_getElem? (i := 33) (by decide +kernel), List.mem_of_getElem? (i := 585) (by decide +kernel), List.mem_of_getElem? (i := 586) (by decide +kernel)⟩
theorem lw_p42 : lw_okq (⟨"VersionedRows$Store", "countFiles", "(I)I"⟩, 5) := ⟨⟨by decide +kernel, by decide +kernel⟩, List.mem_of_getElem? (i := 33) (by decide +kernel), List.mem_of_getElem? (i := 589) (by decide +kernel), List.mem_of_getElem? (i := 590) (by decide +kernel)⟩
theorem lw_p43 : lw_okq (⟨"VersionedRows$Store", "mergeDown", "(II)I"⟩, 5) := ⟨⟨by decide +kernel, by decide +kernel⟩, List.mem_of_getElem? (i := 33) (by decide +kernel), List.mem_of_getElem? (i := 611) (by decide +kernel), List.mem_of_getElem? (i := 612) (by decide +kernel)⟩
theorem lw_p44 : lw_okq (⟨"VersionedRows$Store", "fileOn", "(II)LVersionedRows$SortedFile;"⟩, 5) := ⟨⟨by decide +kernel, by decide +kernel⟩, List.mem_of_getElem? (i := 33) (by decide +kernel), List.mem_of_getElem? (i := 615) (by decide +kernel), List.mem_of_getElem? (i := 616) (by decide +kernel)⟩
theorem lw_p45 : lw_okq (⟨"VersionedRows$Store", "retire", "(LVersionedRows$SortedFile;)V"⟩, 5) := ⟨⟨by decide +kernel, by decide +kernel⟩, List.mem_of_getElem? (i := 33) (by decide +kernel), List.mem_of_getElem? (i := 619) (by decide +kernel), List.mem_of_getElem? (i := 620) (by decide +kernel)⟩
theorem lw_p46 : lw_okq (⟨"VersionedRows$SortedFile", "meets", "(LVersionedRows$SortedFile;)Z"⟩, 6) := ⟨⟨by decide +kernel, by decide +kernel⟩, List.mem_of_getElem? (i := 490) (by decide +kernel), List.mem_of_getElem? (i := 623) (by decide +kernel), List.mem_of_getElem? (i := 624) (by decide +kernel)⟩
theorem lw_p47 : lw_okq (⟨"java/util/ArrayList", "fastRemove", "([Ljava/lang/Object;I)V"⟩, 3) := ⟨⟨by decide +kernel, by decide +kernel⟩, List.mem_of_getElem? (i := 41) (by decide +kernel), List.mem_of_getElem? (i := 631) (by decide +kernel), List.mem_of_getElem? (i := 632) (by decide +kernel)⟩
def lw_privs_3 : List (MethodName × Nat) := [(⟨"VersionedRows", "addIndexEntries", "(IILVersionedRows$Row;LVersionedRows$Row;)V"⟩, 13), (⟨"VersionedRows", "flushAndMerge", "()V"⟩, 13), (⟨"VersionedRows$Store", "writeMemoryOut", "()I"⟩, 5), (⟨"VersionedRows$Store", "newFile", "(ILVersionedRows$Entry;)LVersionedRows$SortedFile;"⟩, 5), (⟨"java/util/ArrayList", "add", "(Ljava/lang/Object;[Ljava/lang/Object;I)V"⟩, 3), (⟨"java/util/ArrayList", "grow", "()[Ljava/lang/Object;"⟩, 3), (⟨"java/util/ArrayList", "grow", "(I)[Ljava/lang/Object;"⟩, 3), (⟨"VersionedRows$SortedFile", "append", "(LVersionedRows$Entry;)V"⟩, 6), (⟨"VersionedRows", "horizon", "()I"⟩, 13), (⟨"VersionedRows$Store", "overfullLevel", "()I"⟩, 5), (⟨"VersionedRows$Store", "countFiles", "(I)I"⟩, 5), (⟨"VersionedRows$Store", "mergeDown", "(II)I"⟩, 5), (⟨"VersionedRows$Store", "fileOn", "(II)LVersionedRows$SortedFile;"⟩, 5), (⟨"VersionedRows$Store", "retire", "(LVersionedRows$SortedFile;)V"⟩, 5), (⟨"VersionedRows$SortedFile", "meets", "(LVersionedRows$SortedFile;)Z"⟩, 6), (⟨"java/util/ArrayList", "fastRemove", "([Ljava/lang/Object;I)V"⟩, 3)]
theorem lw_r3 : ∀ q ∈ lw_privs_3, lw_okq q := List.forall_mem_cons.mpr ⟨lw_p32, List.forall_mem_cons.mpr ⟨lw_p33, List.forall_mem_cons.mpr ⟨lw_p34, List.forall_mem_cons.mpr ⟨lw_p35, List.forall_mem_cons.mpr ⟨lw_p36, List.forall_mem_cons.mpr ⟨lw_p37, List.forall_mem_cons.mpr ⟨lw_p38, List.forall_mem_cons.mpr ⟨lw_p39, List.forall_mem_cons.mpr ⟨lw_p40, List.forall_mem_cons.mpr ⟨lw_p41, List.forall_mem_cons.mpr ⟨lw_p42, List.forall_mem_cons.mpr ⟨lw_p43, List.forall_mem_cons.mpr ⟨lw_p44, List.forall_mem_cons.mpr ⟨lw_p45, List.forall_mem_cons.mpr ⟨lw_p46, List.forall_mem_cons.mpr ⟨lw_p47, fun _ h => absurd h List.not_mem_nil⟩⟩⟩⟩⟩⟩⟩⟩⟩⟩⟩⟩⟩⟩⟩⟩
theorem lw_p48 : lw_okq (⟨"VersionedRows$Store", "moveRetired", "(II)I"⟩, 5) := ⟨⟨by decide +kernel, by decide +kernel⟩, List.mem_of_getElem? (i := 33) (by decide +kernel), List.mem_of_getElem? (i := 636) (by decide +kernel), List.mem_of_getElem? (i := 637) (by decide +kernel)⟩
theorem lw_p49 : lw_okq (⟨"VersionedRows$Entry", "isInRetiredFile", "()Z"⟩, 7) := ⟨⟨by decide +kernel, by decide +kernel⟩, List.mem_of_getElem? (i := 264) (by decide +kernel), List.mem_of_getElem? (i := 659) (by decide +kernel), List.mem_of_getElem? (i := 660) (by decide +kernel)⟩
theorem lw_p50 : lw_okq (⟨"VersionedRows$Sieve", "keeps", "(LVersionedRows$Entry;)Z"⟩, 4) := ⟨⟨by decide +kernel, by decide +kernel⟩, List.mem_of_getElem? (i := 640) (by decide +kernel), List.mem_of_getElem? (i := 663) (by decide +kernel), List.mem_of_getElem? (i := 664) (by decide +kernel)⟩
theorem lw_p51 : lw_okq (⟨"VersionedRows$SortedFile", "isFullBefore", "(LVersionedRows$Entry;)Z"⟩, 6) := ⟨⟨by decide +kernel, by decide +kernel⟩, List.mem_of_getElem? (i := 490) (by decide +kernel), List.mem_of_getElem? (i := 667) (by decide +kernel), List.mem_of_getElem? (i := 668) (by decide +kernel)⟩
theorem lw_p52 : lw_okq (⟨"VersionedRows", "loseOpenOnes", "()I"⟩, 13) := ⟨⟨by decide +kernel, by decide +kernel⟩, List.mem_of_getElem? (i := 21) (by decide +kernel), List.mem_of_getElem? (i := 675) (by decide +kernel), List.mem_of_getElem? (i := 676) (by decide +kernel)⟩
theorem lw_p53 : lw_okq (⟨"VersionedRows", "typeOfTop", "()I"⟩, 13) := ⟨⟨by decide +kernel, by decide +kernel⟩, List.mem_of_getElem? (i := 21) (by decide +kernel), List.mem_of_getElem? (i := 713) (by decide +kernel), List.mem_of_getElem? (i := 714) (by decide +kernel)⟩
theorem lw_p54 : lw_okq (⟨"VersionedRows$SortedFile", "tell", "(I)I"⟩, 6) := ⟨⟨by decide +kernel, by decide +kernel⟩, List.mem_of_getElem? (i := 490) (by decide +kernel), List.mem_of_getElem? (i := 726) (by decide +kernel), List.mem_of_getElem? (i := 727) (by decide +kernel)⟩
theorem lw_p55 : lw_okq (⟨"VersionedRowsModel", "opens", "()I"⟩, 38) := ⟨⟨by decide +kernel, by decide +kernel⟩, List.mem_of_getElem? (i := 730) (by decide +kernel), List.mem_of_getElem? (i := 869) (by decide +kernel), List.mem_of_getElem? (i := 870) (by decide +kernel)⟩
theorem lw_p56 : lw_okq (⟨"VersionedRowsModel", "open", "(I)Z"⟩, 38) := ⟨⟨by decide +kernel, by decide +kernel⟩, List.mem_of_getElem? (i := 730) (by decide +kernel), List.mem_of_getElem? (i := 877) (by decide +kernel), List.mem_of_getElem? (i := 878) (by decide +kernel)⟩
theorem lw_p57 : lw_okq (⟨"VersionedRowsModel", "rowFor", "(II)Z"⟩, 38) := ⟨⟨by decide +kernel, by decide +kernel⟩, List.mem_of_getElem? (i := 730) (by decide +kernel), List.mem_of_getElem? (i := 884) (by decide +kernel), List.mem_of_getElem? (i := 885) (by decide +kernel)⟩
theorem lw_p58 : lw_okq (⟨"VersionedRowsModel", "rowAt", "(II)Z"⟩, 38) := ⟨⟨by decide +kernel, by decide +kernel⟩, List.mem_of_getElem? (i := 730) (by decide +kernel), List.mem_of_getElem? (i := 888) (by decide +kernel), List.mem_of_getElem? (i := 889) (by decide +kernel)⟩
theorem lw_p59 : lw_okq (⟨"VersionedRowsModel", "seen", "(IIII)I"⟩, 38) := ⟨⟨by decide +kernel, by decide +kernel⟩, List.mem_of_getElem? (i := 730) (by decide +kernel), List.mem_of_getElem? (i := 892) (by decide +kernel), List.mem_of_getElem? (i := 893) (by decide +kernel)⟩
theorem lw_p60 : lw_okq (⟨"VersionedRowsModel", "beaten", "(I)Z"⟩, 38) := ⟨⟨by decide +kernel, by decide +kernel⟩, List.mem_of_getElem? (i := 730) (by decide +kernel), List.mem_of_getElem? (i := 908) (by decide +kernel), List.mem_of_getElem? (i := 909) (by decide +kernel)⟩
theorem lw_p61 : lw_okq (⟨"VersionedRowsModel", "reads", "(I)Z"⟩, 38) := ⟨⟨by decide +kernel, by decide +kernel⟩, List.mem_of_getElem? (i := 730) (by decide +kernel), List.mem_of_getElem? (i := 912) (by decide +kernel), List.mem_of_getElem? (i := 913) (by decide +kernel)⟩
theorem lw_p62 : lw_okq (⟨"VersionedRowsModel", "batch", "(IZ)I"⟩, 38) := ⟨⟨by decide +kernel, by decide +kernel⟩, List.mem_of_getElem? (i := 730) (by decide +kernel), List.mem_of_getElem? (i := 916) (by decide +kernel), List.mem_of_getElem? (i := 917) (by decide +kernel)⟩
theorem lw_p63 : lw_okq (⟨"VersionedRowsModel", "value", "(I)I"⟩, 38) := ⟨⟨by decide +kernel, by decide +kernel⟩, List.mem_of_getElem? (i := 730) (by decide +kernel), List.mem_of_getElem? (i := 920) (by decide +kernel), List.mem_of_getElem? (i := 921) (by decide +kernel)⟩
def lw_privs_4 : List (MethodName × Nat) := [(⟨"VersionedRows$Store", "moveRetired", "(II)I"⟩, 5), (⟨"VersionedRows$Entry", "isInRetiredFile", "()Z"⟩, 7), (⟨"VersionedRows$Sieve", "keeps", "(LVersionedRows$Entry;)Z"⟩, 4), (⟨"VersionedRows$SortedFile", "isFullBefore", "(LVersionedRows$Entry;)Z"⟩, 6), (⟨"VersionedRows", "loseOpenOnes", "()I"⟩, 13), (⟨"VersionedRows", "typeOfTop", "()I"⟩, 13), (⟨"VersionedRows$SortedFile", "tell", "(I)I"⟩, 6), (⟨"VersionedRowsModel", "opens", "()I"⟩, 38), (⟨"VersionedRowsModel", "open", "(I)Z"⟩, 38), (⟨"VersionedRowsModel", "rowFor", "(II)Z"⟩, 38), (⟨"VersionedRowsModel", "rowAt", "(II)Z"⟩, 38), (⟨"VersionedRowsModel", "seen", "(IIII)I"⟩, 38), (⟨"VersionedRowsModel", "beaten", "(I)Z"⟩, 38), (⟨"VersionedRowsModel", "reads", "(I)Z"⟩, 38), (⟨"VersionedRowsModel", "batch", "(IZ)I"⟩, 38), (⟨"VersionedRowsModel", "value", "(I)I"⟩, 38)]
theorem lw_r4 : ∀ q ∈ lw_privs_4, lw_okq q := List.forall_mem_cons.mpr ⟨lw_p48, List.forall_mem_cons.mpr ⟨lw_p49, List.forall_mem_cons.mpr ⟨lw_p50, List.forall_mem_cons.mpr ⟨lw_p51, List.forall_mem_cons.mpr ⟨lw_p52, List.forall_mem_cons.mpr ⟨lw_p53, List.forall_mem_cons.mpr ⟨lw_p54, List.forall_mem_cons.mpr ⟨lw_p55, List.forall_mem_cons.mpr ⟨lw_p56, List.forall_mem_cons.mpr ⟨lw_p57, List.forall_mem_cons.mpr ⟨lw_p58, List.forall_mem_cons.mpr ⟨lw_p59, List.forall_mem_cons.mpr ⟨lw_p60, List.forall_mem_cons.mpr ⟨lw_p61, List.forall_mem_cons.mpr ⟨lw_p62, List.forall_mem_cons.mpr ⟨lw_p63, fun _ h => absurd h List.not_mem_nil⟩⟩⟩⟩⟩⟩⟩⟩⟩⟩⟩⟩⟩⟩⟩⟩
theorem lw_p64 : lw_okq (⟨"VersionedRowsModel", "entry", "(IIIZ)V"⟩, 38) := ⟨⟨by decide +kernel, by decide +kernel⟩, List.mem_of_getElem? (i := 730) (by decide +kernel), List.mem_of_getElem? (i := 930) (by decide +kernel), List.mem_of_getElem? (i := 931) (by decide +kernel)⟩
theorem lw_p65 : lw_okq (⟨"VersionedRowsModel", "comes", "(I)V"⟩, 38) := ⟨⟨by decide +kernel, by decide +kernel⟩, List.mem_of_getElem? (i := 730) (by decide +kernel), List.mem_of_getElem? (i := 934) (by decide +kernel), List.mem_of_getElem? (i := 935) (by decide +kernel)⟩
theorem lw_p66 : lw_okq (⟨"VersionedRowsModel", "inFile", "(I)I"⟩, 38) := ⟨⟨by decide +kernel, by decide +kernel⟩, List.mem_of_getElem? (i := 730) (by decide +kernel), List.mem_of_getElem? (i := 938) (by decide +kernel), List.mem_of_getElem? (i := 939) (by decide +kernel)⟩
theorem lw_p67 : lw_okq (⟨"VersionedRowsModel", "addFile", "(I)V"⟩, 38) := ⟨⟨by decide +kernel, by decide +kernel⟩, List.mem_of_getElem? (i := 730) (by decide +kernel), List.mem_of_getElem? (i := 946) (by decide +kernel), List.mem_of_getElem? (i := 947) (by decide +kernel)⟩
theorem lw_p68 : lw_okq (⟨"VersionedRowsModel", "settle", "()V"⟩, 38) := ⟨⟨by decide +kernel, by decide +kernel⟩, List.mem_of_getElem? (i := 730) (by decide +kernel), List.mem_of_getElem? (i := 950) (by decide +kernel), List.mem_of_getElem? (i := 951) (by decide +kernel)⟩
theorem lw_p69 : lw_okq (⟨"VersionedRowsModel", "compacts", "(I)I"⟩, 38) := ⟨⟨by decide +kernel, by decide +kernel⟩, List.mem_of_getElem? (i := 730) (by decide +kernel), List.mem_of_getElem? (i := 958) (by decide +kernel), List.mem_of_getElem? (i := 959) (by decide +kernel)⟩
theorem lw_p70 : lw_okq (⟨"VersionedRowsModel", "meet", "(II)Z"⟩, 38) := ⟨⟨by decide +kernel, by decide +kernel⟩, List.mem_of_getElem? (i := 730) (by decide +kernel), List.mem_of_getElem? (i := 962) (by decide +kernel), List.mem_of_getElem? (i := 963) (by decide +kernel)⟩
theorem lw_p71 : lw_okq (⟨"VersionedRowsModel", "end", "(IZ)I"⟩, 38) := ⟨⟨by decide +kernel, by decide +kernel⟩, List.mem_of_getElem? (i := 730) (by decide +kernel), List.mem_of_getElem? (i := 966) (by decide +kernel), List.mem_of_getElem? (i := 967) (by decide +kernel)⟩
theorem lw_p72 : lw_okq (⟨"VersionedRowsModel", "before", "(II)Z"⟩, 38) := ⟨⟨by decide +kernel, by decide +kernel⟩, List.mem_of_getElem? (i := 730) (by decide +kernel), List.mem_of_getElem? (i := 970) (by decide +kernel), List.mem_of_getElem? (i := 971) (by decide +kernel)⟩
theorem lw_p73 : lw_okq (⟨"VersionedRowsModel", "places", "(II)I"⟩, 38) := ⟨⟨by decide +kernel, by decide +kernel⟩, List.mem_of_getElem? (i := 730) (by decide +kernel), List.mem_of_getElem? (i := 974) (by decide +kernel), List.mem_of_getElem? (i := 975) (by decide +kernel)⟩
theorem lw_p74 : lw_okq (⟨"VersionedRowsModel", "dropFile", "(I)V"⟩, 38) := ⟨⟨by decide +kernel, by decide +kernel⟩, List.mem_of_getElem? (i := 730) (by decide +kernel), List.mem_of_getElem? (i := 978) (by decide +kernel), List.mem_of_getElem? (i := 979) (by decide +kernel)⟩
theorem lw_p75 : lw_okq (⟨"VersionedRowsModel", "sort", "()V"⟩, 38) := ⟨⟨by decide +kernel, by decide +kernel⟩, List.mem_of_getElem? (i := 730) (by decide +kernel), List.mem_of_getElem? (i := 982) (by decide +kernel), List.mem_of_getElem? (i := 983) (by decide +kernel)⟩
theorem lw_p76 : lw_okq (⟨"VersionedRowsModel", "merge", "(I)I"⟩, 38) := ⟨⟨by decide +kernel, by decide +kernel⟩, List.mem_of_getElem? (i := 730) (by decide +kernel), List.mem_of_getElem? (i := 986) (by decide +kernel), List.mem_of_getElem? (i := 987) (by decide +kernel)⟩
theorem lw_p77 : lw_okq (⟨"VersionedRowsModel", "horizon", "()I"⟩, 38) := ⟨⟨by decide +kernel, by decide +kernel⟩, List.mem_of_getElem? (i := 730) (by decide +kernel), List.mem_of_getElem? (i := 990) (by decide +kernel), List.mem_of_getElem? (i := 991) (by decide +kernel)⟩
theorem lw_p78 : lw_okq (⟨"VersionedRowsModel", "clean", "()V"⟩, 38) := ⟨⟨by decide +kernel, by decide +kernel⟩, List.mem_of_getElem? (i := 730) (by decide +kernel), List.mem_of_getElem? (i := 994) (by decide +kernel), List.mem_of_getElem? (i := 995) (by decide +kernel)⟩
theorem lw_p79 : lw_okq (⟨"VersionedRowsModel", "conjuncts", "(II)V"⟩, 38) := ⟨⟨by decide +kernel, by decide +kernel⟩, List.mem_of_getElem? (i := 730) (by decide +kernel), List.mem_of_getElem? (i := 1021) (by decide +kernel), List.mem_of_getElem? (i := 1022) (by decide +kernel)⟩
def lw_privs_5 : List (MethodName × Nat) := [(⟨"VersionedRowsModel", "entry", "(IIIZ)V"⟩, 38), (⟨"VersionedRowsModel", "comes", "(I)V"⟩, 38), (⟨"VersionedRowsModel", "inFile", "(I)I"⟩, 38), (⟨"VersionedRowsModel", "addFile", "(I)V"⟩, 38), (⟨"VersionedRowsModel", "settle", "()V"⟩, 38), (⟨"VersionedRowsModel", "compacts", "(I)I"⟩, 38), (⟨"VersionedRowsModel", "meet", "(II)Z"⟩, 38), (⟨"VersionedRowsModel", "end", "(IZ)I"⟩, 38), (⟨"VersionedRowsModel", "before", "(II)Z"⟩, 38), (⟨"VersionedRowsModel", "places", "(II)I"⟩, 38), (⟨"VersionedRowsModel", "dropFile", "(I)V"⟩, 38), (⟨"VersionedRowsModel", "sort", "()V"⟩, 38), (⟨"VersionedRowsModel", "merge", "(I)I"⟩, 38), (⟨"VersionedRowsModel", "horizon", "()I"⟩, 38), (⟨"VersionedRowsModel", "clean", "()V"⟩, 38), (⟨"VersionedRowsModel", "conjuncts", "(II)V"⟩, 38)]
theorem lw_r5 : ∀ q ∈ lw_privs_5, lw_okq q := List.forall_mem_cons.mpr ⟨lw_p64, List.forall_mem_cons.mpr ⟨lw_p65, List.forall_mem_cons.mpr ⟨lw_p66, List.forall_mem_cons.mpr ⟨lw_p67, List.forall_mem_cons.mpr ⟨lw_p68, List.forall_mem_cons.mpr ⟨lw_p69, List.forall_mem_cons.mpr ⟨lw_p70, List.forall_mem_cons.mpr ⟨lw_p71, List.forall_mem_cons.mpr ⟨lw_p72, List.forall_mem_cons.mpr ⟨lw_p73, List.forall_mem_cons.mpr ⟨lw_p74, List.forall_mem_cons.mpr ⟨lw_p75, List.forall_mem_cons.mpr ⟨lw_p76, List.forall_mem_cons.mpr ⟨lw_p77, List.forall_mem_cons.mpr ⟨lw_p78, List.forall_mem_cons.mpr ⟨lw_p79, fun _ h => absurd h List.not_mem_nil⟩⟩⟩⟩⟩⟩⟩⟩⟩⟩⟩⟩⟩⟩⟩⟩
theorem lw_p80 : lw_okq (⟨"VersionedRowsModel", "from", "(II)I"⟩, 38) := ⟨⟨by decide +kernel, by decide +kernel⟩, List.mem_of_getElem? (i := 730) (by decide +kernel), List.mem_of_getElem? (i := 1027) (by decide +kernel), List.mem_of_getElem? (i := 1028) (by decide +kernel)⟩
theorem lw_p81 : lw_okq (⟨"VersionedRowsModel", "conjunct", "(III)V"⟩, 38) := ⟨⟨by decide +kernel, by decide +kernel⟩, List.mem_of_getElem? (i := 730) (by decide +kernel), List.mem_of_getElem? (i := 1031) (by decide +kernel), List.mem_of_getElem? (i := 1032) (by decide +kernel)⟩
theorem lw_p82 : lw_okq (⟨"VersionedRowsModel", "same", "(IIII)Z"⟩, 38) := ⟨⟨by decide +kernel, by decide +kernel⟩, List.mem_of_getElem? (i := 730) (by decide +kernel), List.mem_of_getElem? (i := 1035) (by decide +kernel), List.mem_of_getElem? (i := 1036) (by decide +kernel)⟩
theorem lw_p83 : lw_okq (⟨"VersionedRowsModel", "bound", "(JJ)V"⟩, 38) := ⟨⟨by decide +kernel, by decide +kernel⟩, List.mem_of_getElem? (i := 730) (by decide +kernel), List.mem_of_getElem? (i := 1039) (by decide +kernel), List.mem_of_getElem? (i := 1040) (by decide +kernel)⟩
theorem lw_p84 : lw_okq (⟨"VersionedRowsModel", "aboutFile", "(II)I"⟩, 38) := ⟨⟨by decide +kernel, by decide +kernel⟩, List.mem_of_getElem? (i := 730) (by decide +kernel), List.mem_of_getElem? (i := 1064) (by decide +kernel), List.mem_of_getElem? (i := 1065) (by decide +kernel)⟩
def lw_privs_6 : List (MethodName × Nat) := [(⟨"VersionedRowsModel", "from", "(II)I"⟩, 38), (⟨"VersionedRowsModel", "conjunct", "(III)V"⟩, 38), (⟨"VersionedRowsModel", "same", "(IIII)Z"⟩, 38), (⟨"VersionedRowsModel", "bound", "(JJ)V"⟩, 38), (⟨"VersionedRowsModel", "aboutFile", "(II)I"⟩, 38)]
theorem lw_r6 : ∀ q ∈ lw_privs_6, lw_okq q := List.forall_mem_cons.mpr ⟨lw_p80, List.forall_mem_cons.mpr ⟨lw_p81, List.forall_mem_cons.mpr ⟨lw_p82, List.forall_mem_cons.mpr ⟨lw_p83, List.forall_mem_cons.mpr ⟨lw_p84, fun _ h => absurd h List.not_mem_nil⟩⟩⟩⟩⟩
def lw_privs : List (MethodName × Nat) := lw_privs_1 ++ (lw_privs_2 ++ (lw_privs_3 ++ (lw_privs_4 ++ (lw_privs_5 ++ (lw_privs_6)))))
def lw_tbl : List Cond := k2_sels lw_privs ++ tables_1
theorem lw_privs_ok : ∀ q ∈ lw_privs, lw_okq q := by
  show ∀ q ∈ lw_privs_1 ++ (lw_privs_2 ++ (lw_privs_3 ++ (lw_privs_4 ++ (lw_privs_5 ++ (lw_privs_6))))), lw_okq q
  exact List.forall_mem_append.mpr ⟨lw_r1, List.forall_mem_append.mpr ⟨lw_r2, List.forall_mem_append.mpr ⟨lw_r3, List.forall_mem_append.mpr ⟨lw_r4, List.forall_mem_append.mpr ⟨lw_r5, lw_r6⟩⟩⟩⟩⟩
end
section
theorem goodIn_r {big : List Cond} (ws : List Cond) (ps : List Nat) (hp : ws = ps.filterMap (fun i => big[i]?)) (h : ws.all goodWord = true) : GoodIn big ws := by
  intro w hw
  have h1 := List.all_eq_true.mp h w hw
  rw [hp] at hw
  obtain ⟨i, -, hi⟩ := List.mem_filterMap.mp hw
  have hm : w ∈ big := by first | exact List.mem_of_getElem? hi | exact List.getElem?_mem hi
  exact ⟨hm, good_of_word h1⟩
def RX0 : String := "VersionedRows$Entry"
def TX0 : u_T := fun k => match k with
  | 0 => ("VersionedRows$Entry", "space", "I", true)
  | 1 => ("VersionedRows$Entry", "value", "I", true)
  | 2 => ("VersionedRows$Entry", "key", "I", true)
  | 3 => ("VersionedRows$Entry", "place", "J", true)
  | 4 => ("VersionedRows$Entry", "stamp", "I", true)
  | 5 => ("VersionedRows$Entry", "row", "LVersionedRows$Row;", true)
  | _ => ("VersionedRows$Entry", "home", "LVersionedRows$SortedFile;", false)
def tyX0 : Nat → FieldType := fun k => match k with
  | 0 => .int
  | 1 => .int
  | 2 => .int
  | 3 => .long
  | 4 => .int
  | 5 => .object "VersionedRows$Row"
  | _ => .object "VersionedRows$SortedFile"
abbrev wsX00 : List Cond := u_ws RX0 TX0 7
theorem nmX0 : ∀ a, a < 7 → ∀ b, b < 7 → a ≠ b → (TX0 a).2.1 ≠ (TX0 b).2.1 := by decide +kernel
theorem tyX0_ok : ∀ k, k < 7 → parseFieldDescriptor (TX0 k).2.2.1 = some (tyX0 k) := by decide +kernel
abbrev cX0_init : ByteArray := prog_2_method_1_code
def yX0_init : MethodName := ⟨RX0, "<init>", "(IIIILVersionedRows$Row;)V"⟩
abbrev cX0_placeOf : ByteArray := prog_2_method_2_code
def yX0_placeOf : MethodName := ⟨RX0, "placeOf", "(III)J"⟩
abbrev cX0_isBefore : ByteArray := prog_2_method_3_code
def yX0_isBefore : MethodName := ⟨RX0, "isBefore", "(JI)Z"⟩
abbrev cX0_isWithin : ByteArray := prog_2_method_4_code
def yX0_isWithin : MethodName := ⟨RX0, "isWithin", "(IJJ)Z"⟩
abbrev cX0_isInRetiredFile : ByteArray := prog_2_method_5_code
def yX0_isInRetiredFile : MethodName := ⟨RX0, "isInRetiredFile", "()Z"⟩
def RX1 : String := "VersionedRows$Expression"
def TX1 : u_T := fun k => match k with
  | 0 => ("VersionedRows$Expression", "op", "I", true)
  | 1 => ("VersionedRows$Expression", "n", "I", true)
  | 2 => ("VersionedRows$Expression", "first", "LVersionedRows$Expression;", true)
  | 3 => ("VersionedRows$Expression", "second", "LVersionedRows$Expression;", true)
  | _ => ("VersionedRows$Expression", "nodes", "I", true)
def tyX1 : Nat → FieldType := fun k => match k with
  | 0 => .int
  | 1 => .int
  | 2 => .object "VersionedRows$Expression"
  | 3 => .object "VersionedRows$Expression"
  | _ => .int
abbrev wsX10 : List Cond := u_ws RX1 TX1 5
theorem nmX1 : ∀ a, a < 5 → ∀ b, b < 5 → a ≠ b → (TX1 a).2.1 ≠ (TX1 b).2.1 := by decide +kernel
theorem tyX1_ok : ∀ k, k < 5 → parseFieldDescriptor (TX1 k).2.2.1 = some (tyX1 k) := by decide +kernel
abbrev cX1_init : ByteArray := prog_3_method_1_code
def yX1_init : MethodName := ⟨RX1, "<init>", "(IILVersionedRows$Expression;LVersionedRows$Expression;)V"⟩
abbrev cX1_nodesOf : ByteArray := prog_3_method_2_code
def yX1_nodesOf : MethodName := ⟨RX1, "nodesOf", "(LVersionedRows$Expression;)I"⟩
abbrev cX1_isBool : ByteArray := prog_3_method_3_code
def yX1_isBool : MethodName := ⟨RX1, "isBool", "()Z"⟩
abbrev cX1_isConst : ByteArray := prog_3_method_4_code
def yX1_isConst : MethodName := ⟨RX1, "isConst", "()Z"⟩
abbrev cX1_areSame : ByteArray := prog_3_method_5_code
def yX1_areSame : MethodName := ⟨RX1, "areSame", "(LVersionedRows$Expression;LVersionedRows$Expression;)Z"⟩
abbrev cX1_numberOf : ByteArray := prog_3_method_6_code
def yX1_numberOf : MethodName := ⟨RX1, "numberOf", "(LVersionedRows$Expression;LVersionedRows$Row;)I"⟩
abbrev cX1_isTrueOf : ByteArray := prog_3_method_7_code
def yX1_isTrueOf : MethodName := ⟨RX1, "isTrueOf", "(LVersionedRows$Expression;LVersionedRows$Row;)Z"⟩
def RX2 : String := "VersionedRows$Range"
def TX2 : u_T := fun k => match k with
  | 0 => ("VersionedRows$Range", "subject", "LVersionedRows$Expression;", true)
  | 1 => ("VersionedRows$Range", "low", "J", false)
  | 2 => ("VersionedRows$Range", "high", "J", false)
  | _ => ("VersionedRows$Range", "isSaid", "Z", false)
def tyX2 : Nat → FieldType := fun k => match k with
  | 0 => .object "VersionedRows$Expression"
  | 1 => .long
  | 2 => .long
  | _ => .boolean
abbrev wsX20 : List Cond := u_ws RX2 TX2 4
theorem nmX2 : ∀ a, a < 4 → ∀ b, b < 4 → a ≠ b → (TX2 a).2.1 ≠ (TX2 b).2.1 := by decide +kernel
theorem tyX2_ok : ∀ k, k < 4 → parseFieldDescriptor (TX2 k).2.2.1 = some (tyX2 k) := by decide +kernel
abbrev cX2_init : ByteArray := prog_4_method_1_code
def yX2_init : MethodName := ⟨RX2, "<init>", "(LVersionedRows$Expression;)V"⟩
abbrev cX2_width : ByteArray := prog_4_method_2_code
def yX2_width : MethodName := ⟨RX2, "width", "()J"⟩
abbrev cX2_hear : ByteArray := prog_4_method_3_code
def yX2_hear : MethodName := ⟨RX2, "hear", "(LVersionedRows$Expression;)V"⟩
abbrev cX2_hearComparison : ByteArray := prog_4_method_4_code
def yX2_hearComparison : MethodName := ⟨RX2, "hearComparison", "(ZLVersionedRows$Expression;LVersionedRows$Expression;)V"⟩
abbrev cX2_narrow : ByteArray := prog_4_method_5_code
def yX2_narrow : MethodName := ⟨RX2, "narrow", "(JJ)V"⟩
def RX3 : String := "VersionedRows$Row"
def TX3 : u_T := fun k => match k with
  | 0 => ("VersionedRows$Row", "number", "I", true)
  | 1 => ("VersionedRows$Row", "flag", "I", true)
  | _ => ("VersionedRows$Row", "name", "I", true)
def tyX3 : Nat → FieldType := fun k => match k with
  | 0 => .int
  | 1 => .int
  | _ => .int
abbrev wsX30 : List Cond := u_ws RX3 TX3 3
theorem nmX3 : ∀ a, a < 3 → ∀ b, b < 3 → a ≠ b → (TX3 a).2.1 ≠ (TX3 b).2.1 := by decide +kernel
theorem tyX3_ok : ∀ k, k < 3 → parseFieldDescriptor (TX3 k).2.2.1 = some (tyX3 k) := by decide +kernel
abbrev cX3_init : ByteArray := prog_5_method_1_code
def yX3_init : MethodName := ⟨RX3, "<init>", "(III)V"⟩
abbrev cX3_startsWith : ByteArray := prog_5_method_2_code
def yX3_startsWith : MethodName := ⟨RX3, "startsWith", "(I)Z"⟩
def RX4 : String := "VersionedRows$Sieve"
def TX4 : u_T := fun k => match k with
  | 0 => ("VersionedRows$Sieve", "horizon", "I", true)
  | 1 => ("VersionedRows$Sieve", "dropsDead", "Z", true)
  | 2 => ("VersionedRows$Sieve", "before", "LVersionedRows$Entry;", false)
  | _ => ("VersionedRows$Sieve", "isCovered", "Z", false)
def tyX4 : Nat → FieldType := fun k => match k with
  | 0 => .int
  | 1 => .boolean
  | 2 => .object "VersionedRows$Entry"
  | _ => .boolean
abbrev wsX40 : List Cond := u_ws RX4 TX4 4
theorem nmX4 : ∀ a, a < 4 → ∀ b, b < 4 → a ≠ b → (TX4 a).2.1 ≠ (TX4 b).2.1 := by decide +kernel
theorem tyX4_ok : ∀ k, k < 4 → parseFieldDescriptor (TX4 k).2.2.1 = some (tyX4 k) := by decide +kernel
abbrev cX4_init : ByteArray := prog_6_method_1_code
def yX4_init : MethodName := ⟨RX4, "<init>", "(IZ)V"⟩
abbrev cX4_keeps : ByteArray := prog_6_method_2_code
def yX4_keeps : MethodName := ⟨RX4, "keeps", "(LVersionedRows$Entry;)Z"⟩
def RX5 : String := "VersionedRows$SortedFile"
def TX5 : u_T := fun k => match k with
  | 0 => ("VersionedRows$SortedFile", "number", "I", true)
  | 1 => ("VersionedRows$SortedFile", "level", "I", true)
  | 2 => ("VersionedRows$SortedFile", "first", "LVersionedRows$Entry;", true)
  | 3 => ("VersionedRows$SortedFile", "last", "LVersionedRows$Entry;", false)
  | 4 => ("VersionedRows$SortedFile", "size", "I", false)
  | _ => ("VersionedRows$SortedFile", "isRetired", "Z", false)
def tyX5 : Nat → FieldType := fun k => match k with
  | 0 => .int
  | 1 => .int
  | 2 => .object "VersionedRows$Entry"
  | 3 => .object "VersionedRows$Entry"
  | 4 => .int
  | _ => .boolean
abbrev wsX50 : List Cond := u_ws RX5 TX5 6
theorem nmX5 : ∀ a, a < 6 → ∀ b, b < 6 → a ≠ b → (TX5 a).2.1 ≠ (TX5 b).2.1 := by decide +kernel
theorem tyX5_ok : ∀ k, k < 6 → parseFieldDescriptor (TX5 k).2.2.1 = some (tyX5 k) := by decide +kernel
abbrev cX5_init : ByteArray := prog_7_method_1_code
def yX5_init : MethodName := ⟨RX5, "<init>", "(IILVersionedRows$Entry;)V"⟩
abbrev cX5_append : ByteArray := prog_7_method_2_code
def yX5_append : MethodName := ⟨RX5, "append", "(LVersionedRows$Entry;)V"⟩
abbrev cX5_isFullBefore : ByteArray := prog_7_method_3_code
def yX5_isFullBefore : MethodName := ⟨RX5, "isFullBefore", "(LVersionedRows$Entry;)Z"⟩
abbrev cX5_meets : ByteArray := prog_7_method_4_code
def yX5_meets : MethodName := ⟨RX5, "meets", "(LVersionedRows$SortedFile;)Z"⟩
abbrev cX5_tell : ByteArray := prog_7_method_5_code
def yX5_tell : MethodName := ⟨RX5, "tell", "(I)I"⟩
def RX6 : String := "VersionedRows$Store"
def TX6 : u_T := fun k => match k with
  | 0 => ("VersionedRows$Store", "entries", "[LVersionedRows$Entry;", true)
  | 1 => ("VersionedRows$Store", "count", "I", false)
  | 2 => ("VersionedRows$Store", "inMemory", "I", false)
  | 3 => ("VersionedRows$Store", "sortedFiles", "Ljava/util/ArrayList;", true)
  | _ => ("VersionedRows$Store", "filesMade", "I", false)
def tyX6 : Nat → FieldType := fun k => match k with
  | 0 => .array (.object "VersionedRows$Entry")
  | 1 => .int
  | 2 => .int
  | 3 => .object "java/util/ArrayList"
  | _ => .int
abbrev wsX60 : List Cond := u_ws RX6 TX6 5
theorem nmX6 : ∀ a, a < 5 → ∀ b, b < 5 → a ≠ b → (TX6 a).2.1 ≠ (TX6 b).2.1 := by decide +kernel
theorem tyX6_ok : ∀ k, k < 5 → parseFieldDescriptor (TX6 k).2.2.1 = some (tyX6 k) := by decide +kernel
abbrev cX6_init : ByteArray := prog_8_method_1_code
def yX6_init : MethodName := ⟨RX6, "<init>", "()V"⟩
abbrev cX6_hasRoomFor : ByteArray := prog_8_method_2_code
def yX6_hasRoomFor : MethodName := ⟨RX6, "hasRoomFor", "(I)Z"⟩
abbrev cX6_add : ByteArray := prog_8_method_3_code
def yX6_add : MethodName := ⟨RX6, "add", "(LVersionedRows$Entry;)V"⟩
abbrev cX6_countBefore : ByteArray := prog_8_method_4_code
def yX6_countBefore : MethodName := ⟨RX6, "countBefore", "(JI)I"⟩
abbrev cX6_seenRow : ByteArray := prog_8_method_5_code
def yX6_seenRow : MethodName := ⟨RX6, "seenRow", "(II)LVersionedRows$Entry;"⟩
abbrev cX6_rowAt : ByteArray := prog_8_method_6_code
def yX6_rowAt : MethodName := ⟨RX6, "rowAt", "(II)LVersionedRows$Row;"⟩
abbrev cX6_lastStampOf : ByteArray := prog_8_method_7_code
def yX6_lastStampOf : MethodName := ⟨RX6, "lastStampOf", "(I)I"⟩
abbrev cX6_countThere : ByteArray := prog_8_method_8_code
def yX6_countThere : MethodName := ⟨RX6, "countThere", "(IJJI)I"⟩
abbrev cX6_writeMemoryOut : ByteArray := prog_8_method_9_code
def yX6_writeMemoryOut : MethodName := ⟨RX6, "writeMemoryOut", "()I"⟩
abbrev cX6_newFile : ByteArray := prog_8_method_10_code
def yX6_newFile : MethodName := ⟨RX6, "newFile", "(ILVersionedRows$Entry;)LVersionedRows$SortedFile;"⟩
abbrev cX6_countFiles : ByteArray := prog_8_method_11_code
def yX6_countFiles : MethodName := ⟨RX6, "countFiles", "(I)I"⟩
abbrev cX6_fileOn : ByteArray := prog_8_method_12_code
def yX6_fileOn : MethodName := ⟨RX6, "fileOn", "(II)LVersionedRows$SortedFile;"⟩
abbrev cX6_overfullLevel : ByteArray := prog_8_method_13_code
def yX6_overfullLevel : MethodName := ⟨RX6, "overfullLevel", "()I"⟩
abbrev cX6_mergeDown : ByteArray := prog_8_method_14_code
def yX6_mergeDown : MethodName := ⟨RX6, "mergeDown", "(II)I"⟩
abbrev cX6_retire : ByteArray := prog_8_method_15_code
def yX6_retire : MethodName := ⟨RX6, "retire", "(LVersionedRows$SortedFile;)V"⟩
abbrev cX6_moveRetired : ByteArray := prog_8_method_16_code
def yX6_moveRetired : MethodName := ⟨RX6, "moveRetired", "(II)I"⟩
def RX7 : String := "VersionedRows$Transaction"
def TX7 : u_T := fun k => match k with
  | 0 => ("VersionedRows$Transaction", "begin", "I", true)
  | 1 => ("VersionedRows$Transaction", "state", "I", false)
  | 2 => ("VersionedRows$Transaction", "hasWrites", "Z", false)
  | 3 => ("VersionedRows$Transaction", "written", "[Z", true)
  | _ => ("VersionedRows$Transaction", "rows", "[LVersionedRows$Row;", true)
def tyX7 : Nat → FieldType := fun k => match k with
  | 0 => .int
  | 1 => .int
  | 2 => .boolean
  | 3 => .array .boolean
  | _ => .array (.object "VersionedRows$Row")
abbrev wsX70 : List Cond := u_ws RX7 TX7 5
theorem nmX7 : ∀ a, a < 5 → ∀ b, b < 5 → a ≠ b → (TX7 a).2.1 ≠ (TX7 b).2.1 := by decide +kernel
theorem tyX7_ok : ∀ k, k < 5 → parseFieldDescriptor (TX7 k).2.2.1 = some (tyX7 k) := by decide +kernel
abbrev cX7_init : ByteArray := prog_9_method_1_code
def yX7_init : MethodName := ⟨RX7, "<init>", "(I)V"⟩
abbrev cX7_isOpen : ByteArray := prog_9_method_2_code
def yX7_isOpen : MethodName := ⟨RX7, "isOpen", "()Z"⟩
abbrev cX7_put : ByteArray := prog_9_method_3_code
def yX7_put : MethodName := ⟨RX7, "put", "(ILVersionedRows$Row;)V"⟩
def RX8 : String := "VersionedRows"
def TX8 : u_T := fun k => match k with
  | 0 => ("VersionedRows", "pile", "[LVersionedRows$Expression;", true)
  | 1 => ("VersionedRows", "pileSize", "I", false)
  | 2 => ("VersionedRows", "indexes", "[LVersionedRows$Expression;", true)
  | 3 => ("VersionedRows", "indexCount", "I", false)
  | 4 => ("VersionedRows", "transactions", "[LVersionedRows$Transaction;", true)
  | 5 => ("VersionedRows", "transactionCount", "I", false)
  | 6 => ("VersionedRows", "store", "LVersionedRows$Store;", true)
  | 7 => ("VersionedRows", "lastStamp", "I", false)
  | 8 => ("VersionedRows", "resultKeys", "[I", true)
  | 9 => ("VersionedRows", "resultSize", "I", false)
  | 10 => ("VersionedRows", "planIndex", "I", false)
  | 11 => ("VersionedRows", "planRange", "LVersionedRows$Range;", false)
  | _ => ("VersionedRows", "planCandidates", "I", false)
def tyX8 : Nat → FieldType := fun k => match k with
  | 0 => .array (.object "VersionedRows$Expression")
  | 1 => .int
  | 2 => .array (.object "VersionedRows$Expression")
  | 3 => .int
  | 4 => .array (.object "VersionedRows$Transaction")
  | 5 => .int
  | 6 => .object "VersionedRows$Store"
  | 7 => .int
  | 8 => .array .int
  | 9 => .int
  | 10 => .int
  | 11 => .object "VersionedRows$Range"
  | _ => .int
abbrev wsX80 : List Cond := u_ws RX8 TX8 13
theorem nmX8 : ∀ a, a < 13 → ∀ b, b < 13 → a ≠ b → (TX8 a).2.1 ≠ (TX8 b).2.1 := by decide +kernel
theorem tyX8_ok : ∀ k, k < 13 → parseFieldDescriptor (TX8 k).2.2.1 = some (tyX8 k) := by decide +kernel
abbrev cX8_init : ByteArray := prog_1_method_1_code
def yX8_init : MethodName := ⟨RX8, "<init>", "()V"⟩
abbrev cX8_say : ByteArray := prog_1_method_2_code
def yX8_say : MethodName := ⟨RX8, "say", "(II)Z"⟩
abbrev cX8_index : ByteArray := prog_1_method_3_code
def yX8_index : MethodName := ⟨RX8, "index", "()I"⟩
abbrev cX8_begin : ByteArray := prog_1_method_4_code
def yX8_begin : MethodName := ⟨RX8, "begin", "()I"⟩
abbrev cX8_read : ByteArray := prog_1_method_5_code
def yX8_read : MethodName := ⟨RX8, "read", "(III)I"⟩
abbrev cX8_write : ByteArray := prog_1_method_6_code
def yX8_write : MethodName := ⟨RX8, "write", "(IIIII)Z"⟩
abbrev cX8_remove : ByteArray := prog_1_method_7_code
def yX8_remove : MethodName := ⟨RX8, "remove", "(II)Z"⟩
abbrev cX8_query : ByteArray := prog_1_method_8_code
def yX8_query : MethodName := ⟨RX8, "query", "(I)I"⟩
abbrev cX8_commit : ByteArray := prog_1_method_9_code
def yX8_commit : MethodName := ⟨RX8, "commit", "(I)I"⟩
abbrev cX8_tear : ByteArray := prog_1_method_10_code
def yX8_tear : MethodName := ⟨RX8, "tear", "(II)I"⟩
abbrev cX8_abort : ByteArray := prog_1_method_11_code
def yX8_abort : MethodName := ⟨RX8, "abort", "(I)Z"⟩
abbrev cX8_flush : ByteArray := prog_1_method_12_code
def yX8_flush : MethodName := ⟨RX8, "flush", "()I"⟩
abbrev cX8_compact : ByteArray := prog_1_method_13_code
def yX8_compact : MethodName := ⟨RX8, "compact", "()I"⟩
abbrev cX8_crash : ByteArray := prog_1_method_14_code
def yX8_crash : MethodName := ⟨RX8, "crash", "()I"⟩
abbrev cX8_result : ByteArray := prog_1_method_15_code
def yX8_result : MethodName := ⟨RX8, "result", "(I)I"⟩
abbrev cX8_plan : ByteArray := prog_1_method_16_code
def yX8_plan : MethodName := ⟨RX8, "plan", "(I)J"⟩
abbrev cX8_state : ByteArray := prog_1_method_17_code
def yX8_state : MethodName := ⟨RX8, "state", "(I)I"⟩
abbrev cX8_about : ByteArray := prog_1_method_18_code
def yX8_about : MethodName := ⟨RX8, "about", "(I)I"⟩
abbrev cX8_files : ByteArray := prog_1_method_19_code
def yX8_files : MethodName := ⟨RX8, "files", "(I)I"⟩
abbrev cX8_file : ByteArray := prog_1_method_20_code
def yX8_file : MethodName := ⟨RX8, "file", "(III)I"⟩
abbrev cX8_isKey : ByteArray := prog_1_method_21_code
def yX8_isKey : MethodName := ⟨RX8, "isKey", "(I)Z"⟩
abbrev cX8_isName : ByteArray := prog_1_method_22_code
def yX8_isName : MethodName := ⟨RX8, "isName", "(I)Z"⟩
abbrev cX8_partsOf : ByteArray := prog_1_method_23_code
def yX8_partsOf : MethodName := ⟨RX8, "partsOf", "(I)I"⟩
abbrev cX8_countsN : ByteArray := prog_1_method_24_code
def yX8_countsN : MethodName := ⟨RX8, "countsN", "(I)Z"⟩
abbrev cX8_takesBools : ByteArray := prog_1_method_25_code
def yX8_takesBools : MethodName := ⟨RX8, "takesBools", "(I)Z"⟩
abbrev cX8_fits : ByteArray := prog_1_method_26_code
def yX8_fits : MethodName := ⟨RX8, "fits", "(ILVersionedRows$Expression;)Z"⟩
abbrev cX8_topOfPile : ByteArray := prog_1_method_27_code
def yX8_topOfPile : MethodName := ⟨RX8, "topOfPile", "()LVersionedRows$Expression;"⟩
abbrev cX8_typeOfTop : ByteArray := prog_1_method_28_code
def yX8_typeOfTop : MethodName := ⟨RX8, "typeOfTop", "()I"⟩
abbrev cX8_transactionOf : ByteArray := prog_1_method_29_code
def yX8_transactionOf : MethodName := ⟨RX8, "transactionOf", "(I)LVersionedRows$Transaction;"⟩
abbrev cX8_openOne : ByteArray := prog_1_method_30_code
def yX8_openOne : MethodName := ⟨RX8, "openOne", "(I)LVersionedRows$Transaction;"⟩
abbrev cX8_countOpen : ByteArray := prog_1_method_31_code
def yX8_countOpen : MethodName := ⟨RX8, "countOpen", "()I"⟩
abbrev cX8_loseOpenOnes : ByteArray := prog_1_method_32_code
def yX8_loseOpenOnes : MethodName := ⟨RX8, "loseOpenOnes", "()I"⟩
abbrev cX8_horizon : ByteArray := prog_1_method_33_code
def yX8_horizon : MethodName := ⟨RX8, "horizon", "()I"⟩
abbrev cX8_rowFor : ByteArray := prog_1_method_34_code
def yX8_rowFor : MethodName := ⟨RX8, "rowFor", "(LVersionedRows$Transaction;I)LVersionedRows$Row;"⟩
abbrev cX8_isTooLate : ByteArray := prog_1_method_35_code
def yX8_isTooLate : MethodName := ⟨RX8, "isTooLate", "(LVersionedRows$Transaction;)Z"⟩
abbrev cX8_batchSize : ByteArray := prog_1_method_36_code
def yX8_batchSize : MethodName := ⟨RX8, "batchSize", "(LVersionedRows$Transaction;)I"⟩
abbrev cX8_countIndexEntries : ByteArray := prog_1_method_37_code
def yX8_countIndexEntries : MethodName := ⟨RX8, "countIndexEntries", "(LVersionedRows$Row;LVersionedRows$Row;)I"⟩
abbrev cX8_hasOwnValue : ByteArray := prog_1_method_38_code
def yX8_hasOwnValue : MethodName := ⟨RX8, "hasOwnValue", "(ILVersionedRows$Row;LVersionedRows$Row;)Z"⟩
abbrev cX8_valueIn : ByteArray := prog_1_method_39_code
def yX8_valueIn : MethodName := ⟨RX8, "valueIn", "(ILVersionedRows$Row;)I"⟩
abbrev cX8_takeBatch : ByteArray := prog_1_method_40_code
def yX8_takeBatch : MethodName := ⟨RX8, "takeBatch", "(LVersionedRows$Transaction;)V"⟩
abbrev cX8_addIndexEntries : ByteArray := prog_1_method_41_code
def yX8_addIndexEntries : MethodName := ⟨RX8, "addIndexEntries", "(IILVersionedRows$Row;LVersionedRows$Row;)V"⟩
abbrev cX8_flushAndMerge : ByteArray := prog_1_method_42_code
def yX8_flushAndMerge : MethodName := ⟨RX8, "flushAndMerge", "()V"⟩
abbrev cX8_choosePlan : ByteArray := prog_1_method_43_code
def yX8_choosePlan : MethodName := ⟨RX8, "choosePlan", "(LVersionedRows$Expression;)V"⟩
abbrev cX8_countCandidates : ByteArray := prog_1_method_44_code
def yX8_countCandidates : MethodName := ⟨RX8, "countCandidates", "(I)V"⟩
abbrev cX8_fillResult : ByteArray := prog_1_method_45_code
def yX8_fillResult : MethodName := ⟨RX8, "fillResult", "(LVersionedRows$Expression;LVersionedRows$Transaction;)V"⟩
def RX9 : String := "VersionedRowsModel"
def TX9 : u_T := fun k => match k with
  | 0 => ("VersionedRowsModel", "pile", "I", false)
  | 1 => ("VersionedRowsModel", "indexes", "I", false)
  | 2 => ("VersionedRowsModel", "nodes", "[I", true)
  | 3 => ("VersionedRowsModel", "op", "[I", true)
  | 4 => ("VersionedRowsModel", "with", "[I", true)
  | 5 => ("VersionedRowsModel", "bool", "[Z", true)
  | 6 => ("VersionedRowsModel", "many", "I", false)
  | 7 => ("VersionedRowsModel", "space", "[I", true)
  | 8 => ("VersionedRowsModel", "value", "[I", true)
  | 9 => ("VersionedRowsModel", "key", "[I", true)
  | 10 => ("VersionedRowsModel", "stamp", "[I", true)
  | 11 => ("VersionedRowsModel", "live", "[Z", true)
  | 12 => ("VersionedRowsModel", "fields", "[I", true)
  | 13 => ("VersionedRowsModel", "file", "[I", true)
  | 14 => ("VersionedRowsModel", "files", "I", false)
  | 15 => ("VersionedRowsModel", "number", "[I", true)
  | 16 => ("VersionedRowsModel", "level", "[I", true)
  | 17 => ("VersionedRowsModel", "made", "I", false)
  | 18 => ("VersionedRowsModel", "last", "I", false)
  | 19 => ("VersionedRowsModel", "transactions", "I", false)
  | 20 => ("VersionedRowsModel", "state", "[I", true)
  | 21 => ("VersionedRowsModel", "began", "[I", true)
  | 22 => ("VersionedRowsModel", "writes", "[I", true)
  | 23 => ("VersionedRowsModel", "rows", "[I", true)
  | 24 => ("VersionedRowsModel", "row", "[I", true)
  | 25 => ("VersionedRowsModel", "numbers", "[I", true)
  | 26 => ("VersionedRowsModel", "results", "[I", true)
  | 27 => ("VersionedRowsModel", "found", "I", false)
  | 28 => ("VersionedRowsModel", "used", "I", false)
  | 29 => ("VersionedRowsModel", "candidates", "I", false)
  | 30 => ("VersionedRowsModel", "low", "J", false)
  | 31 => ("VersionedRowsModel", "high", "J", false)
  | 32 => ("VersionedRowsModel", "says", "Z", false)
  | 33 => ("VersionedRowsModel", "least", "J", false)
  | 34 => ("VersionedRowsModel", "greatest", "J", false)
  | 35 => ("VersionedRowsModel", "order", "[I", true)
  | 36 => ("VersionedRowsModel", "sorted", "I", false)
  | _ => ("VersionedRowsModel", "taken", "[Z", true)
def tyX9 : Nat → FieldType := fun k => match k with
  | 0 => .int
  | 1 => .int
  | 2 => .array .int
  | 3 => .array .int
  | 4 => .array .int
  | 5 => .array .boolean
  | 6 => .int
  | 7 => .array .int
  | 8 => .array .int
  | 9 => .array .int
  | 10 => .array .int
  | 11 => .array .boolean
  | 12 => .array .int
  | 13 => .array .int
  | 14 => .int
  | 15 => .array .int
  | 16 => .array .int
  | 17 => .int
  | 18 => .int
  | 19 => .int
  | 20 => .array .int
  | 21 => .array .int
  | 22 => .array .int
  | 23 => .array .int
  | 24 => .array .int
  | 25 => .array .int
  | 26 => .array .int
  | 27 => .int
  | 28 => .int
  | 29 => .int
  | 30 => .long
  | 31 => .long
  | 32 => .boolean
  | 33 => .long
  | 34 => .long
  | 35 => .array .int
  | 36 => .int
  | _ => .array .boolean
abbrev wsX90 : List Cond := u_ws RX9 TX9 38
theorem nmX9 : ∀ a, a < 38 → ∀ b, b < 38 → a ≠ b → (TX9 a).2.1 ≠ (TX9 b).2.1 := by decide +kernel
theorem tyX9_ok : ∀ k, k < 38 → parseFieldDescriptor (TX9 k).2.2.1 = some (tyX9 k) := by decide +kernel
abbrev cX9_init : ByteArray := prog_11_method_1_code
def yX9_init : MethodName := ⟨RX9, "<init>", "()V"⟩
abbrev cX9_isKey : ByteArray := prog_11_method_2_code
def yX9_isKey : MethodName := ⟨RX9, "isKey", "(I)Z"⟩
abbrev cX9_isName : ByteArray := prog_11_method_3_code
def yX9_isName : MethodName := ⟨RX9, "isName", "(I)Z"⟩
abbrev cX9_needs : ByteArray := prog_11_method_4_code
def yX9_needs : MethodName := ⟨RX9, "needs", "(I)I"⟩
abbrev cX9_say : ByteArray := prog_11_method_5_code
def yX9_say : MethodName := ⟨RX9, "say", "(II)Z"⟩
abbrev cX9_starts : ByteArray := prog_11_method_6_code
def yX9_starts : MethodName := ⟨RX9, "starts", "(II)Z"⟩
abbrev cX9_two : ByteArray := prog_11_method_7_code
def yX9_two : MethodName := ⟨RX9, "two", "(III)I"⟩
abbrev cX9_value : ByteArray := prog_11_method_8_code
def yX9_value : MethodName := ⟨RX9, "value", "(I)I"⟩
abbrev cX9_index : ByteArray := prog_11_method_9_code
def yX9_index : MethodName := ⟨RX9, "index", "()I"⟩
abbrev cX9_seen : ByteArray := prog_11_method_10_code
def yX9_seen : MethodName := ⟨RX9, "seen", "(IIII)I"⟩
abbrev cX9_rowAt : ByteArray := prog_11_method_11_code
def yX9_rowAt : MethodName := ⟨RX9, "rowAt", "(II)Z"⟩
abbrev cX9_rowFor : ByteArray := prog_11_method_12_code
def yX9_rowFor : MethodName := ⟨RX9, "rowFor", "(II)Z"⟩
abbrev cX9_open : ByteArray := prog_11_method_13_code
def yX9_open : MethodName := ⟨RX9, "open", "(I)Z"⟩
abbrev cX9_opens : ByteArray := prog_11_method_14_code
def yX9_opens : MethodName := ⟨RX9, "opens", "()I"⟩
abbrev cX9_horizon : ByteArray := prog_11_method_15_code
def yX9_horizon : MethodName := ⟨RX9, "horizon", "()I"⟩
abbrev cX9_inFile : ByteArray := prog_11_method_16_code
def yX9_inFile : MethodName := ⟨RX9, "inFile", "(I)I"⟩
abbrev cX9_begin : ByteArray := prog_11_method_17_code
def yX9_begin : MethodName := ⟨RX9, "begin", "()I"⟩
abbrev cX9_read : ByteArray := prog_11_method_18_code
def yX9_read : MethodName := ⟨RX9, "read", "(III)I"⟩
abbrev cX9_write : ByteArray := prog_11_method_19_code
def yX9_write : MethodName := ⟨RX9, "write", "(IIIII)Z"⟩
abbrev cX9_remove : ByteArray := prog_11_method_20_code
def yX9_remove : MethodName := ⟨RX9, "remove", "(II)Z"⟩
abbrev cX9_beaten : ByteArray := prog_11_method_21_code
def yX9_beaten : MethodName := ⟨RX9, "beaten", "(I)Z"⟩
abbrev cX9_reads : ByteArray := prog_11_method_22_code
def yX9_reads : MethodName := ⟨RX9, "reads", "(I)Z"⟩
abbrev cX9_entry : ByteArray := prog_11_method_23_code
def yX9_entry : MethodName := ⟨RX9, "entry", "(IIIZ)V"⟩
abbrev cX9_batch : ByteArray := prog_11_method_24_code
def yX9_batch : MethodName := ⟨RX9, "batch", "(IZ)I"⟩
abbrev cX9_comes : ByteArray := prog_11_method_25_code
def yX9_comes : MethodName := ⟨RX9, "comes", "(I)V"⟩
abbrev cX9_commit : ByteArray := prog_11_method_26_code
def yX9_commit : MethodName := ⟨RX9, "commit", "(I)I"⟩
abbrev cX9_tear : ByteArray := prog_11_method_27_code
def yX9_tear : MethodName := ⟨RX9, "tear", "(II)I"⟩
abbrev cX9_abort : ByteArray := prog_11_method_28_code
def yX9_abort : MethodName := ⟨RX9, "abort", "(I)Z"⟩
abbrev cX9_crash : ByteArray := prog_11_method_29_code
def yX9_crash : MethodName := ⟨RX9, "crash", "()I"⟩
abbrev cX9_addFile : ByteArray := prog_11_method_30_code
def yX9_addFile : MethodName := ⟨RX9, "addFile", "(I)V"⟩
abbrev cX9_dropFile : ByteArray := prog_11_method_31_code
def yX9_dropFile : MethodName := ⟨RX9, "dropFile", "(I)V"⟩
abbrev cX9_flush : ByteArray := prog_11_method_32_code
def yX9_flush : MethodName := ⟨RX9, "flush", "()I"⟩
abbrev cX9_files : ByteArray := prog_11_method_33_code
def yX9_files : MethodName := ⟨RX9, "files", "(I)I"⟩
abbrev cX9_settle : ByteArray := prog_11_method_34_code
def yX9_settle : MethodName := ⟨RX9, "settle", "()V"⟩
abbrev cX9_compact : ByteArray := prog_11_method_35_code
def yX9_compact : MethodName := ⟨RX9, "compact", "()I"⟩
abbrev cX9_places : ByteArray := prog_11_method_36_code
def yX9_places : MethodName := ⟨RX9, "places", "(II)I"⟩
abbrev cX9_before : ByteArray := prog_11_method_37_code
def yX9_before : MethodName := ⟨RX9, "before", "(II)Z"⟩
abbrev cX9_end : ByteArray := prog_11_method_38_code
def yX9_end : MethodName := ⟨RX9, "end", "(IZ)I"⟩
abbrev cX9_meet : ByteArray := prog_11_method_39_code
def yX9_meet : MethodName := ⟨RX9, "meet", "(II)Z"⟩
abbrev cX9_sort : ByteArray := prog_11_method_40_code
def yX9_sort : MethodName := ⟨RX9, "sort", "()V"⟩
abbrev cX9_compacts : ByteArray := prog_11_method_41_code
def yX9_compacts : MethodName := ⟨RX9, "compacts", "(I)I"⟩
abbrev cX9_merge : ByteArray := prog_11_method_42_code
def yX9_merge : MethodName := ⟨RX9, "merge", "(I)I"⟩
abbrev cX9_clean : ByteArray := prog_11_method_43_code
def yX9_clean : MethodName := ⟨RX9, "clean", "()V"⟩
abbrev cX9_from : ByteArray := prog_11_method_44_code
def yX9_from : MethodName := ⟨RX9, "from", "(II)I"⟩
abbrev cX9_same : ByteArray := prog_11_method_45_code
def yX9_same : MethodName := ⟨RX9, "same", "(IIII)Z"⟩
abbrev cX9_bound : ByteArray := prog_11_method_46_code
def yX9_bound : MethodName := ⟨RX9, "bound", "(JJ)V"⟩
abbrev cX9_conjunct : ByteArray := prog_11_method_47_code
def yX9_conjunct : MethodName := ⟨RX9, "conjunct", "(III)V"⟩
abbrev cX9_conjuncts : ByteArray := prog_11_method_48_code
def yX9_conjuncts : MethodName := ⟨RX9, "conjuncts", "(II)V"⟩
abbrev cX9_query : ByteArray := prog_11_method_49_code
def yX9_query : MethodName := ⟨RX9, "query", "(I)I"⟩
abbrev cX9_result : ByteArray := prog_11_method_50_code
def yX9_result : MethodName := ⟨RX9, "result", "(I)I"⟩
abbrev cX9_plan : ByteArray := prog_11_method_51_code
def yX9_plan : MethodName := ⟨RX9, "plan", "(I)J"⟩
abbrev cX9_state : ByteArray := prog_11_method_52_code
def yX9_state : MethodName := ⟨RX9, "state", "(I)I"⟩
abbrev cX9_about : ByteArray := prog_11_method_53_code
def yX9_about : MethodName := ⟨RX9, "about", "(I)I"⟩
abbrev cX9_file : ByteArray := prog_11_method_54_code
def yX9_file : MethodName := ⟨RX9, "file", "(III)I"⟩
abbrev cX9_aboutFile : ByteArray := prog_11_method_55_code
def yX9_aboutFile : MethodName := ⟨RX9, "aboutFile", "(II)I"⟩
def RJx145de : String := "java/io/Serializable"
def TJx145de : u_T := fun k => match k with
  | _ => ("", "", "", false)
def tyJx145de : Nat → FieldType := fun k => match k with
  | _ => .int
abbrev wsJx145de0 : List Cond := u_ws RJx145de TJx145de 0
theorem nmJx145de : ∀ a, a < 0 → ∀ b, b < 0 → a ≠ b → (TJx145de a).2.1 ≠ (TJx145de b).2.1 := by decide +kernel
theorem tyJx145de_ok : ∀ k, k < 0 → parseFieldDescriptor (TJx145de k).2.2.1 = some (tyJx145de k) := by decide +kernel
def RJx8e188 : String := "java/lang/Cloneable"
def TJx8e188 : u_T := fun k => match k with
  | _ => ("", "", "", false)
def tyJx8e188 : Nat → FieldType := fun k => match k with
  | _ => .int
abbrev wsJx8e1880 : List Cond := u_ws RJx8e188 TJx8e188 0
theorem nmJx8e188 : ∀ a, a < 0 → ∀ b, b < 0 → a ≠ b → (TJx8e188 a).2.1 ≠ (TJx8e188 b).2.1 := by decide +kernel
theorem tyJx8e188_ok : ∀ k, k < 0 → parseFieldDescriptor (TJx8e188 k).2.2.1 = some (tyJx8e188 k) := by decide +kernel
def RJxab1ab : String := "java/lang/Iterable"
def TJxab1ab : u_T := fun k => match k with
  | _ => ("", "", "", false)
def tyJxab1ab : Nat → FieldType := fun k => match k with
  | _ => .int
abbrev wsJxab1ab0 : List Cond := u_ws RJxab1ab TJxab1ab 0
theorem nmJxab1ab : ∀ a, a < 0 → ∀ b, b < 0 → a ≠ b → (TJxab1ab a).2.1 ≠ (TJxab1ab b).2.1 := by decide +kernel
theorem tyJxab1ab_ok : ∀ k, k < 0 → parseFieldDescriptor (TJxab1ab k).2.2.1 = some (tyJxab1ab k) := by decide +kernel
def RJ9 : String := "java/lang/Math"
def TJ9 : u_T := fun k => match k with
  | _ => ("", "", "", false)
def tyJ9 : Nat → FieldType := fun k => match k with
  | _ => .int
abbrev wsJ90 : List Cond := u_ws RJ9 TJ9 0
theorem nmJ9 : ∀ a, a < 0 → ∀ b, b < 0 → a ≠ b → (TJ9 a).2.1 ≠ (TJ9 b).2.1 := by decide +kernel
theorem tyJ9_ok : ∀ k, k < 0 → parseFieldDescriptor (TJ9 k).2.2.1 = some (tyJ9 k) := by decide +kernel
abbrev cJ9_max_7cf53 : ByteArray := prog_15_method_65_code
def yJ9_max_7cf53 : MethodName := ⟨RJ9, "max", "(II)I"⟩
abbrev cJ9_max_f86c9 : ByteArray := prog_15_method_66_code
def yJ9_max_f86c9 : MethodName := ⟨RJ9, "max", "(JJ)J"⟩
abbrev cJ9_min_7cf53 : ByteArray := prog_15_method_69_code
def yJ9_min_7cf53 : MethodName := ⟨RJ9, "min", "(II)I"⟩
abbrev cJ9_min_f86c9 : ByteArray := prog_15_method_70_code
def yJ9_min_f86c9 : MethodName := ⟨RJ9, "min", "(JJ)J"⟩
def RJ10 : String := "java/lang/System"
def TJ10 : u_T := fun k => match k with
  | _ => ("", "", "", false)
def tyJ10 : Nat → FieldType := fun k => match k with
  | _ => .int
abbrev wsJ100 : List Cond := u_ws RJ10 TJ10 0
theorem nmJ10 : ∀ a, a < 0 → ∀ b, b < 0 → a ≠ b → (TJ10 a).2.1 ≠ (TJ10 b).2.1 := by decide +kernel
theorem tyJ10_ok : ∀ k, k < 0 → parseFieldDescriptor (TJ10 k).2.2.1 = some (tyJ10 k) := by decide +kernel
def RJxa1e45 : String := "java/util/AbstractCollection"
def TJxa1e45 : u_T := fun k => match k with
  | _ => ("", "", "", false)
def tyJxa1e45 : Nat → FieldType := fun k => match k with
  | _ => .int
abbrev wsJxa1e450 : List Cond := u_ws RJxa1e45 TJxa1e45 0
theorem nmJxa1e45 : ∀ a, a < 0 → ∀ b, b < 0 → a ≠ b → (TJxa1e45 a).2.1 ≠ (TJxa1e45 b).2.1 := by decide +kernel
theorem tyJxa1e45_ok : ∀ k, k < 0 → parseFieldDescriptor (TJxa1e45 k).2.2.1 = some (tyJxa1e45 k) := by decide +kernel
abbrev cJxa1e45_init_da8c8 : ByteArray := prog_17_method_1_code
def yJxa1e45_init_da8c8 : MethodName := ⟨RJxa1e45, "<init>", "()V"⟩
def RJxc12de : String := "java/util/AbstractList"
def TJxc12de : u_T := fun k => match k with
  | _ => ("", "", "", false)
def tyJxc12de : Nat → FieldType := fun k => match k with
  | _ => .int
abbrev wsJxc12de0 : List Cond := u_ws RJxc12de TJxc12de 0
theorem nmJxc12de : ∀ a, a < 0 → ∀ b, b < 0 → a ≠ b → (TJxc12de a).2.1 ≠ (TJxc12de b).2.1 := by decide +kernel
theorem tyJxc12de_ok : ∀ k, k < 0 → parseFieldDescriptor (TJxc12de k).2.2.1 = some (tyJxc12de k) := by decide +kernel
abbrev cJxc12de_init_da8c8 : ByteArray := prog_18_method_1_code
def yJxc12de_init_da8c8 : MethodName := ⟨RJxc12de, "<init>", "()V"⟩
def RJx4a65c : String := "java/util/ArrayList"
def TJx4a65c : u_T := fun k => match k with
  | 0 => ("java/util/AbstractList", "modCount", "I", false)
  | 1 => ("java/util/ArrayList", "elementData", "[Ljava/lang/Object;", false)
  | _ => ("java/util/ArrayList", "size", "I", false)
def tyJx4a65c : Nat → FieldType := fun k => match k with
  | 0 => .int
  | 1 => .array (.object "java/lang/Object")
  | _ => .int
abbrev wsJx4a65c0 : List Cond := u_ws RJx4a65c TJx4a65c 3
theorem nmJx4a65c : ∀ a, a < 3 → ∀ b, b < 3 → a ≠ b → (TJx4a65c a).2.1 ≠ (TJx4a65c b).2.1 := by decide +kernel
theorem tyJx4a65c_ok : ∀ k, k < 3 → parseFieldDescriptor (TJx4a65c k).2.2.1 = some (tyJx4a65c k) := by decide +kernel
abbrev cJx4a65c_init_da8c8 : ByteArray := prog_19_method_2_code
def yJx4a65c_init_da8c8 : MethodName := ⟨RJx4a65c, "<init>", "()V"⟩
abbrev cJx4a65c_grow_92f84 : ByteArray := prog_19_method_6_code
def yJx4a65c_grow_92f84 : MethodName := ⟨RJx4a65c, "grow", "(I)[Ljava/lang/Object;"⟩
abbrev cJx4a65c_grow_d5877 : ByteArray := prog_19_method_7_code
def yJx4a65c_grow_d5877 : MethodName := ⟨RJx4a65c, "grow", "()[Ljava/lang/Object;"⟩
abbrev cJx4a65c_size_8abf5 : ByteArray := prog_19_method_8_code
def yJx4a65c_size_8abf5 : MethodName := ⟨RJx4a65c, "size", "()I"⟩
abbrev cJx4a65c_elementData_915e3 : ByteArray := prog_19_method_18_code
def yJx4a65c_elementData_915e3 : MethodName := ⟨RJx4a65c, "elementData", "(I)Ljava/lang/Object;"⟩
abbrev cJx4a65c_get_915e3 : ByteArray := prog_19_method_20_code
def yJx4a65c_get_915e3 : MethodName := ⟨RJx4a65c, "get", "(I)Ljava/lang/Object;"⟩
abbrev cJx4a65c_add_72be8 : ByteArray := prog_19_method_24_code
def yJx4a65c_add_72be8 : MethodName := ⟨RJx4a65c, "add", "(Ljava/lang/Object;[Ljava/lang/Object;I)V"⟩
abbrev cJx4a65c_add_9ea2d : ByteArray := prog_19_method_25_code
def yJx4a65c_add_9ea2d : MethodName := ⟨RJx4a65c, "add", "(Ljava/lang/Object;)Z"⟩
abbrev cJx4a65c_remove_915e3 : ByteArray := prog_19_method_29_code
def yJx4a65c_remove_915e3 : MethodName := ⟨RJx4a65c, "remove", "(I)Ljava/lang/Object;"⟩
abbrev cJx4a65c_fastRemove_b59b0 : ByteArray := prog_19_method_39_code
def yJx4a65c_fastRemove_b59b0 : MethodName := ⟨RJx4a65c, "fastRemove", "([Ljava/lang/Object;I)V"⟩
def RJ7 : String := "java/util/Arrays"
def TJ7 : u_T := fun k => match k with
  | _ => ("", "", "", false)
def tyJ7 : Nat → FieldType := fun k => match k with
  | _ => .int
abbrev wsJ70 : List Cond := u_ws RJ7 TJ7 0
theorem nmJ7 : ∀ a, a < 0 → ∀ b, b < 0 → a ≠ b → (TJ7 a).2.1 ≠ (TJ7 b).2.1 := by decide +kernel
theorem tyJ7_ok : ∀ k, k < 0 → parseFieldDescriptor (TJ7 k).2.2.1 = some (tyJ7 k) := by decide +kernel
abbrev cJ7_copyOf_1904c : ByteArray := prog_20_method_119_code
def yJ7_copyOf_1904c : MethodName := ⟨RJ7, "copyOf", "([Ljava/lang/Object;I)[Ljava/lang/Object;"⟩
abbrev cJ7_copyOf_6403c : ByteArray := prog_20_method_120_code
def yJ7_copyOf_6403c : MethodName := ⟨RJ7, "copyOf", "([Ljava/lang/Object;ILjava/lang/Class;)[Ljava/lang/Object;"⟩
def RJx5ef63 : String := "java/util/Collection"
def TJx5ef63 : u_T := fun k => match k with
  | _ => ("", "", "", false)
def tyJx5ef63 : Nat → FieldType := fun k => match k with
  | _ => .int
abbrev wsJx5ef630 : List Cond := u_ws RJx5ef63 TJx5ef63 0
theorem nmJx5ef63 : ∀ a, a < 0 → ∀ b, b < 0 → a ≠ b → (TJx5ef63 a).2.1 ≠ (TJx5ef63 b).2.1 := by decide +kernel
theorem tyJx5ef63_ok : ∀ k, k < 0 → parseFieldDescriptor (TJx5ef63 k).2.2.1 = some (tyJx5ef63 k) := by decide +kernel
def RJxbd725 : String := "java/util/List"
def TJxbd725 : u_T := fun k => match k with
  | _ => ("", "", "", false)
def tyJxbd725 : Nat → FieldType := fun k => match k with
  | _ => .int
abbrev wsJxbd7250 : List Cond := u_ws RJxbd725 TJxbd725 0
theorem nmJxbd725 : ∀ a, a < 0 → ∀ b, b < 0 → a ≠ b → (TJxbd725 a).2.1 ≠ (TJxbd725 b).2.1 := by decide +kernel
theorem tyJxbd725_ok : ∀ k, k < 0 → parseFieldDescriptor (TJxbd725 k).2.2.1 = some (tyJxbd725 k) := by decide +kernel
def RJ15 : String := "java/util/Objects"
def TJ15 : u_T := fun k => match k with
  | _ => ("", "", "", false)
def tyJ15 : Nat → FieldType := fun k => match k with
  | _ => .int
abbrev wsJ150 : List Cond := u_ws RJ15 TJ15 0
theorem nmJ15 : ∀ a, a < 0 → ∀ b, b < 0 → a ≠ b → (TJ15 a).2.1 ≠ (TJ15 b).2.1 := by decide +kernel
theorem tyJ15_ok : ∀ k, k < 0 → parseFieldDescriptor (TJ15 k).2.2.1 = some (tyJ15 k) := by decide +kernel
abbrev cJ15_checkIndex_7cf53 : ByteArray := prog_23_method_17_code
def yJ15_checkIndex_7cf53 : MethodName := ⟨RJ15, "checkIndex", "(II)I"⟩
def RJxf0a74 : String := "java/util/RandomAccess"
def TJxf0a74 : u_T := fun k => match k with
  | _ => ("", "", "", false)
def tyJxf0a74 : Nat → FieldType := fun k => match k with
  | _ => .int
abbrev wsJxf0a740 : List Cond := u_ws RJxf0a74 TJxf0a74 0
theorem nmJxf0a74 : ∀ a, a < 0 → ∀ b, b < 0 → a ≠ b → (TJxf0a74 a).2.1 ≠ (TJxf0a74 b).2.1 := by decide +kernel
theorem tyJxf0a74_ok : ∀ k, k < 0 → parseFieldDescriptor (TJxf0a74 k).2.2.1 = some (tyJxf0a74 k) := by decide +kernel
def RJxa66e6 : String := "java/util/SequencedCollection"
def TJxa66e6 : u_T := fun k => match k with
  | _ => ("", "", "", false)
def tyJxa66e6 : Nat → FieldType := fun k => match k with
  | _ => .int
abbrev wsJxa66e60 : List Cond := u_ws RJxa66e6 TJxa66e6 0
theorem nmJxa66e6 : ∀ a, a < 0 → ∀ b, b < 0 → a ≠ b → (TJxa66e6 a).2.1 ≠ (TJxa66e6 b).2.1 := by decide +kernel
theorem tyJxa66e6_ok : ∀ k, k < 0 → parseFieldDescriptor (TJxa66e6 k).2.2.1 = some (tyJxa66e6 k) := by decide +kernel
def RJ8 : String := "jdk/internal/util/ArraysSupport"
def TJ8 : u_T := fun k => match k with
  | _ => ("", "", "", false)
def tyJ8 : Nat → FieldType := fun k => match k with
  | _ => .int
abbrev wsJ80 : List Cond := u_ws RJ8 TJ8 0
theorem nmJ8 : ∀ a, a < 0 → ∀ b, b < 0 → a ≠ b → (TJ8 a).2.1 ≠ (TJ8 b).2.1 := by decide +kernel
theorem tyJ8_ok : ∀ k, k < 0 → parseFieldDescriptor (TJ8 k).2.2.1 = some (tyJ8 k) := by decide +kernel
abbrev cJ8_newLength_cabcc : ByteArray := prog_26_method_27_code
def yJ8_newLength_cabcc : MethodName := ⟨RJ8, "newLength", "(III)I"⟩
abbrev cJ8_hugeLength_7cf53 : ByteArray := prog_26_method_28_code
def yJ8_hugeLength_7cf53 : MethodName := ⟨RJ8, "hugeLength", "(II)I"⟩
def RJ3 : String := "jdk/internal/util/Preconditions"
def TJ3 : u_T := fun k => match k with
  | _ => ("", "", "", false)
def tyJ3 : Nat → FieldType := fun k => match k with
  | _ => .int
abbrev wsJ30 : List Cond := u_ws RJ3 TJ3 0
theorem nmJ3 : ∀ a, a < 0 → ∀ b, b < 0 → a ≠ b → (TJ3 a).2.1 ≠ (TJ3 b).2.1 := by decide +kernel
theorem tyJ3_ok : ∀ k, k < 0 → parseFieldDescriptor (TJ3 k).2.2.1 = some (tyJ3 k) := by decide +kernel
abbrev cJ3_checkIndex_8e157 : ByteArray := prog_27_method_11_code
def yJ3_checkIndex_8e157 : MethodName := ⟨RJ3, "checkIndex", "(IILjava/util/function/BiFunction;)I"⟩
def RL : String := "VersionedRowsLaw"
abbrev cL_law : ByteArray := code
def yL_law : MethodName := ⟨RL, "law", "([I)Z"⟩
end
section
/-! THE ENGINE. Logical values, a heap by fields (each field a map from ids to values), and two judgements over the machine: Sm (exact: this frame ends so) and Ev (it ends, and so). Ids: 0 the empty array of ArrayList, 1 the mirror of Object[], 2 the script, from 3 on the cells that were made since the law began, in order. -/
abbrev LV : Type := Int32 ⊕ Int64 ⊕ Option Nat
abbrev iV (x : Int32) : LV := .inl x
abbrev lV (x : Int64) : LV := .inr (.inl x)
abbrev rV (r : Option Nat) : LV := .inr (.inr r)
/-- kinds, int fields, long fields, reference fields (by field number, then id), int arrays, reference arrays, lengths, the next id, the slots made -/
abbrev GH : Type := (Nat → Nat) × (Nat → Nat → Int32) × (Nat → Nat → Int64) × (Nat → Nat → Option Nat) × (Nat → Nat → Int32) × (Nat → Nat → Option Nat) × (Nat → Nat) × Nat × Nat
abbrev gh_n (G : GH) : Nat := G.2.2.2.2.2.2.2.1
abbrev gh_s (G : GH) : Nat := G.2.2.2.2.2.2.2.2
def u2 {α : Type} (f : Nat → Nat → α) (a b : Nat) (v : α) : Nat → Nat → α := fun i j => if i = a ∧ j = b then v else f i j
/-- the launch; the tables of classes; the array classes; (base, empty array, mirror, script); the script's length and ints -/
abbrev CX : Type := Launch × va_G × (Nat → ClassId) × (Nat × Nat × Nat × Nat) × Nat × (Nat → Int32)
abbrev cx_b (X : CX) : Nat := X.2.2.2.1.1
def cx_ad (X : CX) (i : Nat) : Nat := if i = 0 then X.2.2.2.1.2.1 else if i = 1 then X.2.2.2.1.2.2.1 else if i = 2 then X.2.2.2.1.2.2.2 else cx_b X + (i - 3)
def cx_v (X : CX) : LV → Value
  | .inl x => .int x
  | .inr (.inl x) => .long x
  | .inr (.inr r) => va_rf (r.map (cx_ad X))
abbrev cx_A (X : CX) : Nat → Prop := fun q => cx_b X ≤ q
abbrev gcl : List vw_C := [(RX0, TX0, 7), (RX1, TX1, 5), (RX2, TX2, 4), (RX3, TX3, 3), (RX4, TX4, 4), (RX5, TX5, 6), (RX6, TX6, 5), (RX7, TX7, 5), (RX8, TX8, 13), (RX9, TX9, 38), (RJx4a65c, TJx4a65c, 3)]
def gty (c : Nat) : Nat → FieldType := match c with
  | 0 => tyX0 | 1 => tyX1 | 2 => tyX2 | 3 => tyX3 | 4 => tyX4 | 5 => tyX5 | 6 => tyX6 | 7 => tyX7 | 8 => tyX8 | 9 => tyX9 | _ => tyJx4a65c
def gnf (c : Nat) : Nat := match c with
  | 0 => 7 | 1 => 5 | 2 => 4 | 3 => 3 | 4 => 4 | 5 => 6 | 6 => 5 | 7 => 5 | 8 => 13 | 9 => 38 | _ => 3
/-- the array types: kind 100 + k -/
abbrev cx_ty (X : CX) : List (ClassId × FieldType) := [(X.2.2.1 0, .int), (X.2.2.1 1, .boolean), (X.2.2.1 2, .object RX1), (X.2.2.1 3, .object RX7), (X.2.2.1 4, .object RX3), (X.2.2.1 5, .object RX0), (X.2.2.1 6, .object "java/lang/Object")]
def fv (X : CX) (G : GH) (t : FieldType) (f i : Nat) : Value := match t with
  | .long => .long (G.2.2.1 f i)
  | .int => .int (G.2.1 f i)
  | .boolean => .int (G.2.1 f i)
  | _ => va_rf ((G.2.2.2.1 f i).map (cx_ad X))
def fvs (X : CX) (G : GH) (c i : Nat) : List Value := (List.range (gnf c)).map (fun k => fv X G (gty c k) (64 * c + k) i)
def cellE (X : CX) (G : GH) (i : Nat) : va_E := if G.1 i < 100 then .inr (G.1 i, fvs X G (G.1 i) i) else .inl (X.2.2.1 (G.1 i - 100), G.2.2.2.2.2.2.1 i, if G.1 i < 102 then .inl (G.2.2.2.2.1 i) else .inr (.inr (.inr (.inr (fun j => (G.2.2.2.2.2.1 i j).map (cx_ad X))))))
/-- an id that is not made yet holds nothing -/
def Fresh (G : GH) (i : Nat) : Prop := (∀ f, G.2.1 f i = 0) ∧ (∀ f, G.2.2.1 f i = 0) ∧ (∀ f, G.2.2.2.1 f i = none) ∧ (∀ j, G.2.2.2.2.1 i j = 0) ∧ (∀ j, G.2.2.2.2.2.1 i j = none) ∧ 900 ≤ G.1 i
/-- the machine's heap H is the logical heap G -/
def Rel (X : CX) (G : GH) (H : Heap) : Prop := (gh_n G + cx_b X = H.size + 3 ∧ 3 ≤ gh_n G) ∧ (∀ i, G.1 i < 900 → 3 ≤ i ∧ i < gh_n G ∧ va_at X.2.1 gcl (cx_ad X i, cellE X G i) H) ∧ ∀ i, gh_n G ≤ i → Fresh G i
def SameAt (G1 G : GH) (j : Nat) : Prop := (∀ f, G1.2.1 f j = G.2.1 f j) ∧ (∀ f, G1.2.2.1 f j = G.2.2.1 f j) ∧ (∀ f, G1.2.2.2.1 f j = G.2.2.2.1 f j) ∧ G1.2.2.2.2.1 j = G.2.2.2.2.1 j ∧ G1.2.2.2.2.2.1 j = G.2.2.2.2.2.1 j ∧ G1.2.2.2.2.2.2.1 j = G.2.2.2.2.2.2.1 j
def lw_g : List Cond := lw_tbl.filter goodWord
def isNest : Cond → Bool
  | .fieldLinkNest .. => true
  | .methodLinkNest .. => true
  | _ => false
def lw_n : List Cond := lw_tbl.filter isNest
def NWs (U : State) : Prop := ∀ w ∈ lw_n, va_Nw w U
theorem NWs.moved {s U : State} (hW : s.WarmedH U.vm) (h : NWs s) : NWs U := by
  intro w hw
  have h1 := h w hw
  have h2 := (List.mem_filter.mp hw).2
  cases w <;> first | (cases h2; done) | exact va_Nw.warmF hW h1 | exact va_Nw.warmM hW h1
abbrev alE : String × String × String := ("java/util/ArrayList", "DEFAULTCAPACITY_EMPTY_ELEMENTDATA", "[Ljava/lang/Object;")
/-- what stands outside the made cells: ArrayList's empty array and its static, the mirror, the script -/
def Ext (X : CX) (U : State) : Prop := va_Z alE.1 alE.2.1 alE.2.2 (.ref (cx_ad X 0)) (cx_A X) U U.heap ∧ va_T (.object "java/lang/Object") (cx_ad X 0) 0 (fun _ => .null) (cx_A X) U U.heap ∧ va_Mi "[Ljava/lang/Object;" (cx_ad X 1) U ∧ va_Dc U ∧ va_X (cx_ad X 2) X.2.2.2.2.1 X.2.2.2.2.2 U U.heap ∧ cx_ad X 2 < cx_b X
def AOs (U : State) : Prop := va_AO RX1 U ∧ va_AO RX7 U ∧ va_AO RX3 U ∧ va_AO RX0 U ∧ va_AO "java/lang/Object" U
def StOk (X : CX) (U : State) : Prop := va_K X.2.1 gcl (cx_ty X) U ∧ NWs U ∧ AOs U ∧ va_Nw (.castable RX5 "java/lang/Object") U ∧ Ext X U ∧ cx_b X ≤ U.heap.size
abbrev MD : Type := MethodName × ByteArray × Nat × Option FieldType × Bool
def gTn (c : Nat) : u_T := match c with
  | 0 => TX0 | 1 => TX1 | 2 => TX2 | 3 => TX3 | 4 => TX4 | 5 => TX5 | 6 => TX6 | 7 => TX7 | 8 => TX8 | 9 => TX9 | _ => TJx4a65c
def gRn (c : Nat) : String := match c with
  | 0 => RX0 | 1 => RX1 | 2 => RX2 | 3 => RX3 | 4 => RX4 | 5 => RX5 | 6 => RX6 | 7 => RX7 | 8 => RX8 | 9 => RX9 | _ => RJx4a65c
theorem gcl_at : ∀ c, c < 11 → gcl[c]? = some (gRn c, gTn c, gnf c)
  | 0, _ => rfl | 1, _ => rfl | 2, _ => rfl | 3, _ => rfl | 4, _ => rfl | 5, _ => rfl | 6, _ => rfl | 7, _ => rfl | 8, _ => rfl | 9, _ => rfl | 10, _ => rfl
  | n + 11, h => absurd h (by omega)
/-- entry idx of the class own's pool is field f: number f mod 64 of class f div 64 -/
def FLk (own : String) (idx f : Nat) : Prop := f / 64 < 11 ∧ f % 64 < gnf (f / 64) ∧ (Cond.fieldLink own idx (gTn (f / 64) (f % 64)).1 (gTn (f / 64) (f % 64)).2.1 (gTn (f / 64) (f % 64)).2.2.1 ∈ lw_g ∨ ∃ host, Cond.fieldLinkNest own idx (gTn (f / 64) (f % 64)).1 (gTn (f / 64) (f % 64)).2.1 (gTn (f / 64) (f % 64)).2.2.1 host ∈ lw_n)
def FLi (own : String) (idx f : Nat) : Prop := FLk own idx f ∧ (gty (f / 64) (f % 64) = .int ∨ gty (f / 64) (f % 64) = .boolean)
def FLj (own : String) (idx f : Nat) : Prop := FLk own idx f ∧ gty (f / 64) (f % 64) = .long
def FLr (own : String) (idx f : Nat) : Prop := FLk own idx f ∧ ((∃ n, gty (f / 64) (f % 64) = .object n) ∨ ∃ t, gty (f / 64) (f % 64) = .array t)
def FLm (own : String) (idx f : Nat) : Prop := Cond.fieldLink own idx (gTn (f / 64) (f % 64)).1 (gTn (f / 64) (f % 64)).2.1 (gTn (f / 64) (f % 64)).2.2.1 ∈ lw_g
end
section
theorem StOk.moved {X : CX} {s U : State} {locs : List Loc} (hW : s.WarmedH U.vm) (hS : va_S (cx_A X) s.heap U.heap locs) (h : StOk X s) : StOk X U := by
  obtain ⟨h1, h2, h3, h4, ⟨e1, e2, e3, e4, e5, e6⟩, h6⟩ := h
  have hk : ∀ a : Nat, a < s.heap.size → ¬ cx_A X a → U.heap[a]? = s.heap[a]? := fun a ha hn => hS.2.1 a ha hn
  refine ⟨h1.moved hW.alike, h2.moved hW, ⟨h3.1.moved hW.alike, h3.2.1.moved hW.alike, h3.2.2.1.moved hW.alike, h3.2.2.2.1.moved hW.alike, h3.2.2.2.2.moved hW.alike⟩, h4.warmC hW, ⟨(e1.moved hW.alike).kept hk, (e2.moved hW.alike).kept hk, e3.moved hW.alike, e4.moved hW.alike, (e5.moved hW.alike).kept (hk _ (Nat.lt_of_lt_of_le e6 h6) (Nat.not_le.mpr e6)), e6⟩, Nat.le_trans h6 hS.1⟩
def lvOK (X : CX) (ls : Array Slot) (nL : Nat) (L : List (Option LV)) : Prop := ls.size = nL ∧ lv_wf ls ∧ ∀ (i : Nat) (v : LV), L[i]? = some (some v) → ls[i]? = some (.val (cx_v X v))
/-- the place of a return instruction that fits the answer -/
def retAt (M : MD) (pc : Nat) (r : Option LV) : Prop :=
  (r = none ∧ M.2.2.2.1 = none ∧ decode M.2.1 pc = .ok (.return_, 1)) ∨
  (∃ v : Int32, r = some (iV v) ∧ ((M.2.2.2.1 = some .int) ∨ (M.2.2.2.1 = some .boolean ∧ (v = 0 ∨ v = 1))) ∧ decode M.2.1 pc = .ok (.ireturn, 1)) ∨
  (∃ v : Int64, r = some (lV v) ∧ M.2.2.2.1 = some .long ∧ decode M.2.1 pc = .ok (.lreturn, 1)) ∨
  (∃ (q : Option Nat) (t : FieldType), r = some (rV q) ∧ M.2.2.2.1 = some t ∧ ((∃ n, t = .object n) ∨ ∃ t', t = .array t') ∧ decode M.2.1 pc = .ok (.areturn, 1))
def MCx (X : CX) (M : MD) (d : Nat) (p : Program) (R : Room) (s : State) (m : MethodId) (args : Array Value) (meth : Method) (c : Code) : Prop :=
  p.tables.exec = Jvm.exec ∧ c.code = M.2.1 ∧ meth.sig.returnType = M.2.2.2.1 ∧ c.maxLocals = M.2.2.1 ∧ s.vm.findClass M.1.cls = some m.cls ∧ (∀ w ∈ lw_g, w.before args s = true) ∧ meth.locks = false ∧ (M.2.2.2.2 = true → meth.name = "<init>") ∧ StOk X s ∧ d ≤ R.frames ∧ 64 * d ≤ R.locals
/-- exact: from this frame, over a heap that is G, the method comes to its return with r, and the heap is G' -/
def Sm (X : CX) (M : MD) (d pc : Nat) (L : List (Option LV)) (S : List LV) (G : GH) (r : Option LV) (G' : GH) : Prop :=
  ∀ (p : Program) (e : Env) (R : Room) (s : State) (m : MethodId) (args : Array Value) (below : List Frame) (meth : Method) (c : Code), MCx X M d p R s m args meth c →
  ∀ (H : Heap) (locs : List Loc) (cells slots : Nat) (ls : Array Slot) (Z : State → Prop), Rel X G H → va_S (cx_A X) s.heap H locs → lvOK X ls M.2.2.1 L →
    cells + (gh_n G' - gh_n G) ≤ R.cells → slots + (gh_s G' - gh_s G) ≤ R.slots →
    (∀ (H' : Heap) (locs' : List Loc) (ls' : Array Slot) (pc' : Nat), Rel X G' H' → va_S (cx_A X) s.heap H' locs' → retAt M pc' r →
      W p X.1 e R s m args below meth c H' locs' (cells + (gh_n G' - gh_n G)) (slots + (gh_s G' - gh_s G)) Z (F0 m pc' ls' (r.toList.map (cx_v X)))) →
    W p X.1 e R s m args below meth c H locs cells slots Z (F0 m pc ls (S.map (cx_v X)))
def Ev (X : CX) (M : MD) (d pc : Nat) (L : List (Option LV)) (S : List LV) (G : GH) (Q : Option LV → GH → Prop) : Prop :=
  ∃ (r : Option LV) (G' : GH), gh_n G ≤ gh_n G' ∧ gh_s G ≤ gh_s G' ∧ Sm X M d pc L S G r G' ∧ Q r G'
theorem Ev.mono {X : CX} {M : MD} {d pc : Nat} {L : List (Option LV)} {S : List LV} {G : GH} {Q Q' : Option LV → GH → Prop} (h : Ev X M d pc L S G Q) (hq : ∀ r G', Q r G' → Q' r G') : Ev X M d pc L S G Q' := by
  obtain ⟨r, G', h1, h2, h3, h4⟩ := h
  exact ⟨r, G', h1, h2, h3, hq r G' h4⟩
/-- a step that leaves the heap as it is -/
def Ps (X : CX) (M : MD) (d pc : Nat) (L : List (Option LV)) (S : List LV) (pc' : Nat) (L' : List (Option LV)) (S' : List LV) : Prop :=
  ∀ (p : Program) (e : Env) (R : Room) (s : State) (m : MethodId) (args : Array Value) (below : List Frame) (meth : Method) (c : Code), MCx X M d p R s m args meth c →
  ∀ (H : Heap) (locs : List Loc) (cells slots : Nat) (ls : Array Slot) (Z : State → Prop), va_S (cx_A X) s.heap H locs → lvOK X ls M.2.2.1 L →
    (∀ ls' : Array Slot, lvOK X ls' M.2.2.1 L' → W p X.1 e R s m args below meth c H locs cells slots Z (F0 m pc' ls' (S'.map (cx_v X)))) →
    W p X.1 e R s m args below meth c H locs cells slots Z (F0 m pc ls (S.map (cx_v X)))
theorem Ev.ps {X : CX} {M : MD} {d pc pc' : Nat} {L L' : List (Option LV)} {S S' : List LV} {G : GH} {Q : Option LV → GH → Prop} (hp : Ps X M d pc L S pc' L' S') (h : Ev X M d pc' L' S' G Q) : Ev X M d pc L S G Q := by
  obtain ⟨r, G', h1, h2, h3, h4⟩ := h
  refine ⟨r, G', h1, h2, ?_, h4⟩
  intro p e R s m args below meth c C H locs cells slots ls Z hR hS hl hc hs k
  exact hp p e R s m args below meth c C H locs cells slots ls Z hS hl fun ls' hl' => h3 p e R s m args below meth c C H locs cells slots ls' Z hR hS hl' hc hs k
section RET
variable {X : CX} {M : MD} {d pc : Nat} {L : List (Option LV)} {G : GH} {Q : Option LV → GH → Prop}
theorem Ev.done {r : Option LV} (hr : retAt M pc r) (hq : Q r G) : Ev X M d pc L r.toList G Q := by
  refine ⟨r, G, Nat.le_refl _, Nat.le_refl _, ?_, hq⟩
  intro p e R s m args below meth c C H locs cells slots ls Z hR hS hl hc hs k
  have h := k H locs ls pc hR hS hr
  simpa using h
theorem ev_return (hd : decode M.2.1 pc = .ok (.return_, 1)) (ht : M.2.2.2.1 = none) (hq : Q none G) : Ev X M d pc L [] G Q := Ev.done (r := none) (Or.inl ⟨rfl, ht, hd⟩) hq
theorem ev_ireturn {v : Int32} (hd : decode M.2.1 pc = .ok (.ireturn, 1)) (ht : M.2.2.2.1 = some .int) (hq : Q (some (iV v)) G) : Ev X M d pc L [iV v] G Q := Ev.done (r := some (iV v)) (Or.inr (Or.inl ⟨v, rfl, Or.inl ht, hd⟩)) hq
theorem ev_zreturn {v : Int32} (hd : decode M.2.1 pc = .ok (.ireturn, 1)) (ht : M.2.2.2.1 = some .boolean) (hv : v = 0 ∨ v = 1) (hq : Q (some (iV v)) G) : Ev X M d pc L [iV v] G Q := Ev.done (r := some (iV v)) (Or.inr (Or.inl ⟨v, rfl, Or.inr ⟨ht, hv⟩, hd⟩)) hq
theorem ev_lreturn {v : Int64} (hd : decode M.2.1 pc = .ok (.lreturn, 1)) (ht : M.2.2.2.1 = some .long) (hq : Q (some (lV v)) G) : Ev X M d pc L [lV v] G Q := Ev.done (r := some (lV v)) (Or.inr (Or.inr (Or.inl ⟨v, rfl, ht, hd⟩))) hq
theorem ev_areturn {v : Option Nat} {n : String} (hd : decode M.2.1 pc = .ok (.areturn, 1)) (ht : M.2.2.2.1 = some (.object n)) (hq : Q (some (rV v)) G) : Ev X M d pc L [rV v] G Q := Ev.done (r := some (rV v)) (Or.inr (Or.inr (Or.inr ⟨v, _, rfl, ht, Or.inl ⟨n, rfl⟩, hd⟩))) hq
theorem ev_areturnA {v : Option Nat} {t : FieldType} (hd : decode M.2.1 pc = .ok (.areturn, 1)) (ht : M.2.2.2.1 = some (.array t)) (hq : Q (some (rV v)) G) : Ev X M d pc L [rV v] G Q := Ev.done (r := some (rV v)) (Or.inr (Or.inr (Or.inr ⟨v, _, rfl, ht, Or.inr ⟨t, rfl⟩, hd⟩))) hq
end RET
end
section
section PURE
variable {X : CX} {M : MD} {d pc : Nat} {L : List (Option LV)} {S : List LV} {G : GH} {Q : Option LV → GH → Prop}
theorem ev_iconst {n : Int} (v : Int32) (hd : decode M.2.1 pc = .ok (.iconst n, 1)) (hv : Int32.ofInt n = v) (k : Ev X M d (pc + 1) L (iV v :: S) G Q) : Ev X M d pc L (S) G Q := k.ps (fun _ _ _ _ _ _ _ _ _ C _ _ _ _ ls _ hS hl kk => lv_iconst C.1 C.2.1 hd hv (kk ls hl))
theorem ev_bipush {n : Int} (v : Int32) (hd : decode M.2.1 pc = .ok (.bipush n, 2)) (hv : (Int8.ofInt n).toInt32 = v) (k : Ev X M d (pc + 2) L (iV v :: S) G Q) : Ev X M d pc L (S) G Q := k.ps (fun _ _ _ _ _ _ _ _ _ C _ _ _ _ ls _ hS hl kk => lv_bipush C.1 C.2.1 hd hv (kk ls hl))
theorem ev_sipush {n : Int} (v : Int32) (hd : decode M.2.1 pc = .ok (.sipush n, 3)) (hv : (Int16.ofInt n).toInt32 = v) (k : Ev X M d (pc + 3) L (iV v :: S) G Q) : Ev X M d pc L (S) G Q := k.ps (fun _ _ _ _ _ _ _ _ _ C _ _ _ _ ls _ hS hl kk => lv_sipush C.1 C.2.1 hd hv (kk ls hl))
theorem ev_lconst {n : Fin 2} (v : Int64) (hd : decode M.2.1 pc = .ok (.lconst n, 1)) (hv : Int64.ofNat (n : Nat) = v) (k : Ev X M d (pc + 1) L (lV v :: S) G Q) : Ev X M d pc L (S) G Q := k.ps (fun _ _ _ _ _ _ _ _ _ C _ _ _ _ ls _ hS hl kk => lv_lconst C.1 C.2.1 hd hv (kk ls hl))
theorem ev_null  (hd : decode M.2.1 pc = .ok (.aconst_null, 1)) (k : Ev X M d (pc + 1) L (rV none :: S) G Q) : Ev X M d pc L (S) G Q := k.ps (fun _ _ _ _ _ _ _ _ _ C _ _ _ _ ls _ hS hl kk => lv_null C.1 C.2.1 hd (kk ls hl))
theorem ev_ldc {i : Nat} {v : Int32} (hd : decode M.2.1 pc = .ok (.ldc i, 2)) (hc : Cond.constant M.1.cls i v ∈ lw_g) (k : Ev X M d (pc + 2) L (iV v :: S) G Q) : Ev X M d pc L S G Q := k.ps (fun _ _ _ _ _ _ _ _ _ C _ _ _ _ ls _ hS hl kk => lv_ldc C.1 C.2.1 C.2.2.2.2.1 (C.2.2.2.2.2.1 _ hc) hd (kk ls hl))
theorem ev_ldcw {i : Nat} {v : Int32} (hd : decode M.2.1 pc = .ok (.ldc_w i, 3)) (hc : Cond.constant M.1.cls i v ∈ lw_g) (k : Ev X M d (pc + 3) L (iV v :: S) G Q) : Ev X M d pc L S G Q := k.ps (fun _ _ _ _ _ _ _ _ _ C _ _ _ _ ls _ hS hl kk => lv_ldcw C.1 C.2.1 C.2.2.2.2.1 (C.2.2.2.2.2.1 _ hc) hd (kk ls hl))
theorem ev_ldc2 {i : Nat} {v : Int64} (hd : decode M.2.1 pc = .ok (.ldc2_w i, 3)) (hc : Cond.constantLong M.1.cls i v ∈ lw_g) (k : Ev X M d (pc + 3) L (lV v :: S) G Q) : Ev X M d pc L S G Q := k.ps (fun _ _ _ _ _ _ _ _ _ C _ _ _ _ ls _ hS hl kk => lv_ldc2 C.1 C.2.1 C.2.2.2.2.1 (C.2.2.2.2.2.1 _ hc) hd (kk ls hl))
theorem ev_iload_n {j : Fin 4} {x : Int32} (hd : decode M.2.1 pc = .ok (.iload_n j, 1)) (hv : L[(j : Nat)]? = some (some (iV x))) (k : Ev X M d (pc + 1) L (iV x :: S) G Q) : Ev X M d pc L (S) G Q := k.ps (fun _ _ _ _ _ _ _ _ _ C _ _ _ _ ls _ hS hl kk => lv_iload_n C.1 C.2.1 hd rfl (hl.2.2 _ _ hv) (kk ls hl))
theorem ev_iload {j : Nat} {x : Int32} (hd : decode M.2.1 pc = .ok (.iload j, 2)) (hv : L[j]? = some (some (iV x))) (k : Ev X M d (pc + 2) L (iV x :: S) G Q) : Ev X M d pc L (S) G Q := k.ps (fun _ _ _ _ _ _ _ _ _ C _ _ _ _ ls _ hS hl kk => lv_iload C.1 C.2.1 hd (hl.2.2 _ _ hv) (kk ls hl))
theorem ev_lload_n {j : Fin 4} {x : Int64} (hd : decode M.2.1 pc = .ok (.lload_n j, 1)) (hv : L[(j : Nat)]? = some (some (lV x))) (k : Ev X M d (pc + 1) L (lV x :: S) G Q) : Ev X M d pc L (S) G Q := k.ps (fun _ _ _ _ _ _ _ _ _ C _ _ _ _ ls _ hS hl kk => lv_lload_n C.1 C.2.1 hd rfl (hl.2.2 _ _ hv) (kk ls hl))
theorem ev_lload {j : Nat} {x : Int64} (hd : decode M.2.1 pc = .ok (.lload j, 2)) (hv : L[j]? = some (some (lV x))) (k : Ev X M d (pc + 2) L (lV x :: S) G Q) : Ev X M d pc L (S) G Q := k.ps (fun _ _ _ _ _ _ _ _ _ C _ _ _ _ ls _ hS hl kk => lv_lload C.1 C.2.1 hd (hl.2.2 _ _ hv) (kk ls hl))
theorem ev_aload_n {j : Fin 4} {r : Option Nat} (hd : decode M.2.1 pc = .ok (.aload_n j, 1)) (hv : L[(j : Nat)]? = some (some (rV r))) (k : Ev X M d (pc + 1) L (rV r :: S) G Q) : Ev X M d pc L S G Q := by
  cases r with
  | none => exact k.ps (fun _ _ _ _ _ _ _ _ _ C _ _ _ _ ls _ hS hl kk => lv_aload_nN C.1 C.2.1 hd rfl (hl.2.2 _ _ hv) (kk ls hl))
  | some x => exact k.ps (fun _ _ _ _ _ _ _ _ _ C _ _ _ _ ls _ hS hl kk => lv_aload_n C.1 C.2.1 hd rfl (hl.2.2 _ _ hv) (kk ls hl))
theorem ev_aload {j : Nat} {r : Option Nat} (hd : decode M.2.1 pc = .ok (.aload j, 2)) (hv : L[j]? = some (some (rV r))) (k : Ev X M d (pc + 2) L (rV r :: S) G Q) : Ev X M d pc L S G Q := by
  cases r with
  | none => exact k.ps (fun _ _ _ _ _ _ _ _ _ C _ _ _ _ ls _ hS hl kk => lv_aloadN C.1 C.2.1 hd (hl.2.2 _ _ hv) (kk ls hl))
  | some x => exact k.ps (fun _ _ _ _ _ _ _ _ _ C _ _ _ _ ls _ hS hl kk => lv_aload C.1 C.2.1 hd (hl.2.2 _ _ hv) (kk ls hl))
theorem ev_iadd {x y : Int32} (hd : decode M.2.1 pc = .ok (.iadd, 1)) (k : Ev X M d (pc + 1) L (iV (x + y) :: S) G Q) : Ev X M d pc L (iV y :: iV x :: S) G Q := k.ps (fun _ _ _ _ _ _ _ _ _ C _ _ _ _ ls _ hS hl kk => lv_iadd C.1 C.2.1 hd (kk ls hl))
theorem ev_isub {x y : Int32} (hd : decode M.2.1 pc = .ok (.isub, 1)) (k : Ev X M d (pc + 1) L (iV (x - y) :: S) G Q) : Ev X M d pc L (iV y :: iV x :: S) G Q := k.ps (fun _ _ _ _ _ _ _ _ _ C _ _ _ _ ls _ hS hl kk => lv_isub C.1 C.2.1 hd (kk ls hl))
theorem ev_imul {x y : Int32} (hd : decode M.2.1 pc = .ok (.imul, 1)) (k : Ev X M d (pc + 1) L (iV (x * y) :: S) G Q) : Ev X M d pc L (iV y :: iV x :: S) G Q := k.ps (fun _ _ _ _ _ _ _ _ _ C _ _ _ _ ls _ hS hl kk => lv_imul C.1 C.2.1 hd (kk ls hl))
theorem ev_iand {x y : Int32} (hd : decode M.2.1 pc = .ok (.iand, 1)) (k : Ev X M d (pc + 1) L (iV (x &&& y) :: S) G Q) : Ev X M d pc L (iV y :: iV x :: S) G Q := k.ps (fun _ _ _ _ _ _ _ _ _ C _ _ _ _ ls _ hS hl kk => lv_iand C.1 C.2.1 hd (kk ls hl))
theorem ev_ior {x y : Int32} (hd : decode M.2.1 pc = .ok (.ior, 1)) (k : Ev X M d (pc + 1) L (iV (x ||| y) :: S) G Q) : Ev X M d pc L (iV y :: iV x :: S) G Q := k.ps (fun _ _ _ _ _ _ _ _ _ C _ _ _ _ ls _ hS hl kk => lv_ior C.1 C.2.1 hd (kk ls hl))
theorem ev_ixor {x y : Int32} (hd : decode M.2.1 pc = .ok (.ixor, 1)) (k : Ev X M d (pc + 1) L (iV (x ^^^ y) :: S) G Q) : Ev X M d pc L (iV y :: iV x :: S) G Q := k.ps (fun _ _ _ _ _ _ _ _ _ C _ _ _ _ ls _ hS hl kk => lv_ixor C.1 C.2.1 hd (kk ls hl))
theorem ev_idiv {x y : Int32} (hd : decode M.2.1 pc = .ok (.idiv, 1)) (hy : ¬ y = 0) (k : Ev X M d (pc + 1) L (iV (x / y) :: S) G Q) : Ev X M d pc L (iV y :: iV x :: S) G Q := k.ps (fun _ _ _ _ _ _ _ _ _ C _ _ _ _ ls _ hS hl kk => lv_idiv C.1 C.2.1 hd hy (kk ls hl))
theorem ev_irem {x y : Int32} (hd : decode M.2.1 pc = .ok (.irem, 1)) (hy : ¬ y = 0) (k : Ev X M d (pc + 1) L (iV (x - x / y * y) :: S) G Q) : Ev X M d pc L (iV y :: iV x :: S) G Q := k.ps (fun _ _ _ _ _ _ _ _ _ C _ _ _ _ ls _ hS hl kk => lv_irem C.1 C.2.1 hd hy (kk ls hl))
theorem ev_ineg {x : Int32} (hd : decode M.2.1 pc = .ok (.ineg, 1)) (k : Ev X M d (pc + 1) L (iV (-x) :: S) G Q) : Ev X M d pc L (iV x :: S) G Q := k.ps (fun _ _ _ _ _ _ _ _ _ C _ _ _ _ ls _ hS hl kk => lv_ineg C.1 C.2.1 hd (kk ls hl))
theorem ev_ishr {x y : Int32} (hd : decode M.2.1 pc = .ok (.ishr, 1)) (k : Ev X M d (pc + 1) L (iV (x >>> (y &&& 31)) :: S) G Q) : Ev X M d pc L (iV y :: iV x :: S) G Q := k.ps (fun _ _ _ _ _ _ _ _ _ C _ _ _ _ ls _ hS hl kk => lv_ishr C.1 C.2.1 hd (kk ls hl))
theorem ev_ladd {x y : Int64} (hd : decode M.2.1 pc = .ok (.ladd, 1)) (k : Ev X M d (pc + 1) L (lV (x + y) :: S) G Q) : Ev X M d pc L (lV y :: lV x :: S) G Q := k.ps (fun _ _ _ _ _ _ _ _ _ C _ _ _ _ ls _ hS hl kk => lv_ladd C.1 C.2.1 hd (kk ls hl))
theorem ev_lsub {x y : Int64} (hd : decode M.2.1 pc = .ok (.lsub, 1)) (k : Ev X M d (pc + 1) L (lV (x - y) :: S) G Q) : Ev X M d pc L (lV y :: lV x :: S) G Q := k.ps (fun _ _ _ _ _ _ _ _ _ C _ _ _ _ ls _ hS hl kk => lv_lsub C.1 C.2.1 hd (kk ls hl))
theorem ev_lshl {x : Int64} {y : Int32} (hd : decode M.2.1 pc = .ok (.lshl, 1)) (k : Ev X M d (pc + 1) L (lV (x <<< (y.toInt64 &&& 63)) :: S) G Q) : Ev X M d pc L (iV y :: lV x :: S) G Q := k.ps (fun _ _ _ _ _ _ _ _ _ C _ _ _ _ ls _ hS hl kk => lv_lshl C.1 C.2.1 hd rfl (kk ls hl))
theorem ev_i2l {x : Int32} (hd : decode M.2.1 pc = .ok (.i2l, 1)) (k : Ev X M d (pc + 1) L (lV x.toInt64 :: S) G Q) : Ev X M d pc L (iV x :: S) G Q := k.ps (fun _ _ _ _ _ _ _ _ _ C _ _ _ _ ls _ hS hl kk => lv_i2l C.1 C.2.1 hd rfl (kk ls hl))
theorem cx_cat1 (X : CX) : ∀ v : LV, (∀ y, v ≠ lV y) → (cx_v X v).category = 1
  | .inl _, _ => rfl
  | .inr (.inl y), h => absurd rfl (h y)
  | .inr (.inr none), _ => rfl
  | .inr (.inr (some _)), _ => rfl
def LV1 : LV → Bool
  | .inr (.inl _) => false
  | _ => true
theorem cx_c1 {X : CX} {v : LV} (h : LV1 v = true) : (cx_v X v).category = 1 := cx_cat1 X v (fun y e => by rw [e] at h; cases h)
theorem ev_dup {v : LV} (hd : decode M.2.1 pc = .ok (.dup, 1)) (hv : LV1 v = true) (k : Ev X M d (pc + 1) L (v :: v :: S) G Q) : Ev X M d pc L (v :: S) G Q := k.ps (fun _ _ _ _ _ _ _ _ _ C _ _ _ _ ls _ hS hl kk => lv_dup C.1 C.2.1 hd (cx_c1 hv) (kk ls hl))
theorem ev_pop {v : LV} (hd : decode M.2.1 pc = .ok (.pop, 1)) (hv : LV1 v = true) (k : Ev X M d (pc + 1) L (S) G Q) : Ev X M d pc L (v :: S) G Q := k.ps (fun _ _ _ _ _ _ _ _ _ C _ _ _ _ ls _ hS hl kk => lv_pop C.1 C.2.1 hd (cx_c1 hv) (kk ls hl))
theorem ev_dup_x1 {v v2 : LV} (hd : decode M.2.1 pc = .ok (.dup_x1, 1)) (hv : LV1 v = true) (hv2 : LV1 v2 = true) (k : Ev X M d (pc + 1) L (v :: v2 :: v :: S) G Q) : Ev X M d pc L (v :: v2 :: S) G Q := k.ps (fun _ _ _ _ _ _ _ _ _ C _ _ _ _ ls _ hS hl kk => lv_dup_x1 C.1 C.2.1 hd (cx_c1 hv) (cx_c1 hv2) (kk ls hl))
theorem ev_dup2_11 {v v2 : LV} (hd : decode M.2.1 pc = .ok (.dup2, 1)) (hv : LV1 v = true) (hv2 : LV1 v2 = true) (k : Ev X M d (pc + 1) L (v :: v2 :: v :: v2 :: S) G Q) : Ev X M d pc L (v :: v2 :: S) G Q := k.ps (fun _ _ _ _ _ _ _ _ _ C _ _ _ _ ls _ hS hl kk => lv_dup2_11 C.1 C.2.1 hd (cx_c1 hv) (cx_c1 hv2) (kk ls hl))
theorem ev_if_eq {x : Int32} {o : Int} (t : Nat) (hd : decode M.2.1 pc = .ok (.ifCond .eq o, 3)) (ht : (pc : Int) + o = (t : Int)) (kt : x = 0 → Ev X M d t L S G Q) (kf : ¬ (x = 0) → Ev X M d (pc + 3) L S G Q) : Ev X M d pc L (iV x :: S) G Q := by
  by_cases h : x = 0
  · exact (kt h).ps (fun _ _ _ _ _ _ _ _ _ C _ _ _ _ ls _ hS hl kk => lv_if_eq C.1 C.2.1 hd ht (fun _ => kk ls hl) (fun z => absurd h z))
  · exact (kf h).ps (fun _ _ _ _ _ _ _ _ _ C _ _ _ _ ls _ hS hl kk => lv_if_eq C.1 C.2.1 hd ht (fun z => absurd z h) (fun _ => kk ls hl))
theorem ev_if_lt {x : Int32} {o : Int} (t : Nat) (hd : decode M.2.1 pc = .ok (.ifCond .lt o, 3)) (ht : (pc : Int) + o = (t : Int)) (kt : x < 0 → Ev X M d t L S G Q) (kf : ¬ (x < 0) → Ev X M d (pc + 3) L S G Q) : Ev X M d pc L (iV x :: S) G Q := by
  by_cases h : x < 0
  · exact (kt h).ps (fun _ _ _ _ _ _ _ _ _ C _ _ _ _ ls _ hS hl kk => lv_if_lt C.1 C.2.1 hd ht (fun _ => kk ls hl) (fun z => absurd h z))
  · exact (kf h).ps (fun _ _ _ _ _ _ _ _ _ C _ _ _ _ ls _ hS hl kk => lv_if_lt C.1 C.2.1 hd ht (fun z => absurd z h) (fun _ => kk ls hl))
theorem ev_if_ge {x : Int32} {o : Int} (t : Nat) (hd : decode M.2.1 pc = .ok (.ifCond .ge o, 3)) (ht : (pc : Int) + o = (t : Int)) (kt : 0 ≤ x → Ev X M d t L S G Q) (kf : ¬ (0 ≤ x) → Ev X M d (pc + 3) L S G Q) : Ev X M d pc L (iV x :: S) G Q := by
  by_cases h : 0 ≤ x
  · exact (kt h).ps (fun _ _ _ _ _ _ _ _ _ C _ _ _ _ ls _ hS hl kk => lv_if_ge C.1 C.2.1 hd ht (fun _ => kk ls hl) (fun z => absurd h z))
  · exact (kf h).ps (fun _ _ _ _ _ _ _ _ _ C _ _ _ _ ls _ hS hl kk => lv_if_ge C.1 C.2.1 hd ht (fun z => absurd z h) (fun _ => kk ls hl))
theorem ev_if_gt {x : Int32} {o : Int} (t : Nat) (hd : decode M.2.1 pc = .ok (.ifCond .gt o, 3)) (ht : (pc : Int) + o = (t : Int)) (kt : 0 < x → Ev X M d t L S G Q) (kf : ¬ (0 < x) → Ev X M d (pc + 3) L S G Q) : Ev X M d pc L (iV x :: S) G Q := by
  by_cases h : 0 < x
  · exact (kt h).ps (fun _ _ _ _ _ _ _ _ _ C _ _ _ _ ls _ hS hl kk => lv_if_gt C.1 C.2.1 hd ht (fun _ => kk ls hl) (fun z => absurd h z))
  · exact (kf h).ps (fun _ _ _ _ _ _ _ _ _ C _ _ _ _ ls _ hS hl kk => lv_if_gt C.1 C.2.1 hd ht (fun z => absurd z h) (fun _ => kk ls hl))
theorem ev_if_le {x : Int32} {o : Int} (t : Nat) (hd : decode M.2.1 pc = .ok (.ifCond .le o, 3)) (ht : (pc : Int) + o = (t : Int)) (kt : x ≤ 0 → Ev X M d t L S G Q) (kf : ¬ (x ≤ 0) → Ev X M d (pc + 3) L S G Q) : Ev X M d pc L (iV x :: S) G Q := by
  by_cases h : x ≤ 0
  · exact (kt h).ps (fun _ _ _ _ _ _ _ _ _ C _ _ _ _ ls _ hS hl kk => lv_if_le C.1 C.2.1 hd ht (fun _ => kk ls hl) (fun z => absurd h z))
  · exact (kf h).ps (fun _ _ _ _ _ _ _ _ _ C _ _ _ _ ls _ hS hl kk => lv_if_le C.1 C.2.1 hd ht (fun z => absurd z h) (fun _ => kk ls hl))
theorem ev_icmp_eq {x y : Int32} {o : Int} (t : Nat) (hd : decode M.2.1 pc = .ok (.if_icmp .eq o, 3)) (ht : (pc : Int) + o = (t : Int)) (kt : x = y → Ev X M d t L S G Q) (kf : ¬ (x = y) → Ev X M d (pc + 3) L S G Q) : Ev X M d pc L (iV y :: iV x :: S) G Q := by
  by_cases h : x = y
  · exact (kt h).ps (fun _ _ _ _ _ _ _ _ _ C _ _ _ _ ls _ hS hl kk => lv_icmp_eq C.1 C.2.1 hd ht (fun _ => kk ls hl) (fun z => absurd h z))
  · exact (kf h).ps (fun _ _ _ _ _ _ _ _ _ C _ _ _ _ ls _ hS hl kk => lv_icmp_eq C.1 C.2.1 hd ht (fun z => absurd z h) (fun _ => kk ls hl))
theorem ev_icmp_lt {x y : Int32} {o : Int} (t : Nat) (hd : decode M.2.1 pc = .ok (.if_icmp .lt o, 3)) (ht : (pc : Int) + o = (t : Int)) (kt : x < y → Ev X M d t L S G Q) (kf : ¬ (x < y) → Ev X M d (pc + 3) L S G Q) : Ev X M d pc L (iV y :: iV x :: S) G Q := by
  by_cases h : x < y
  · exact (kt h).ps (fun _ _ _ _ _ _ _ _ _ C _ _ _ _ ls _ hS hl kk => lv_icmp_lt C.1 C.2.1 hd ht (fun _ => kk ls hl) (fun z => absurd h z))
  · exact (kf h).ps (fun _ _ _ _ _ _ _ _ _ C _ _ _ _ ls _ hS hl kk => lv_icmp_lt C.1 C.2.1 hd ht (fun z => absurd z h) (fun _ => kk ls hl))
theorem ev_icmp_ge {x y : Int32} {o : Int} (t : Nat) (hd : decode M.2.1 pc = .ok (.if_icmp .ge o, 3)) (ht : (pc : Int) + o = (t : Int)) (kt : y ≤ x → Ev X M d t L S G Q) (kf : ¬ (y ≤ x) → Ev X M d (pc + 3) L S G Q) : Ev X M d pc L (iV y :: iV x :: S) G Q := by
  by_cases h : y ≤ x
  · exact (kt h).ps (fun _ _ _ _ _ _ _ _ _ C _ _ _ _ ls _ hS hl kk => lv_icmp_ge C.1 C.2.1 hd ht (fun _ => kk ls hl) (fun z => absurd h z))
  · exact (kf h).ps (fun _ _ _ _ _ _ _ _ _ C _ _ _ _ ls _ hS hl kk => lv_icmp_ge C.1 C.2.1 hd ht (fun z => absurd z h) (fun _ => kk ls hl))
theorem ev_icmp_gt {x y : Int32} {o : Int} (t : Nat) (hd : decode M.2.1 pc = .ok (.if_icmp .gt o, 3)) (ht : (pc : Int) + o = (t : Int)) (kt : y < x → Ev X M d t L S G Q) (kf : ¬ (y < x) → Ev X M d (pc + 3) L S G Q) : Ev X M d pc L (iV y :: iV x :: S) G Q := by
  by_cases h : y < x
  · exact (kt h).ps (fun _ _ _ _ _ _ _ _ _ C _ _ _ _ ls _ hS hl kk => lv_icmp_gt C.1 C.2.1 hd ht (fun _ => kk ls hl) (fun z => absurd h z))
  · exact (kf h).ps (fun _ _ _ _ _ _ _ _ _ C _ _ _ _ ls _ hS hl kk => lv_icmp_gt C.1 C.2.1 hd ht (fun z => absurd z h) (fun _ => kk ls hl))
theorem ev_icmp_le {x y : Int32} {o : Int} (t : Nat) (hd : decode M.2.1 pc = .ok (.if_icmp .le o, 3)) (ht : (pc : Int) + o = (t : Int)) (kt : x ≤ y → Ev X M d t L S G Q) (kf : ¬ (x ≤ y) → Ev X M d (pc + 3) L S G Q) : Ev X M d pc L (iV y :: iV x :: S) G Q := by
  by_cases h : x ≤ y
  · exact (kt h).ps (fun _ _ _ _ _ _ _ _ _ C _ _ _ _ ls _ hS hl kk => lv_icmp_le C.1 C.2.1 hd ht (fun _ => kk ls hl) (fun z => absurd h z))
  · exact (kf h).ps (fun _ _ _ _ _ _ _ _ _ C _ _ _ _ ls _ hS hl kk => lv_icmp_le C.1 C.2.1 hd ht (fun z => absurd z h) (fun _ => kk ls hl))
theorem ev_if_ne {x : Int32} {o : Int} (t : Nat) (hd : decode M.2.1 pc = .ok (.ifCond .ne o, 3)) (ht : (pc : Int) + o = (t : Int)) (kt : ¬ x = 0 → Ev X M d t L S G Q) (kf : x = 0 → Ev X M d (pc + 3) L S G Q) : Ev X M d pc L (iV x :: S) G Q := by
  by_cases h : x = 0
  · exact (kf h).ps (fun _ _ _ _ _ _ _ _ _ C _ _ _ _ ls _ hS hl kk => lv_if_ne C.1 C.2.1 hd ht (fun z => absurd h z) (fun _ => kk ls hl))
  · exact (kt h).ps (fun _ _ _ _ _ _ _ _ _ C _ _ _ _ ls _ hS hl kk => lv_if_ne C.1 C.2.1 hd ht (fun _ => kk ls hl) (fun z => absurd z h))
theorem ev_icmp_ne {x y : Int32} {o : Int} (t : Nat) (hd : decode M.2.1 pc = .ok (.if_icmp .ne o, 3)) (ht : (pc : Int) + o = (t : Int)) (kt : ¬ x = y → Ev X M d t L S G Q) (kf : x = y → Ev X M d (pc + 3) L S G Q) : Ev X M d pc L (iV y :: iV x :: S) G Q := by
  by_cases h : x = y
  · exact (kf h).ps (fun _ _ _ _ _ _ _ _ _ C _ _ _ _ ls _ hS hl kk => lv_icmp_ne C.1 C.2.1 hd ht (fun z => absurd h z) (fun _ => kk ls hl))
  · exact (kt h).ps (fun _ _ _ _ _ _ _ _ _ C _ _ _ _ ls _ hS hl kk => lv_icmp_ne C.1 C.2.1 hd ht (fun _ => kk ls hl) (fun z => absurd z h))
theorem ev_goto {o : Int} (t : Nat) (hd : decode M.2.1 pc = .ok (.goto o, 3)) (ht : (pc : Int) + o = (t : Int)) (k : Ev X M d t L S G Q) : Ev X M d pc L S G Q := k.ps (fun _ _ _ _ _ _ _ _ _ C _ _ _ _ ls _ hS hl kk => lv_goto C.1 C.2.1 hd ht (kk ls hl))
theorem ev_ifnull {r : Option Nat} {o : Int} (t : Nat) (hd : decode M.2.1 pc = .ok (.ifnull o, 3)) (ht : (pc : Int) + o = (t : Int)) (kt : r = none → Ev X M d t L S G Q) (kf : ∀ x, r = some x → Ev X M d (pc + 3) L S G Q) : Ev X M d pc L (rV r :: S) G Q := by
  cases r with
  | none => exact (kt rfl).ps (fun _ _ _ _ _ _ _ _ _ C _ _ _ _ ls _ hS hl kk => lv_ifnullN C.1 C.2.1 hd ht (kk ls hl))
  | some x => exact (kf x rfl).ps (fun _ _ _ _ _ _ _ _ _ C _ _ _ _ ls _ hS hl kk => lv_ifnull C.1 C.2.1 hd (kk ls hl))
theorem ev_ifnonnull {r : Option Nat} {o : Int} (t : Nat) (hd : decode M.2.1 pc = .ok (.ifnonnull o, 3)) (ht : (pc : Int) + o = (t : Int)) (kt : ∀ x, r = some x → Ev X M d t L S G Q) (kf : r = none → Ev X M d (pc + 3) L S G Q) : Ev X M d pc L (rV r :: S) G Q := by
  cases r with
  | none => exact (kf rfl).ps (fun _ _ _ _ _ _ _ _ _ C _ _ _ _ ls _ hS hl kk => lv_ifnonnullN C.1 C.2.1 hd (kk ls hl))
  | some x => exact (kt x rfl).ps (fun _ _ _ _ _ _ _ _ _ C _ _ _ _ ls _ hS hl kk => lv_ifnonnull C.1 C.2.1 hd ht (kk ls hl))
theorem ev_lcmp {x y : Int64} (hd : decode M.2.1 pc = .ok (.lcmp, 1)) (k : Ev X M d (pc + 1) L (iV (lg_cmp x y) :: S) G Q) : Ev X M d pc L (lV y :: lV x :: S) G Q := k.ps (fun _ _ _ _ _ _ _ _ _ C _ _ _ _ ls _ hS hl kk => W.lcmp C.1 C.2.1 hd (kk ls hl))
theorem ev_tswOut {x : Int32} {f lo hi : Int} {os : Array Int} {n : Nat} (t : Nat) (hd : decode M.2.1 pc = .ok (.tableswitch f lo hi os, n)) (h : x.toInt < lo ∨ hi < x.toInt) (ht : (pc : Int) + f = (t : Int)) (k : Ev X M d t L S G Q) : Ev X M d pc L (iV x :: S) G Q := k.ps (fun _ _ _ _ _ _ _ _ _ C _ _ _ _ ls _ hS hl kk => lv_tableOut C.1 C.2.1 hd h ht (kk ls hl))
theorem ev_tswIn {x : Int32} {f lo hi : Int} {os : Array Int} {n : Nat} {o : Int} (t : Nat) (hd : decode M.2.1 pc = .ok (.tableswitch f lo hi os, n)) (h1 : ¬ x.toInt < lo) (h2 : ¬ hi < x.toInt) (ho : os[(x.toInt - lo).toNat]? = some o) (ht : (pc : Int) + o = (t : Int)) (k : Ev X M d t L S G Q) : Ev X M d pc L (iV x :: S) G Q := k.ps (fun _ _ _ _ _ _ _ _ _ C _ _ _ _ ls _ hS hl kk => lv_tableIn C.1 C.2.1 hd h1 h2 ho ht (kk ls hl))
/-- an id that acmp may look at: null, the empty array, a made cell -/
def acId : Option Nat → Prop
  | none => True
  | some i => i = 0 ∨ 3 ≤ i
theorem acId.inj {X : CX} {a b : Option Nat} (h0 : cx_ad X 0 < cx_b X) (ha : acId a) (hb : acId b) (h : a.map (cx_ad X) = b.map (cx_ad X)) : a = b := by
  cases a with
  | none => cases b with
    | none => rfl
    | some j => cases h
  | some i => cases b with
    | none => cases h
    | some j =>
      have h := Option.some.inj h
      have e : ∀ k : Nat, 3 ≤ k → cx_ad X k = cx_b X + (k - 3) := fun k hk => by unfold cx_ad; rw [if_neg (by omega), if_neg (by omega), if_neg (by omega)]
      rcases ha with rfl | ha <;> rcases hb with rfl | hb
      · rfl
      · rw [e j hb] at h; omega
      · rw [e i ha] at h; omega
      · rw [e i ha, e j hb] at h
        exact congrArg some (by omega)
theorem ev_acmp_eq {a b : Option Nat} {o : Int} (t : Nat) (hd : decode M.2.1 pc = .ok (.if_acmp .eq o, 3)) (ht : (pc : Int) + o = (t : Int)) (ha : acId a) (hb : acId b) (kt : a = b → Ev X M d t L S G Q) (kf : ¬ a = b → Ev X M d (pc + 3) L S G Q) : Ev X M d pc L (rV b :: rV a :: S) G Q := by
  by_cases h : a = b
  · exact (kt h).ps (fun _ _ _ _ _ _ _ _ _ C _ _ _ _ ls _ hS hl kk => lv_acmp_eq C.1 C.2.1 hd ht (fun _ => kk ls hl) (fun z => absurd (by rw [h]) z))
  · exact (kf h).ps (fun _ _ _ _ _ _ _ _ _ C _ _ _ _ ls _ hS hl kk => lv_acmp_eq C.1 C.2.1 hd ht (fun z => absurd (acId.inj (Nat.not_le.mp (va_T.out C.2.2.2.2.2.2.2.2.1.2.2.2.2.1.2.1)) ha hb z) h) (fun _ => kk ls hl))
theorem ev_acmp_ne {a b : Option Nat} {o : Int} (t : Nat) (hd : decode M.2.1 pc = .ok (.if_acmp .ne o, 3)) (ht : (pc : Int) + o = (t : Int)) (ha : acId a) (hb : acId b) (kt : ¬ a = b → Ev X M d t L S G Q) (kf : a = b → Ev X M d (pc + 3) L S G Q) : Ev X M d pc L (rV b :: rV a :: S) G Q := by
  by_cases h : a = b
  · exact (kf h).ps (fun _ _ _ _ _ _ _ _ _ C _ _ _ _ ls _ hS hl kk => lv_acmp_ne C.1 C.2.1 hd ht (fun z => absurd (by rw [h]) z) (fun _ => kk ls hl))
  · exact (kt h).ps (fun _ _ _ _ _ _ _ _ _ C _ _ _ _ ls _ hS hl kk => lv_acmp_ne C.1 C.2.1 hd ht (fun _ => kk ls hl) (fun z => absurd (acId.inj (Nat.not_le.mp (va_T.out C.2.2.2.2.2.2.2.2.1.2.2.2.2.1.2.1)) ha hb z) h))
theorem ev_acmp_neS {a : Option Nat} {o : Int} (hd : decode M.2.1 pc = .ok (.if_acmp .ne o, 3)) (t : Nat) (ht : (pc : Int) + o = (t : Int)) (k : Ev X M d (pc + 3) L S G Q) : Ev X M d pc L (rV a :: rV a :: S) G Q := k.ps (fun _ _ _ _ _ _ _ _ _ C _ _ _ _ ls _ hS hl kk => lv_acmp_ne C.1 C.2.1 hd ht (fun z => absurd rfl z) (fun _ => kk ls hl))
def stL (L : List (Option LV)) (i : Nat) (v : LV) : List (Option LV) := match i with
  | 0 => L.set 0 (some v)
  | j + 1 => match L[j]? with
    | some (some (.inr (.inl _))) => (L.set j none).set (j + 1) (some v)
    | _ => L.set (j + 1) (some v)
/-- the listed values of the locals, as the kit has them -/
def lvl (X : CX) (L : List (Option LV)) : List (Nat × Value) := (List.range L.length).filterMap (fun i => match L[i]? with
  | some (some v) => some (i, cx_v X v)
  | _ => none)
theorem lvl_mem {X : CX} {L : List (Option LV)} {q : Nat × Value} : q ∈ lvl X L ↔ ∃ v, L[q.1]? = some (some v) ∧ q.2 = cx_v X v := by
  unfold lvl
  rw [List.mem_filterMap]
  constructor
  · rintro ⟨i, hi, h⟩
    split at h
    · next v hv => cases h; exact ⟨v, hv, rfl⟩
    · cases h
  · rintro ⟨v, hv, h⟩
    refine ⟨q.1, List.mem_range.mpr (List.getElem?_eq_some_iff.mp hv).1, ?_⟩
    rw [hv]
    exact congrArg some (Prod.ext rfl h.symm)
theorem lvOK.has {X : CX} {ls : Array Slot} {nL : Nat} {L : List (Option LV)} (h : lvOK X ls nL L) : lv_has ls nL (lvl X L) := ⟨h.1, h.2.1, fun q hq => by
  obtain ⟨v, h1, h2⟩ := lvl_mem.mp hq
  rw [h2]
  exact h.2.2 _ _ h1⟩
theorem cx_cat2 {X : CX} {v : LV} (h : (cx_v X v).category = 2) : ∃ y, v = lV y := by
  match v, h with
  | .inl _, h => cases h
  | .inr (.inl y), _ => exact ⟨y, rfl⟩
  | .inr (.inr none), h => cases h
  | .inr (.inr (some _)), h => cases h
theorem stL_ok {X : CX} {ls' : Array Slot} {nL i : Nat} {L : List (Option LV)} {v : LV} (h : lv_has ls' nL ((i, cx_v X v) :: (lvl X L).filter (fun q => !(q.1 == i) && !(q.1 + 1 == i && q.2.category == 2)))) : lvOK X ls' nL (stL L i v) := by
  refine ⟨h.1, h.2.1, fun j w hj => ?_⟩
  have key : ∀ (P : L[j]? = some (some w)) (hji : j ≠ i) (hn : ¬ (j + 1 = i ∧ ∃ y, w = lV y)), ls'[j]? = some (.val (cx_v X w)) := by
    intro P hji hn
    refine h.2.2 (j, cx_v X w) (List.mem_cons_of_mem _ (List.mem_filter.mpr ⟨lvl_mem.mpr ⟨w, P, rfl⟩, ?_⟩))
    simp only [Bool.and_eq_true, Bool.not_eq_true', beq_eq_false_iff_ne, ne_eq, Bool.and_eq_false_iff]
    refine ⟨hji, ?_⟩
    by_cases a : j + 1 = i
    · exact Or.inr (fun c => hn ⟨a, cx_cat2 c⟩)
    · exact Or.inl a
  have self : ∀ w', some w' = some v → ls'[i]? = some (.val (cx_v X w')) := fun w' e => by
    cases e
    exact h.2.2 (i, cx_v X v) List.mem_cons_self
  cases i with
  | zero =>
    simp only [stL] at hj
    by_cases a : j = 0
    · subst a
      rw [List.getElem?_set] at hj
      simp at hj
      exact self w (by rw [hj.2])
    · rw [List.getElem?_set_ne (fun e => a e.symm)] at hj
      exact key hj a (by omega)
  | succ n =>
    simp only [stL] at hj
    split at hj
    · next y hy =>
      by_cases a : j = n + 1
      · subst a
        rw [List.getElem?_set] at hj
        simp at hj
        exact self w (by rw [hj.2])
      · rw [List.getElem?_set_ne (fun e => a e.symm)] at hj
        by_cases b : j = n
        · subst b
          rw [List.getElem?_set] at hj
          simp at hj
        · rw [List.getElem?_set_ne (fun e => b e.symm)] at hj
          exact key hj a (by omega)
    · next hy =>
      by_cases a : j = n + 1
      · subst a
        rw [List.getElem?_set] at hj
        simp at hj
        exact self w (by rw [hj.2])
      · rw [List.getElem?_set_ne (fun e => a e.symm)] at hj
        refine key hj a ?_
        rintro ⟨e, y, rfl⟩
        have : j = n := by omega
        subst this
        exact hy _ hj
theorem ev_istore_n {j : Fin 4} {x : Int32} (L' : List (Option LV)) (hd : decode M.2.1 pc = .ok (.istore_n j, 1)) (hn : (j : Nat) < M.2.2.1) (hL : stL L (j : Nat) (iV x) = L') (k : Ev X M d (pc + 1) L' S G Q) : Ev X M d pc L (iV x :: S) G Q := by
  subst hL
  exact k.ps (fun _ _ _ _ _ _ _ _ _ C _ _ _ _ ls _ hS hl kk => lv_istore_n C.1 C.2.1 hd rfl hl.has hn rfl (fun ls' h => kk ls' (stL_ok h)))
theorem ev_istore {j : Nat} {x : Int32} (L' : List (Option LV)) (hd : decode M.2.1 pc = .ok (.istore j, 2)) (hn : (j : Nat) < M.2.2.1) (hL : stL L (j : Nat) (iV x) = L') (k : Ev X M d (pc + 2) L' S G Q) : Ev X M d pc L (iV x :: S) G Q := by
  subst hL
  exact k.ps (fun _ _ _ _ _ _ _ _ _ C _ _ _ _ ls _ hS hl kk => lv_istore C.1 C.2.1 hd hl.has hn rfl (fun ls' h => kk ls' (stL_ok h)))
theorem ev_astore_n {j : Fin 4} {r : Option Nat} (L' : List (Option LV)) (hd : decode M.2.1 pc = .ok (.astore_n j, 1)) (hn : (j : Nat) < M.2.2.1) (hL : stL L (j : Nat) (rV r) = L') (k : Ev X M d (pc + 1) L' S G Q) : Ev X M d pc L (rV r :: S) G Q := by
  subst hL
  cases r with
  | none => exact k.ps (fun _ _ _ _ _ _ _ _ _ C _ _ _ _ ls _ hS hl kk => lv_astore_nN C.1 C.2.1 hd rfl hl.has hn rfl (fun ls' h => kk ls' (stL_ok (v := rV none) h)))
  | some x => exact k.ps (fun _ _ _ _ _ _ _ _ _ C _ _ _ _ ls _ hS hl kk => lv_astore_n C.1 C.2.1 hd rfl hl.has hn rfl (fun ls' h => kk ls' (stL_ok (v := rV (some x)) h)))
theorem ev_astore {j : Nat} {r : Option Nat} (L' : List (Option LV)) (hd : decode M.2.1 pc = .ok (.astore j, 2)) (hn : (j : Nat) < M.2.2.1) (hL : stL L (j : Nat) (rV r) = L') (k : Ev X M d (pc + 2) L' S G Q) : Ev X M d pc L (rV r :: S) G Q := by
  subst hL
  cases r with
  | none => exact k.ps (fun _ _ _ _ _ _ _ _ _ C _ _ _ _ ls _ hS hl kk => lv_astoreN C.1 C.2.1 hd hl.has hn rfl (fun ls' h => kk ls' (stL_ok (v := rV none) h)))
  | some x => exact k.ps (fun _ _ _ _ _ _ _ _ _ C _ _ _ _ ls _ hS hl kk => lv_astore C.1 C.2.1 hd hl.has hn rfl (fun ls' h => kk ls' (stL_ok (v := rV (some x)) h)))
end PURE
end
section
section PURE2
variable {X : CX} {M : MD} {d pc : Nat} {L : List (Option LV)} {S : List LV} {G : GH} {Q : Option LV → GH → Prop}
def stL2 (L : List (Option LV)) (i : Nat) (v : LV) : List (Option LV) := (stL L i v).set (i + 1) none
theorem stL2_ok {X : CX} {ls' : Array Slot} {nL i : Nat} {L : List (Option LV)} {v : LV} (h : lv_has ls' nL ((i, cx_v X v) :: (lvl X L).filter (fun q => !(q.1 == i) && (!(q.1 == i + 1) && !(q.1 + 1 == i && q.2.category == 2))))) : lvOK X ls' nL (stL2 L i v) := by
  refine ⟨h.1, h.2.1, fun j w hj => ?_⟩
  have hne : j ≠ i + 1 := fun e => by
    subst e
    unfold stL2 at hj
    rw [List.getElem?_set] at hj
    simp at hj
  unfold stL2 at hj
  rw [List.getElem?_set_ne (fun e => hne e.symm)] at hj
  have key : ∀ (P : L[j]? = some (some w)) (hji : j ≠ i) (hn : ¬ (j + 1 = i ∧ ∃ y, w = lV y)), ls'[j]? = some (.val (cx_v X w)) := by
    intro P hji hn
    refine h.2.2 (j, cx_v X w) (List.mem_cons_of_mem _ (List.mem_filter.mpr ⟨lvl_mem.mpr ⟨w, P, rfl⟩, ?_⟩))
    simp only [Bool.and_eq_true, Bool.not_eq_true', beq_eq_false_iff_ne, ne_eq, Bool.and_eq_false_iff]
    refine ⟨hji, hne, ?_⟩
    by_cases a : j + 1 = i
    · exact Or.inr (fun c => hn ⟨a, cx_cat2 c⟩)
    · exact Or.inl a
  have self : ∀ w', some w' = some v → ls'[i]? = some (.val (cx_v X w')) := fun w' e => by
    cases e
    exact h.2.2 (i, cx_v X v) List.mem_cons_self
  cases i with
  | zero =>
    simp only [stL] at hj
    by_cases a : j = 0
    · subst a
      rw [List.getElem?_set] at hj
      simp at hj
      exact self w (by rw [hj.2])
    · rw [List.getElem?_set_ne (fun e => a e.symm)] at hj
      exact key hj a (by omega)
  | succ n =>
    simp only [stL] at hj
    split at hj
    · next y hy =>
      by_cases a : j = n + 1
      · subst a
        rw [List.getElem?_set] at hj
        simp at hj
        exact self w (by rw [hj.2])
      · rw [List.getElem?_set_ne (fun e => a e.symm)] at hj
        by_cases b : j = n
        · subst b
          rw [List.getElem?_set] at hj
          simp at hj
        · rw [List.getElem?_set_ne (fun e => b e.symm)] at hj
          exact key hj a (by omega)
    · next hy =>
      by_cases a : j = n + 1
      · subst a
        rw [List.getElem?_set] at hj
        simp at hj
        exact self w (by rw [hj.2])
      · rw [List.getElem?_set_ne (fun e => a e.symm)] at hj
        refine key hj a ?_
        rintro ⟨e, y, rfl⟩
        have : j = n := by omega
        subst this
        exact hy _ hj
theorem ev_lstore_n {j : Fin 4} {x : Int64} (L' : List (Option LV)) (hd : decode M.2.1 pc = .ok (.lstore_n j, 1)) (hn : (j : Nat) + 1 < M.2.2.1) (hL : stL2 L (j : Nat) (lV x) = L') (k : Ev X M d (pc + 1) L' S G Q) : Ev X M d pc L (lV x :: S) G Q := by
  subst hL
  exact k.ps (fun _ _ _ _ _ _ _ _ _ C _ _ _ _ ls _ hS hl kk => lv_lstore_n C.1 C.2.1 hd rfl hl.has hn rfl (fun ls' h => kk ls' (stL2_ok h)))
theorem ev_lstore {j : Nat} {x : Int64} (L' : List (Option LV)) (hd : decode M.2.1 pc = .ok (.lstore j, 2)) (hn : j + 1 < M.2.2.1) (hL : stL2 L j (lV x) = L') (k : Ev X M d (pc + 2) L' S G Q) : Ev X M d pc L (lV x :: S) G Q := by
  subst hL
  exact k.ps (fun _ _ _ _ _ _ _ _ _ C _ _ _ _ ls _ hS hl kk => lv_lstore C.1 C.2.1 hd hl.has hn rfl (fun ls' h => kk ls' (stL2_ok h)))
theorem ev_iinc {j : Nat} {n : Int} {x : Int32} (v : Int32) (L' : List (Option LV)) (hd : decode M.2.1 pc = .ok (.iinc j n, 3)) (hx : L[j]? = some (some (iV x))) (hv : x + Int32.ofInt n = v) (hn : j < M.2.2.1) (hL : stL L j (iV v) = L') (k : Ev X M d (pc + 3) L' S G Q) : Ev X M d pc L S G Q := by
  subst hL
  have hm : (j, Value.int x) ∈ lvl X L := lvl_mem.mpr ⟨iV x, hx, rfl⟩
  obtain ⟨q, hq⟩ := List.getElem?_of_mem hm
  exact k.ps (fun _ _ _ _ _ _ _ _ _ C _ _ _ _ ls _ hS hl kk => lv_iinc C.1 C.2.1 hd hl.has hq hv hn rfl (fun ls' h => kk ls' (stL_ok (v := iV v) h)))
end PURE2
end
section
theorem t1_in {w : Cond} (h : w ∈ tables_1_1) : w ∈ lw_tbl := List.mem_append_right _ (show w ∈ tables_1_1 ++ (tables_1_2 ++ (tables_1_3 ++ (tables_1_4 ++ tables_1_5))) from List.mem_append_left _ h)
theorem t2_in {w : Cond} (h : w ∈ tables_1_2) : w ∈ lw_tbl := List.mem_append_right _ (show w ∈ tables_1_1 ++ (tables_1_2 ++ (tables_1_3 ++ (tables_1_4 ++ tables_1_5))) from List.mem_append_right _ (List.mem_append_left _ h))
theorem t3_in {w : Cond} (h : w ∈ tables_1_3) : w ∈ lw_tbl := List.mem_append_right _ (show w ∈ tables_1_1 ++ (tables_1_2 ++ (tables_1_3 ++ (tables_1_4 ++ tables_1_5))) from List.mem_append_right _ (List.mem_append_right _ (List.mem_append_left _ h)))
theorem t4_in {w : Cond} (h : w ∈ tables_1_4) : w ∈ lw_tbl := List.mem_append_right _ (show w ∈ tables_1_1 ++ (tables_1_2 ++ (tables_1_3 ++ (tables_1_4 ++ tables_1_5))) from List.mem_append_right _ (List.mem_append_right _ (List.mem_append_right _ (List.mem_append_left _ h))))
theorem t5_in {w : Cond} (h : w ∈ tables_1_5) : w ∈ lw_tbl := List.mem_append_right _ (show w ∈ tables_1_1 ++ (tables_1_2 ++ (tables_1_3 ++ (tables_1_4 ++ tables_1_5))) from List.mem_append_right _ (List.mem_append_right _ (List.mem_append_right _ (List.mem_append_right _ (h)))))
theorem gin_0 : GoodIn lw_tbl (u_ws (gRn 0) (gTn 0) (gnf 0)) := goodIn_r _ [538, 540, 542, 544, 546, 548, 550] (by decide +kernel) (by decide +kernel)
theorem gin_1 : GoodIn lw_tbl (u_ws (gRn 1) (gTn 1) (gnf 1)) := goodIn_r _ [251, 253, 255, 257, 259] (by decide +kernel) (by decide +kernel)
theorem gin_2 : GoodIn lw_tbl (u_ws (gRn 2) (gTn 2) (gnf 2)) := goodIn_r _ [408, 410, 412, 414] (by decide +kernel) (by decide +kernel)
theorem gin_3 : GoodIn lw_tbl (u_ws (gRn 3) (gTn 3) (gnf 3)) := goodIn_r _ [370, 372, 374] (by decide +kernel) (by decide +kernel)
theorem gin_4 : GoodIn lw_tbl (u_ws (gRn 4) (gTn 4) (gnf 4)) := goodIn_r _ [734, 736, 738, 740] (by decide +kernel) (by decide +kernel)
theorem gin_5 : GoodIn lw_tbl (u_ws (gRn 5) (gTn 5) (gnf 5)) := goodIn_r _ [588, 590, 592, 594, 596, 598] (by decide +kernel) (by decide +kernel)
theorem gin_6 : GoodIn lw_tbl (u_ws (gRn 6) (gTn 6) (gnf 6)) := goodIn_r _ [158, 160, 162, 164, 166] (by decide +kernel) (by decide +kernel)
theorem gin_7 : GoodIn lw_tbl (u_ws (gRn 7) (gTn 7) (gnf 7)) := goodIn_r _ [299, 301, 303, 305, 307] (by decide +kernel) (by decide +kernel)
theorem gin_8 : GoodIn lw_tbl (u_ws (gRn 8) (gTn 8) (gnf 8)) := goodIn_r _ [182, 184, 186, 188, 190, 192, 194, 196, 198, 200, 202, 204, 206] (by decide +kernel) (by decide +kernel)
theorem gin_9 : GoodIn lw_tbl (u_ws (gRn 9) (gTn 9) (gnf 9)) := goodIn_r _ [858, 860, 862, 864, 866, 868, 870, 872, 874, 876, 878, 880, 882, 884, 886, 888, 890, 892, 894, 896, 898, 900, 902, 904, 906, 908, 910, 912, 914, 916, 918, 920, 922, 924, 926, 928, 930, 932] (by decide +kernel) (by decide +kernel)
theorem gin_10 : GoodIn lw_tbl (u_ws (gRn 10) (gTn 10) (gnf 10)) := goodIn_r _ [148, 144, 146] (by decide +kernel) (by decide +kernel)
theorem gin_of {ws : List Cond} (h : GoodIn lw_tbl ws) : ∀ w ∈ ws, w ∈ lw_tbl := fun w hw => (h w hw).1
theorem lw_g_in {w : Cond} (h : w ∈ lw_tbl) (hg : goodWord w = true) : w ∈ lw_g := List.mem_filter.mpr ⟨h, hg⟩
theorem lw_n_in {w : Cond} (h : w ∈ lw_tbl) (hg : isNest w = true) : w ∈ lw_n := List.mem_filter.mpr ⟨h, hg⟩
theorem u_ws_good {C : String} {T : u_T} {N : Nat} : ∀ w ∈ u_ws C T N, goodWord w = true := by
  intro w h
  obtain ⟨k, -, rfl⟩ := List.mem_map.mp h
  unfold u_lay
  split <;> rfl
theorem gin : ∀ c, c < 11 → ∀ w ∈ u_ws (gRn c) (gTn c) (gnf c), w ∈ lw_g
  | 0, _, w, h => lw_g_in (gin_of gin_0 w h) (u_ws_good w h)
  | 1, _, w, h => lw_g_in (gin_of gin_1 w h) (u_ws_good w h)
  | 2, _, w, h => lw_g_in (gin_of gin_2 w h) (u_ws_good w h)
  | 3, _, w, h => lw_g_in (gin_of gin_3 w h) (u_ws_good w h)
  | 4, _, w, h => lw_g_in (gin_of gin_4 w h) (u_ws_good w h)
  | 5, _, w, h => lw_g_in (gin_of gin_5 w h) (u_ws_good w h)
  | 6, _, w, h => lw_g_in (gin_of gin_6 w h) (u_ws_good w h)
  | 7, _, w, h => lw_g_in (gin_of gin_7 w h) (u_ws_good w h)
  | 8, _, w, h => lw_g_in (gin_of gin_8 w h) (u_ws_good w h)
  | 9, _, w, h => lw_g_in (gin_of gin_9 w h) (u_ws_good w h)
  | 10, _, w, h => lw_g_in (gin_of gin_10 w h) (u_ws_good w h)
  | n + 11, h, _, _ => absurd h (by omega)
theorem fJx4a65c_9 : FLr RJx4a65c 9 641 := ⟨⟨by decide, by decide, Or.inl (lw_g_in (t1_in (List.mem_of_getElem? (i := 54) (by decide +kernel))) rfl)⟩, Or.inr ⟨_, rfl⟩⟩
theorem mfJx4a65c_9 : FLm RJx4a65c 9 641 := lw_g_in (t1_in (List.mem_of_getElem? (i := 54) (by decide +kernel))) rfl
theorem fJx4a65c_48 : FLi RJx4a65c 48 642 := ⟨⟨by decide, by decide, Or.inl (lw_g_in (t1_in (List.mem_of_getElem? (i := 55) (by decide +kernel))) rfl)⟩, Or.inl rfl⟩
theorem mfJx4a65c_48 : FLm RJx4a65c 48 642 := lw_g_in (t1_in (List.mem_of_getElem? (i := 55) (by decide +kernel))) rfl
theorem fJxc12de_7 : FLi RJxc12de 7 640 := ⟨⟨by decide, by decide, Or.inl (lw_g_in (t1_in (List.mem_of_getElem? (i := 56) (by decide +kernel))) rfl)⟩, Or.inl rfl⟩
theorem mfJxc12de_7 : FLm RJxc12de 7 640 := lw_g_in (t1_in (List.mem_of_getElem? (i := 56) (by decide +kernel))) rfl
theorem fX6_11 : FLr RX6 11 384 := ⟨⟨by decide, by decide, Or.inl (lw_g_in (t1_in (List.mem_of_getElem? (i := 66) (by decide +kernel))) rfl)⟩, Or.inr ⟨_, rfl⟩⟩
theorem mfX6_11 : FLm RX6 11 384 := lw_g_in (t1_in (List.mem_of_getElem? (i := 66) (by decide +kernel))) rfl
theorem fX6_24 : FLi RX6 24 385 := ⟨⟨by decide, by decide, Or.inl (lw_g_in (t1_in (List.mem_of_getElem? (i := 67) (by decide +kernel))) rfl)⟩, Or.inl rfl⟩
theorem mfX6_24 : FLm RX6 24 385 := lw_g_in (t1_in (List.mem_of_getElem? (i := 67) (by decide +kernel))) rfl
theorem fX8_199 : FLi RX8 199 385 := ⟨⟨by decide, by decide, Or.inr ⟨"VersionedRows", lw_n_in (t1_in (List.mem_of_getElem? (i := 68) (by decide +kernel))) rfl⟩⟩, Or.inl rfl⟩
theorem fX6_43 : FLi RX6 43 386 := ⟨⟨by decide, by decide, Or.inl (lw_g_in (t1_in (List.mem_of_getElem? (i := 69) (by decide +kernel))) rfl)⟩, Or.inl rfl⟩
theorem mfX6_43 : FLm RX6 43 386 := lw_g_in (t1_in (List.mem_of_getElem? (i := 69) (by decide +kernel))) rfl
theorem fX8_156 : FLi RX8 156 386 := ⟨⟨by decide, by decide, Or.inr ⟨"VersionedRows", lw_n_in (t1_in (List.mem_of_getElem? (i := 70) (by decide +kernel))) rfl⟩⟩, Or.inl rfl⟩
theorem fX6_20 : FLr RX6 20 387 := ⟨⟨by decide, by decide, Or.inl (lw_g_in (t1_in (List.mem_of_getElem? (i := 71) (by decide +kernel))) rfl)⟩, Or.inl ⟨_, rfl⟩⟩
theorem mfX6_20 : FLm RX6 20 387 := lw_g_in (t1_in (List.mem_of_getElem? (i := 71) (by decide +kernel))) rfl
theorem fX6_83 : FLi RX6 83 388 := ⟨⟨by decide, by decide, Or.inl (lw_g_in (t1_in (List.mem_of_getElem? (i := 72) (by decide +kernel))) rfl)⟩, Or.inl rfl⟩
theorem mfX6_83 : FLm RX6 83 388 := lw_g_in (t1_in (List.mem_of_getElem? (i := 72) (by decide +kernel))) rfl
theorem fX8_11 : FLr RX8 11 512 := ⟨⟨by decide, by decide, Or.inl (lw_g_in (t1_in (List.mem_of_getElem? (i := 84) (by decide +kernel))) rfl)⟩, Or.inr ⟨_, rfl⟩⟩
theorem mfX8_11 : FLm RX8 11 512 := lw_g_in (t1_in (List.mem_of_getElem? (i := 84) (by decide +kernel))) rfl
theorem fX8_47 : FLi RX8 47 513 := ⟨⟨by decide, by decide, Or.inl (lw_g_in (t1_in (List.mem_of_getElem? (i := 85) (by decide +kernel))) rfl)⟩, Or.inl rfl⟩
theorem mfX8_47 : FLm RX8 47 513 := lw_g_in (t1_in (List.mem_of_getElem? (i := 85) (by decide +kernel))) rfl
theorem fX8_15 : FLr RX8 15 514 := ⟨⟨by decide, by decide, Or.inl (lw_g_in (t1_in (List.mem_of_getElem? (i := 86) (by decide +kernel))) rfl)⟩, Or.inr ⟨_, rfl⟩⟩
theorem mfX8_15 : FLm RX8 15 514 := lw_g_in (t1_in (List.mem_of_getElem? (i := 86) (by decide +kernel))) rfl
theorem fX8_72 : FLi RX8 72 515 := ⟨⟨by decide, by decide, Or.inl (lw_g_in (t1_in (List.mem_of_getElem? (i := 87) (by decide +kernel))) rfl)⟩, Or.inl rfl⟩
theorem mfX8_72 : FLm RX8 72 515 := lw_g_in (t1_in (List.mem_of_getElem? (i := 87) (by decide +kernel))) rfl
theorem fX8_20 : FLr RX8 20 516 := ⟨⟨by decide, by decide, Or.inl (lw_g_in (t1_in (List.mem_of_getElem? (i := 88) (by decide +kernel))) rfl)⟩, Or.inr ⟨_, rfl⟩⟩
theorem mfX8_20 : FLm RX8 20 516 := lw_g_in (t1_in (List.mem_of_getElem? (i := 88) (by decide +kernel))) rfl
theorem fX8_78 : FLi RX8 78 517 := ⟨⟨by decide, by decide, Or.inl (lw_g_in (t1_in (List.mem_of_getElem? (i := 89) (by decide +kernel))) rfl)⟩, Or.inl rfl⟩
theorem mfX8_78 : FLm RX8 78 517 := lw_g_in (t1_in (List.mem_of_getElem? (i := 89) (by decide +kernel))) rfl
theorem fX8_27 : FLr RX8 27 518 := ⟨⟨by decide, by decide, Or.inl (lw_g_in (t1_in (List.mem_of_getElem? (i := 90) (by decide +kernel))) rfl)⟩, Or.inl ⟨_, rfl⟩⟩
theorem mfX8_27 : FLm RX8 27 518 := lw_g_in (t1_in (List.mem_of_getElem? (i := 90) (by decide +kernel))) rfl
theorem fX8_75 : FLi RX8 75 519 := ⟨⟨by decide, by decide, Or.inl (lw_g_in (t1_in (List.mem_of_getElem? (i := 91) (by decide +kernel))) rfl)⟩, Or.inl rfl⟩
theorem mfX8_75 : FLm RX8 75 519 := lw_g_in (t1_in (List.mem_of_getElem? (i := 91) (by decide +kernel))) rfl
theorem fX8_31 : FLr RX8 31 520 := ⟨⟨by decide, by decide, Or.inl (lw_g_in (t1_in (List.mem_of_getElem? (i := 92) (by decide +kernel))) rfl)⟩, Or.inr ⟨_, rfl⟩⟩
theorem mfX8_31 : FLm RX8 31 520 := lw_g_in (t1_in (List.mem_of_getElem? (i := 92) (by decide +kernel))) rfl
theorem fX8_131 : FLi RX8 131 521 := ⟨⟨by decide, by decide, Or.inl (lw_g_in (t1_in (List.mem_of_getElem? (i := 93) (by decide +kernel))) rfl)⟩, Or.inl rfl⟩
theorem mfX8_131 : FLm RX8 131 521 := lw_g_in (t1_in (List.mem_of_getElem? (i := 93) (by decide +kernel))) rfl
theorem fX8_35 : FLi RX8 35 522 := ⟨⟨by decide, by decide, Or.inl (lw_g_in (t1_in (List.mem_of_getElem? (i := 94) (by decide +kernel))) rfl)⟩, Or.inl rfl⟩
theorem mfX8_35 : FLm RX8 35 522 := lw_g_in (t1_in (List.mem_of_getElem? (i := 94) (by decide +kernel))) rfl
theorem fX8_181 : FLr RX8 181 523 := ⟨⟨by decide, by decide, Or.inl (lw_g_in (t1_in (List.mem_of_getElem? (i := 95) (by decide +kernel))) rfl)⟩, Or.inl ⟨_, rfl⟩⟩
theorem mfX8_181 : FLm RX8 181 523 := lw_g_in (t1_in (List.mem_of_getElem? (i := 95) (by decide +kernel))) rfl
theorem fX8_178 : FLi RX8 178 524 := ⟨⟨by decide, by decide, Or.inl (lw_g_in (t1_in (List.mem_of_getElem? (i := 96) (by decide +kernel))) rfl)⟩, Or.inl rfl⟩
theorem mfX8_178 : FLm RX8 178 524 := lw_g_in (t1_in (List.mem_of_getElem? (i := 96) (by decide +kernel))) rfl
theorem fX1_9 : FLi RX1 9 64 := ⟨⟨by decide, by decide, Or.inl (lw_g_in (t1_in (List.mem_of_getElem? (i := 157) (by decide +kernel))) rfl)⟩, Or.inl rfl⟩
theorem mfX1_9 : FLm RX1 9 64 := lw_g_in (t1_in (List.mem_of_getElem? (i := 157) (by decide +kernel))) rfl
theorem fX2_28 : FLi RX2 28 64 := ⟨⟨by decide, by decide, Or.inr ⟨"VersionedRows", lw_n_in (t1_in (List.mem_of_getElem? (i := 158) (by decide +kernel))) rfl⟩⟩, Or.inl rfl⟩
theorem fX1_15 : FLi RX1 15 65 := ⟨⟨by decide, by decide, Or.inl (lw_g_in (t1_in (List.mem_of_getElem? (i := 159) (by decide +kernel))) rfl)⟩, Or.inl rfl⟩
theorem mfX1_15 : FLm RX1 15 65 := lw_g_in (t1_in (List.mem_of_getElem? (i := 159) (by decide +kernel))) rfl
theorem fX2_56 : FLi RX2 56 65 := ⟨⟨by decide, by decide, Or.inr ⟨"VersionedRows", lw_n_in (t1_in (List.mem_of_getElem? (i := 160) (by decide +kernel))) rfl⟩⟩, Or.inl rfl⟩
theorem fX1_18 : FLr RX1 18 66 := ⟨⟨by decide, by decide, Or.inl (lw_g_in (t1_in (List.mem_of_getElem? (i := 161) (by decide +kernel))) rfl)⟩, Or.inl ⟨_, rfl⟩⟩
theorem mfX1_18 : FLm RX1 18 66 := lw_g_in (t1_in (List.mem_of_getElem? (i := 161) (by decide +kernel))) rfl
theorem fX2_34 : FLr RX2 34 66 := ⟨⟨by decide, by decide, Or.inr ⟨"VersionedRows", lw_n_in (t1_in (List.mem_of_getElem? (i := 162) (by decide +kernel))) rfl⟩⟩, Or.inl ⟨_, rfl⟩⟩
theorem fX1_22 : FLr RX1 22 67 := ⟨⟨by decide, by decide, Or.inl (lw_g_in (t1_in (List.mem_of_getElem? (i := 163) (by decide +kernel))) rfl)⟩, Or.inl ⟨_, rfl⟩⟩
theorem mfX1_22 : FLm RX1 22 67 := lw_g_in (t1_in (List.mem_of_getElem? (i := 163) (by decide +kernel))) rfl
theorem fX2_41 : FLr RX2 41 67 := ⟨⟨by decide, by decide, Or.inr ⟨"VersionedRows", lw_n_in (t1_in (List.mem_of_getElem? (i := 164) (by decide +kernel))) rfl⟩⟩, Or.inl ⟨_, rfl⟩⟩
theorem fX1_29 : FLi RX1 29 68 := ⟨⟨by decide, by decide, Or.inl (lw_g_in (t1_in (List.mem_of_getElem? (i := 165) (by decide +kernel))) rfl)⟩, Or.inl rfl⟩
theorem mfX1_29 : FLm RX1 29 68 := lw_g_in (t1_in (List.mem_of_getElem? (i := 165) (by decide +kernel))) rfl
theorem fX7_25 : FLi RX7 25 448 := ⟨⟨by decide, by decide, Or.inl (lw_g_in (t1_in (List.mem_of_getElem? (i := 204) (by decide +kernel))) rfl)⟩, Or.inl rfl⟩
theorem mfX7_25 : FLm RX7 25 448 := lw_g_in (t1_in (List.mem_of_getElem? (i := 204) (by decide +kernel))) rfl
theorem fX8_121 : FLi RX8 121 448 := ⟨⟨by decide, by decide, Or.inr ⟨"VersionedRows", lw_n_in (t1_in (List.mem_of_getElem? (i := 205) (by decide +kernel))) rfl⟩⟩, Or.inl rfl⟩
theorem fX7_9 : FLi RX7 9 449 := ⟨⟨by decide, by decide, Or.inl (lw_g_in (t1_in (List.mem_of_getElem? (i := 206) (by decide +kernel))) rfl)⟩, Or.inl rfl⟩
theorem mfX7_9 : FLm RX7 9 449 := lw_g_in (t1_in (List.mem_of_getElem? (i := 206) (by decide +kernel))) rfl
theorem fX8_138 : FLi RX8 138 449 := ⟨⟨by decide, by decide, Or.inr ⟨"VersionedRows", lw_n_in (t1_in (List.mem_of_getElem? (i := 207) (by decide +kernel))) rfl⟩⟩, Or.inl rfl⟩
theorem fX7_28 : FLi RX7 28 450 := ⟨⟨by decide, by decide, Or.inl (lw_g_in (t1_in (List.mem_of_getElem? (i := 208) (by decide +kernel))) rfl)⟩, Or.inr rfl⟩
theorem mfX7_28 : FLm RX7 28 450 := lw_g_in (t1_in (List.mem_of_getElem? (i := 208) (by decide +kernel))) rfl
theorem fX8_141 : FLi RX8 141 450 := ⟨⟨by decide, by decide, Or.inr ⟨"VersionedRows", lw_n_in (t1_in (List.mem_of_getElem? (i := 209) (by decide +kernel))) rfl⟩⟩, Or.inr rfl⟩
theorem fX7_15 : FLr RX7 15 451 := ⟨⟨by decide, by decide, Or.inl (lw_g_in (t1_in (List.mem_of_getElem? (i := 210) (by decide +kernel))) rfl)⟩, Or.inr ⟨_, rfl⟩⟩
theorem mfX7_15 : FLm RX7 15 451 := lw_g_in (t1_in (List.mem_of_getElem? (i := 210) (by decide +kernel))) rfl
theorem fX8_225 : FLr RX8 225 451 := ⟨⟨by decide, by decide, Or.inr ⟨"VersionedRows", lw_n_in (t1_in (List.mem_of_getElem? (i := 211) (by decide +kernel))) rfl⟩⟩, Or.inr ⟨_, rfl⟩⟩
theorem fX7_21 : FLr RX7 21 452 := ⟨⟨by decide, by decide, Or.inl (lw_g_in (t1_in (List.mem_of_getElem? (i := 212) (by decide +kernel))) rfl)⟩, Or.inr ⟨_, rfl⟩⟩
theorem mfX7_21 : FLm RX7 21 452 := lw_g_in (t1_in (List.mem_of_getElem? (i := 212) (by decide +kernel))) rfl
theorem fX8_229 : FLr RX8 229 452 := ⟨⟨by decide, by decide, Or.inr ⟨"VersionedRows", lw_n_in (t1_in (List.mem_of_getElem? (i := 213) (by decide +kernel))) rfl⟩⟩, Or.inr ⟨_, rfl⟩⟩
theorem fX3_9 : FLi RX3 9 192 := ⟨⟨by decide, by decide, Or.inl (lw_g_in (t2_in (List.mem_of_getElem? (i := 36) (by decide +kernel))) rfl)⟩, Or.inl rfl⟩
theorem mfX3_9 : FLm RX3 9 192 := lw_g_in (t2_in (List.mem_of_getElem? (i := 36) (by decide +kernel))) rfl
theorem fX8_99 : FLi RX8 99 192 := ⟨⟨by decide, by decide, Or.inr ⟨"VersionedRows", lw_n_in (t2_in (List.mem_of_getElem? (i := 37) (by decide +kernel))) rfl⟩⟩, Or.inl rfl⟩
theorem fX1_36 : FLi RX1 36 192 := ⟨⟨by decide, by decide, Or.inr ⟨"VersionedRows", lw_n_in (t2_in (List.mem_of_getElem? (i := 38) (by decide +kernel))) rfl⟩⟩, Or.inl rfl⟩
theorem fX3_15 : FLi RX3 15 193 := ⟨⟨by decide, by decide, Or.inl (lw_g_in (t2_in (List.mem_of_getElem? (i := 39) (by decide +kernel))) rfl)⟩, Or.inl rfl⟩
theorem mfX3_15 : FLm RX3 15 193 := lw_g_in (t2_in (List.mem_of_getElem? (i := 39) (by decide +kernel))) rfl
theorem fX8_104 : FLi RX8 104 193 := ⟨⟨by decide, by decide, Or.inr ⟨"VersionedRows", lw_n_in (t2_in (List.mem_of_getElem? (i := 40) (by decide +kernel))) rfl⟩⟩, Or.inl rfl⟩
theorem fX1_41 : FLi RX1 41 193 := ⟨⟨by decide, by decide, Or.inr ⟨"VersionedRows", lw_n_in (t2_in (List.mem_of_getElem? (i := 41) (by decide +kernel))) rfl⟩⟩, Or.inl rfl⟩
theorem fX3_18 : FLi RX3 18 194 := ⟨⟨by decide, by decide, Or.inl (lw_g_in (t2_in (List.mem_of_getElem? (i := 42) (by decide +kernel))) rfl)⟩, Or.inl rfl⟩
theorem mfX3_18 : FLm RX3 18 194 := lw_g_in (t2_in (List.mem_of_getElem? (i := 42) (by decide +kernel))) rfl
theorem fX8_107 : FLi RX8 107 194 := ⟨⟨by decide, by decide, Or.inr ⟨"VersionedRows", lw_n_in (t2_in (List.mem_of_getElem? (i := 43) (by decide +kernel))) rfl⟩⟩, Or.inl rfl⟩
theorem fX1_44 : FLi RX1 44 194 := ⟨⟨by decide, by decide, Or.inr ⟨"VersionedRows", lw_n_in (t2_in (List.mem_of_getElem? (i := 44) (by decide +kernel))) rfl⟩⟩, Or.inl rfl⟩
theorem fX2_24 : FLr RX2 24 128 := ⟨⟨by decide, by decide, Or.inl (lw_g_in (t2_in (List.mem_of_getElem? (i := 76) (by decide +kernel))) rfl)⟩, Or.inl ⟨_, rfl⟩⟩
theorem mfX2_24 : FLm RX2 24 128 := lw_g_in (t2_in (List.mem_of_getElem? (i := 76) (by decide +kernel))) rfl
theorem fX2_13 : FLj RX2 13 129 := ⟨⟨by decide, by decide, Or.inl (lw_g_in (t2_in (List.mem_of_getElem? (i := 77) (by decide +kernel))) rfl)⟩, rfl⟩
theorem mfX2_13 : FLm RX2 13 129 := lw_g_in (t2_in (List.mem_of_getElem? (i := 77) (by decide +kernel))) rfl
theorem fX8_185 : FLj RX8 185 129 := ⟨⟨by decide, by decide, Or.inr ⟨"VersionedRows", lw_n_in (t2_in (List.mem_of_getElem? (i := 78) (by decide +kernel))) rfl⟩⟩, rfl⟩
theorem fX2_21 : FLj RX2 21 130 := ⟨⟨by decide, by decide, Or.inl (lw_g_in (t2_in (List.mem_of_getElem? (i := 79) (by decide +kernel))) rfl)⟩, rfl⟩
theorem mfX2_21 : FLm RX2 21 130 := lw_g_in (t2_in (List.mem_of_getElem? (i := 79) (by decide +kernel))) rfl
theorem fX8_191 : FLj RX8 191 130 := ⟨⟨by decide, by decide, Or.inr ⟨"VersionedRows", lw_n_in (t2_in (List.mem_of_getElem? (i := 80) (by decide +kernel))) rfl⟩⟩, rfl⟩
theorem fX2_72 : FLi RX2 72 131 := ⟨⟨by decide, by decide, Or.inl (lw_g_in (t2_in (List.mem_of_getElem? (i := 81) (by decide +kernel))) rfl)⟩, Or.inr rfl⟩
theorem mfX2_72 : FLm RX2 72 131 := lw_g_in (t2_in (List.mem_of_getElem? (i := 81) (by decide +kernel))) rfl
theorem fX8_278 : FLi RX8 278 131 := ⟨⟨by decide, by decide, Or.inr ⟨"VersionedRows", lw_n_in (t2_in (List.mem_of_getElem? (i := 82) (by decide +kernel))) rfl⟩⟩, Or.inr rfl⟩
theorem fX0_7 : FLi RX0 7 0 := ⟨⟨by decide, by decide, Or.inl (lw_g_in (t2_in (List.mem_of_getElem? (i := 194) (by decide +kernel))) rfl)⟩, Or.inl rfl⟩
theorem mfX0_7 : FLm RX0 7 0 := lw_g_in (t2_in (List.mem_of_getElem? (i := 194) (by decide +kernel))) rfl
theorem fX5_38 : FLi RX5 38 0 := ⟨⟨by decide, by decide, Or.inr ⟨"VersionedRows", lw_n_in (t2_in (List.mem_of_getElem? (i := 195) (by decide +kernel))) rfl⟩⟩, Or.inl rfl⟩
theorem fX0_13 : FLi RX0 13 1 := ⟨⟨by decide, by decide, Or.inl (lw_g_in (t2_in (List.mem_of_getElem? (i := 196) (by decide +kernel))) rfl)⟩, Or.inl rfl⟩
theorem mfX0_13 : FLm RX0 13 1 := lw_g_in (t2_in (List.mem_of_getElem? (i := 196) (by decide +kernel))) rfl
theorem fX5_41 : FLi RX5 41 1 := ⟨⟨by decide, by decide, Or.inr ⟨"VersionedRows", lw_n_in (t2_in (List.mem_of_getElem? (i := 197) (by decide +kernel))) rfl⟩⟩, Or.inl rfl⟩
theorem fX0_16 : FLi RX0 16 2 := ⟨⟨by decide, by decide, Or.inl (lw_g_in (t2_in (List.mem_of_getElem? (i := 198) (by decide +kernel))) rfl)⟩, Or.inl rfl⟩
theorem mfX0_16 : FLm RX0 16 2 := lw_g_in (t2_in (List.mem_of_getElem? (i := 198) (by decide +kernel))) rfl
theorem fX5_44 : FLi RX5 44 2 := ⟨⟨by decide, by decide, Or.inr ⟨"VersionedRows", lw_n_in (t2_in (List.mem_of_getElem? (i := 199) (by decide +kernel))) rfl⟩⟩, Or.inl rfl⟩
theorem fX0_23 : FLj RX0 23 3 := ⟨⟨by decide, by decide, Or.inl (lw_g_in (t2_in (List.mem_of_getElem? (i := 200) (by decide +kernel))) rfl)⟩, rfl⟩
theorem mfX0_23 : FLm RX0 23 3 := lw_g_in (t2_in (List.mem_of_getElem? (i := 200) (by decide +kernel))) rfl
theorem fX4_21 : FLj RX4 21 3 := ⟨⟨by decide, by decide, Or.inr ⟨"VersionedRows", lw_n_in (t2_in (List.mem_of_getElem? (i := 201) (by decide +kernel))) rfl⟩⟩, rfl⟩
theorem fX6_32 : FLj RX6 32 3 := ⟨⟨by decide, by decide, Or.inr ⟨"VersionedRows", lw_n_in (t2_in (List.mem_of_getElem? (i := 202) (by decide +kernel))) rfl⟩⟩, rfl⟩
theorem fX5_34 : FLj RX5 34 3 := ⟨⟨by decide, by decide, Or.inr ⟨"VersionedRows", lw_n_in (t2_in (List.mem_of_getElem? (i := 203) (by decide +kernel))) rfl⟩⟩, rfl⟩
theorem fX0_27 : FLi RX0 27 4 := ⟨⟨by decide, by decide, Or.inl (lw_g_in (t2_in (List.mem_of_getElem? (i := 204) (by decide +kernel))) rfl)⟩, Or.inl rfl⟩
theorem mfX0_27 : FLm RX0 27 4 := lw_g_in (t2_in (List.mem_of_getElem? (i := 204) (by decide +kernel))) rfl
theorem fX4_30 : FLi RX4 30 4 := ⟨⟨by decide, by decide, Or.inr ⟨"VersionedRows", lw_n_in (t2_in (List.mem_of_getElem? (i := 205) (by decide +kernel))) rfl⟩⟩, Or.inl rfl⟩
theorem fX6_36 : FLi RX6 36 4 := ⟨⟨by decide, by decide, Or.inr ⟨"VersionedRows", lw_n_in (t2_in (List.mem_of_getElem? (i := 206) (by decide +kernel))) rfl⟩⟩, Or.inl rfl⟩
theorem fX0_30 : FLr RX0 30 5 := ⟨⟨by decide, by decide, Or.inl (lw_g_in (t2_in (List.mem_of_getElem? (i := 207) (by decide +kernel))) rfl)⟩, Or.inl ⟨_, rfl⟩⟩
theorem mfX0_30 : FLm RX0 30 5 := lw_g_in (t2_in (List.mem_of_getElem? (i := 207) (by decide +kernel))) rfl
theorem fX4_33 : FLr RX4 33 5 := ⟨⟨by decide, by decide, Or.inr ⟨"VersionedRows", lw_n_in (t2_in (List.mem_of_getElem? (i := 208) (by decide +kernel))) rfl⟩⟩, Or.inl ⟨_, rfl⟩⟩
theorem fX6_58 : FLr RX6 58 5 := ⟨⟨by decide, by decide, Or.inr ⟨"VersionedRows", lw_n_in (t2_in (List.mem_of_getElem? (i := 209) (by decide +kernel))) rfl⟩⟩, Or.inl ⟨_, rfl⟩⟩
theorem fX5_25 : FLr RX5 25 6 := ⟨⟨by decide, by decide, Or.inr ⟨"VersionedRows", lw_n_in (t2_in (List.mem_of_getElem? (i := 210) (by decide +kernel))) rfl⟩⟩, Or.inl ⟨_, rfl⟩⟩
theorem fX0_38 : FLr RX0 38 6 := ⟨⟨by decide, by decide, Or.inl (lw_g_in (t2_in (List.mem_of_getElem? (i := 211) (by decide +kernel))) rfl)⟩, Or.inl ⟨_, rfl⟩⟩
theorem mfX0_38 : FLm RX0 38 6 := lw_g_in (t2_in (List.mem_of_getElem? (i := 211) (by decide +kernel))) rfl
theorem fX6_69 : FLr RX6 69 6 := ⟨⟨by decide, by decide, Or.inr ⟨"VersionedRows", lw_n_in (t2_in (List.mem_of_getElem? (i := 212) (by decide +kernel))) rfl⟩⟩, Or.inl ⟨_, rfl⟩⟩
theorem fX5_9 : FLi RX5 9 320 := ⟨⟨by decide, by decide, Or.inl (lw_g_in (t3_in (List.mem_of_getElem? (i := 15) (by decide +kernel))) rfl)⟩, Or.inl rfl⟩
theorem mfX5_9 : FLm RX5 9 320 := lw_g_in (t3_in (List.mem_of_getElem? (i := 15) (by decide +kernel))) rfl
theorem fX5_15 : FLi RX5 15 321 := ⟨⟨by decide, by decide, Or.inl (lw_g_in (t3_in (List.mem_of_getElem? (i := 16) (by decide +kernel))) rfl)⟩, Or.inl rfl⟩
theorem mfX5_15 : FLm RX5 15 321 := lw_g_in (t3_in (List.mem_of_getElem? (i := 16) (by decide +kernel))) rfl
theorem fX6_101 : FLi RX6 101 321 := ⟨⟨by decide, by decide, Or.inr ⟨"VersionedRows", lw_n_in (t3_in (List.mem_of_getElem? (i := 17) (by decide +kernel))) rfl⟩⟩, Or.inl rfl⟩
theorem fX5_18 : FLr RX5 18 322 := ⟨⟨by decide, by decide, Or.inl (lw_g_in (t3_in (List.mem_of_getElem? (i := 18) (by decide +kernel))) rfl)⟩, Or.inl ⟨_, rfl⟩⟩
theorem mfX5_18 : FLm RX5 18 322 := lw_g_in (t3_in (List.mem_of_getElem? (i := 18) (by decide +kernel))) rfl
theorem fX5_22 : FLr RX5 22 323 := ⟨⟨by decide, by decide, Or.inl (lw_g_in (t3_in (List.mem_of_getElem? (i := 19) (by decide +kernel))) rfl)⟩, Or.inl ⟨_, rfl⟩⟩
theorem mfX5_22 : FLm RX5 22 323 := lw_g_in (t3_in (List.mem_of_getElem? (i := 19) (by decide +kernel))) rfl
theorem fX5_31 : FLi RX5 31 324 := ⟨⟨by decide, by decide, Or.inl (lw_g_in (t3_in (List.mem_of_getElem? (i := 20) (by decide +kernel))) rfl)⟩, Or.inl rfl⟩
theorem mfX5_31 : FLm RX5 31 324 := lw_g_in (t3_in (List.mem_of_getElem? (i := 20) (by decide +kernel))) rfl
theorem fX0_42 : FLi RX0 42 325 := ⟨⟨by decide, by decide, Or.inr ⟨"VersionedRows", lw_n_in (t3_in (List.mem_of_getElem? (i := 21) (by decide +kernel))) rfl⟩⟩, Or.inr rfl⟩
theorem fX6_124 : FLi RX6 124 325 := ⟨⟨by decide, by decide, Or.inr ⟨"VersionedRows", lw_n_in (t3_in (List.mem_of_getElem? (i := 22) (by decide +kernel))) rfl⟩⟩, Or.inr rfl⟩
theorem fX4_7 : FLi RX4 7 256 := ⟨⟨by decide, by decide, Or.inl (lw_g_in (t3_in (List.mem_of_getElem? (i := 165) (by decide +kernel))) rfl)⟩, Or.inl rfl⟩
theorem mfX4_7 : FLm RX4 7 256 := lw_g_in (t3_in (List.mem_of_getElem? (i := 165) (by decide +kernel))) rfl
theorem fX4_13 : FLi RX4 13 257 := ⟨⟨by decide, by decide, Or.inl (lw_g_in (t3_in (List.mem_of_getElem? (i := 166) (by decide +kernel))) rfl)⟩, Or.inr rfl⟩
theorem mfX4_13 : FLm RX4 13 257 := lw_g_in (t3_in (List.mem_of_getElem? (i := 166) (by decide +kernel))) rfl
theorem fX4_17 : FLr RX4 17 258 := ⟨⟨by decide, by decide, Or.inl (lw_g_in (t3_in (List.mem_of_getElem? (i := 167) (by decide +kernel))) rfl)⟩, Or.inl ⟨_, rfl⟩⟩
theorem mfX4_17 : FLm RX4 17 258 := lw_g_in (t3_in (List.mem_of_getElem? (i := 167) (by decide +kernel))) rfl
theorem fX4_27 : FLi RX4 27 259 := ⟨⟨by decide, by decide, Or.inl (lw_g_in (t3_in (List.mem_of_getElem? (i := 168) (by decide +kernel))) rfl)⟩, Or.inr rfl⟩
theorem mfX4_27 : FLm RX4 27 259 := lw_g_in (t3_in (List.mem_of_getElem? (i := 168) (by decide +kernel))) rfl
theorem fX9_85 : FLi RX9 85 576 := ⟨⟨by decide, by decide, Or.inl (lw_g_in (t4_in (List.mem_of_getElem? (i := 15) (by decide +kernel))) rfl)⟩, Or.inl rfl⟩
theorem mfX9_85 : FLm RX9 85 576 := lw_g_in (t4_in (List.mem_of_getElem? (i := 15) (by decide +kernel))) rfl
theorem fX9_100 : FLi RX9 100 577 := ⟨⟨by decide, by decide, Or.inl (lw_g_in (t4_in (List.mem_of_getElem? (i := 16) (by decide +kernel))) rfl)⟩, Or.inl rfl⟩
theorem mfX9_100 : FLm RX9 100 577 := lw_g_in (t4_in (List.mem_of_getElem? (i := 16) (by decide +kernel))) rfl
theorem fX9_7 : FLr RX9 7 578 := ⟨⟨by decide, by decide, Or.inl (lw_g_in (t4_in (List.mem_of_getElem? (i := 17) (by decide +kernel))) rfl)⟩, Or.inr ⟨_, rfl⟩⟩
theorem mfX9_7 : FLm RX9 7 578 := lw_g_in (t4_in (List.mem_of_getElem? (i := 17) (by decide +kernel))) rfl
theorem fX9_13 : FLr RX9 13 579 := ⟨⟨by decide, by decide, Or.inl (lw_g_in (t4_in (List.mem_of_getElem? (i := 18) (by decide +kernel))) rfl)⟩, Or.inr ⟨_, rfl⟩⟩
theorem mfX9_13 : FLm RX9 13 579 := lw_g_in (t4_in (List.mem_of_getElem? (i := 18) (by decide +kernel))) rfl
theorem fX9_16 : FLr RX9 16 580 := ⟨⟨by decide, by decide, Or.inl (lw_g_in (t4_in (List.mem_of_getElem? (i := 19) (by decide +kernel))) rfl)⟩, Or.inr ⟨_, rfl⟩⟩
theorem mfX9_16 : FLm RX9 16 580 := lw_g_in (t4_in (List.mem_of_getElem? (i := 19) (by decide +kernel))) rfl
theorem fX9_19 : FLr RX9 19 581 := ⟨⟨by decide, by decide, Or.inl (lw_g_in (t4_in (List.mem_of_getElem? (i := 20) (by decide +kernel))) rfl)⟩, Or.inr ⟨_, rfl⟩⟩
theorem mfX9_19 : FLm RX9 19 581 := lw_g_in (t4_in (List.mem_of_getElem? (i := 20) (by decide +kernel))) rfl
theorem fX9_106 : FLi RX9 106 582 := ⟨⟨by decide, by decide, Or.inl (lw_g_in (t4_in (List.mem_of_getElem? (i := 21) (by decide +kernel))) rfl)⟩, Or.inl rfl⟩
theorem mfX9_106 : FLm RX9 106 582 := lw_g_in (t4_in (List.mem_of_getElem? (i := 21) (by decide +kernel))) rfl
theorem fX9_23 : FLr RX9 23 583 := ⟨⟨by decide, by decide, Or.inl (lw_g_in (t4_in (List.mem_of_getElem? (i := 22) (by decide +kernel))) rfl)⟩, Or.inr ⟨_, rfl⟩⟩
theorem mfX9_23 : FLm RX9 23 583 := lw_g_in (t4_in (List.mem_of_getElem? (i := 22) (by decide +kernel))) rfl
theorem fX9_26 : FLr RX9 26 584 := ⟨⟨by decide, by decide, Or.inl (lw_g_in (t4_in (List.mem_of_getElem? (i := 23) (by decide +kernel))) rfl)⟩, Or.inr ⟨_, rfl⟩⟩
theorem mfX9_26 : FLm RX9 26 584 := lw_g_in (t4_in (List.mem_of_getElem? (i := 23) (by decide +kernel))) rfl
theorem fX9_29 : FLr RX9 29 585 := ⟨⟨by decide, by decide, Or.inl (lw_g_in (t4_in (List.mem_of_getElem? (i := 24) (by decide +kernel))) rfl)⟩, Or.inr ⟨_, rfl⟩⟩
theorem mfX9_29 : FLm RX9 29 585 := lw_g_in (t4_in (List.mem_of_getElem? (i := 24) (by decide +kernel))) rfl
theorem fX9_32 : FLr RX9 32 586 := ⟨⟨by decide, by decide, Or.inl (lw_g_in (t4_in (List.mem_of_getElem? (i := 25) (by decide +kernel))) rfl)⟩, Or.inr ⟨_, rfl⟩⟩
theorem mfX9_32 : FLm RX9 32 586 := lw_g_in (t4_in (List.mem_of_getElem? (i := 25) (by decide +kernel))) rfl
theorem fX9_35 : FLr RX9 35 587 := ⟨⟨by decide, by decide, Or.inl (lw_g_in (t4_in (List.mem_of_getElem? (i := 26) (by decide +kernel))) rfl)⟩, Or.inr ⟨_, rfl⟩⟩
theorem mfX9_35 : FLm RX9 35 587 := lw_g_in (t4_in (List.mem_of_getElem? (i := 26) (by decide +kernel))) rfl
theorem fX9_38 : FLr RX9 38 588 := ⟨⟨by decide, by decide, Or.inl (lw_g_in (t4_in (List.mem_of_getElem? (i := 27) (by decide +kernel))) rfl)⟩, Or.inr ⟨_, rfl⟩⟩
theorem mfX9_38 : FLm RX9 38 588 := lw_g_in (t4_in (List.mem_of_getElem? (i := 27) (by decide +kernel))) rfl
theorem fX9_41 : FLr RX9 41 589 := ⟨⟨by decide, by decide, Or.inl (lw_g_in (t4_in (List.mem_of_getElem? (i := 28) (by decide +kernel))) rfl)⟩, Or.inr ⟨_, rfl⟩⟩
theorem mfX9_41 : FLm RX9 41 589 := lw_g_in (t4_in (List.mem_of_getElem? (i := 28) (by decide +kernel))) rfl
theorem fX9_167 : FLi RX9 167 590 := ⟨⟨by decide, by decide, Or.inl (lw_g_in (t4_in (List.mem_of_getElem? (i := 29) (by decide +kernel))) rfl)⟩, Or.inl rfl⟩
theorem mfX9_167 : FLm RX9 167 590 := lw_g_in (t4_in (List.mem_of_getElem? (i := 29) (by decide +kernel))) rfl
theorem fX9_44 : FLr RX9 44 591 := ⟨⟨by decide, by decide, Or.inl (lw_g_in (t4_in (List.mem_of_getElem? (i := 30) (by decide +kernel))) rfl)⟩, Or.inr ⟨_, rfl⟩⟩
theorem mfX9_44 : FLm RX9 44 591 := lw_g_in (t4_in (List.mem_of_getElem? (i := 30) (by decide +kernel))) rfl
theorem fX9_47 : FLr RX9 47 592 := ⟨⟨by decide, by decide, Or.inl (lw_g_in (t4_in (List.mem_of_getElem? (i := 31) (by decide +kernel))) rfl)⟩, Or.inr ⟨_, rfl⟩⟩
theorem mfX9_47 : FLm RX9 47 592 := lw_g_in (t4_in (List.mem_of_getElem? (i := 31) (by decide +kernel))) rfl
theorem fX9_164 : FLi RX9 164 593 := ⟨⟨by decide, by decide, Or.inl (lw_g_in (t4_in (List.mem_of_getElem? (i := 32) (by decide +kernel))) rfl)⟩, Or.inl rfl⟩
theorem mfX9_164 : FLm RX9 164 593 := lw_g_in (t4_in (List.mem_of_getElem? (i := 32) (by decide +kernel))) rfl
theorem fX9_103 : FLi RX9 103 594 := ⟨⟨by decide, by decide, Or.inl (lw_g_in (t4_in (List.mem_of_getElem? (i := 33) (by decide +kernel))) rfl)⟩, Or.inl rfl⟩
theorem mfX9_103 : FLm RX9 103 594 := lw_g_in (t4_in (List.mem_of_getElem? (i := 33) (by decide +kernel))) rfl
theorem fX9_116 : FLi RX9 116 595 := ⟨⟨by decide, by decide, Or.inl (lw_g_in (t4_in (List.mem_of_getElem? (i := 34) (by decide +kernel))) rfl)⟩, Or.inl rfl⟩
theorem mfX9_116 : FLm RX9 116 595 := lw_g_in (t4_in (List.mem_of_getElem? (i := 34) (by decide +kernel))) rfl
theorem fX9_50 : FLr RX9 50 596 := ⟨⟨by decide, by decide, Or.inl (lw_g_in (t4_in (List.mem_of_getElem? (i := 35) (by decide +kernel))) rfl)⟩, Or.inr ⟨_, rfl⟩⟩
theorem mfX9_50 : FLm RX9 50 596 := lw_g_in (t4_in (List.mem_of_getElem? (i := 35) (by decide +kernel))) rfl
theorem fX9_53 : FLr RX9 53 597 := ⟨⟨by decide, by decide, Or.inl (lw_g_in (t4_in (List.mem_of_getElem? (i := 36) (by decide +kernel))) rfl)⟩, Or.inr ⟨_, rfl⟩⟩
theorem mfX9_53 : FLm RX9 53 597 := lw_g_in (t4_in (List.mem_of_getElem? (i := 36) (by decide +kernel))) rfl
theorem fX9_56 : FLr RX9 56 598 := ⟨⟨by decide, by decide, Or.inl (lw_g_in (t4_in (List.mem_of_getElem? (i := 37) (by decide +kernel))) rfl)⟩, Or.inr ⟨_, rfl⟩⟩
theorem mfX9_56 : FLm RX9 56 598 := lw_g_in (t4_in (List.mem_of_getElem? (i := 37) (by decide +kernel))) rfl
theorem fX9_59 : FLr RX9 59 599 := ⟨⟨by decide, by decide, Or.inl (lw_g_in (t4_in (List.mem_of_getElem? (i := 38) (by decide +kernel))) rfl)⟩, Or.inr ⟨_, rfl⟩⟩
theorem mfX9_59 : FLm RX9 59 599 := lw_g_in (t4_in (List.mem_of_getElem? (i := 38) (by decide +kernel))) rfl
theorem fX9_62 : FLr RX9 62 600 := ⟨⟨by decide, by decide, Or.inl (lw_g_in (t4_in (List.mem_of_getElem? (i := 39) (by decide +kernel))) rfl)⟩, Or.inr ⟨_, rfl⟩⟩
theorem mfX9_62 : FLm RX9 62 600 := lw_g_in (t4_in (List.mem_of_getElem? (i := 39) (by decide +kernel))) rfl
theorem fX9_65 : FLr RX9 65 601 := ⟨⟨by decide, by decide, Or.inl (lw_g_in (t4_in (List.mem_of_getElem? (i := 40) (by decide +kernel))) rfl)⟩, Or.inr ⟨_, rfl⟩⟩
theorem mfX9_65 : FLm RX9 65 601 := lw_g_in (t4_in (List.mem_of_getElem? (i := 40) (by decide +kernel))) rfl
theorem fX9_68 : FLr RX9 68 602 := ⟨⟨by decide, by decide, Or.inl (lw_g_in (t4_in (List.mem_of_getElem? (i := 41) (by decide +kernel))) rfl)⟩, Or.inr ⟨_, rfl⟩⟩
theorem mfX9_68 : FLm RX9 68 602 := lw_g_in (t4_in (List.mem_of_getElem? (i := 41) (by decide +kernel))) rfl
theorem fX9_252 : FLi RX9 252 603 := ⟨⟨by decide, by decide, Or.inl (lw_g_in (t4_in (List.mem_of_getElem? (i := 42) (by decide +kernel))) rfl)⟩, Or.inl rfl⟩
theorem mfX9_252 : FLm RX9 252 603 := lw_g_in (t4_in (List.mem_of_getElem? (i := 42) (by decide +kernel))) rfl
theorem fX9_71 : FLi RX9 71 604 := ⟨⟨by decide, by decide, Or.inl (lw_g_in (t4_in (List.mem_of_getElem? (i := 43) (by decide +kernel))) rfl)⟩, Or.inl rfl⟩
theorem mfX9_71 : FLm RX9 71 604 := lw_g_in (t4_in (List.mem_of_getElem? (i := 43) (by decide +kernel))) rfl
theorem fX9_249 : FLi RX9 249 605 := ⟨⟨by decide, by decide, Or.inl (lw_g_in (t4_in (List.mem_of_getElem? (i := 44) (by decide +kernel))) rfl)⟩, Or.inl rfl⟩
theorem mfX9_249 : FLm RX9 249 605 := lw_g_in (t4_in (List.mem_of_getElem? (i := 44) (by decide +kernel))) rfl
theorem fX9_239 : FLj RX9 239 606 := ⟨⟨by decide, by decide, Or.inl (lw_g_in (t4_in (List.mem_of_getElem? (i := 45) (by decide +kernel))) rfl)⟩, rfl⟩
theorem mfX9_239 : FLm RX9 239 606 := lw_g_in (t4_in (List.mem_of_getElem? (i := 45) (by decide +kernel))) rfl
theorem fX9_242 : FLj RX9 242 607 := ⟨⟨by decide, by decide, Or.inl (lw_g_in (t4_in (List.mem_of_getElem? (i := 46) (by decide +kernel))) rfl)⟩, rfl⟩
theorem mfX9_242 : FLm RX9 242 607 := lw_g_in (t4_in (List.mem_of_getElem? (i := 46) (by decide +kernel))) rfl
theorem fX9_209 : FLi RX9 209 608 := ⟨⟨by decide, by decide, Or.inl (lw_g_in (t4_in (List.mem_of_getElem? (i := 47) (by decide +kernel))) rfl)⟩, Or.inr rfl⟩
theorem mfX9_209 : FLm RX9 209 608 := lw_g_in (t4_in (List.mem_of_getElem? (i := 47) (by decide +kernel))) rfl
theorem fX9_213 : FLj RX9 213 609 := ⟨⟨by decide, by decide, Or.inl (lw_g_in (t4_in (List.mem_of_getElem? (i := 48) (by decide +kernel))) rfl)⟩, rfl⟩
theorem mfX9_213 : FLm RX9 213 609 := lw_g_in (t4_in (List.mem_of_getElem? (i := 48) (by decide +kernel))) rfl
theorem fX9_217 : FLj RX9 217 610 := ⟨⟨by decide, by decide, Or.inl (lw_g_in (t4_in (List.mem_of_getElem? (i := 49) (by decide +kernel))) rfl)⟩, rfl⟩
theorem mfX9_217 : FLm RX9 217 610 := lw_g_in (t4_in (List.mem_of_getElem? (i := 49) (by decide +kernel))) rfl
theorem fX9_75 : FLr RX9 75 611 := ⟨⟨by decide, by decide, Or.inl (lw_g_in (t4_in (List.mem_of_getElem? (i := 50) (by decide +kernel))) rfl)⟩, Or.inr ⟨_, rfl⟩⟩
theorem mfX9_75 : FLm RX9 75 611 := lw_g_in (t4_in (List.mem_of_getElem? (i := 50) (by decide +kernel))) rfl
theorem fX9_188 : FLi RX9 188 612 := ⟨⟨by decide, by decide, Or.inl (lw_g_in (t4_in (List.mem_of_getElem? (i := 51) (by decide +kernel))) rfl)⟩, Or.inl rfl⟩
theorem mfX9_188 : FLm RX9 188 612 := lw_g_in (t4_in (List.mem_of_getElem? (i := 51) (by decide +kernel))) rfl
theorem fX9_78 : FLr RX9 78 613 := ⟨⟨by decide, by decide, Or.inl (lw_g_in (t4_in (List.mem_of_getElem? (i := 52) (by decide +kernel))) rfl)⟩, Or.inr ⟨_, rfl⟩⟩
theorem mfX9_78 : FLm RX9 78 613 := lw_g_in (t4_in (List.mem_of_getElem? (i := 52) (by decide +kernel))) rfl
end
section
section HEAP
variable {X : CX} {M : MD} {d pc pc' : Nat} {L : List (Option LV)} {S S' : List LV} {G G1 : GH} {Q : Option LV → GH → Prop}
theorem Ev.rd (hp : ∀ (p : Program) (e : Env) (R : Room) (s : State) (m : MethodId) (args : Array Value) (below : List Frame) (meth : Method) (c : Code), MCx X M d p R s m args meth c → ∀ (H : Heap) (locs : List Loc) (cells slots : Nat) (ls : Array Slot) (Z : State → Prop), Rel X G H → va_S (cx_A X) s.heap H locs → lvOK X ls M.2.2.1 L →
    W p X.1 e R s m args below meth c H locs cells slots Z (F0 m pc' ls (S'.map (cx_v X))) → W p X.1 e R s m args below meth c H locs cells slots Z (F0 m pc ls (S.map (cx_v X))))
    (h : Ev X M d pc' L S' G Q) : Ev X M d pc L S G Q := by
  obtain ⟨r, G', h1, h2, h3, h4⟩ := h
  refine ⟨r, G', h1, h2, ?_, h4⟩
  intro p e R s m args below meth c C H locs cells slots ls Z hR hS hl hc hs k
  exact hp p e R s m args below meth c C H locs cells slots ls Z hR hS hl (h3 p e R s m args below meth c C H locs cells slots ls Z hR hS hl hc hs k)
theorem Ev.wr (hn : gh_n G1 = gh_n G) (hsl : gh_s G1 = gh_s G) (hp : ∀ (p : Program) (e : Env) (R : Room) (s : State) (m : MethodId) (args : Array Value) (below : List Frame) (meth : Method) (c : Code), MCx X M d p R s m args meth c → ∀ (H : Heap) (locs : List Loc) (cells slots : Nat) (ls : Array Slot) (Z : State → Prop), Rel X G H → va_S (cx_A X) s.heap H locs → lvOK X ls M.2.2.1 L →
    (∀ (H' : Heap) (locs' : List Loc), Rel X G1 H' → va_S (cx_A X) s.heap H' locs' → W p X.1 e R s m args below meth c H' locs' cells slots Z (F0 m pc' ls (S'.map (cx_v X)))) → W p X.1 e R s m args below meth c H locs cells slots Z (F0 m pc ls (S.map (cx_v X))))
    (h : Ev X M d pc' L S' G1 Q) : Ev X M d pc L S G Q := by
  obtain ⟨r, G', h1, h2, h3, h4⟩ := h
  refine ⟨r, G', by rw [← hn]; exact h1, by rw [← hsl]; exact h2, ?_, h4⟩
  intro p e R s m args below meth c C H locs cells slots ls Z hR hS hl hc hs k
  rw [← hn] at hc k
  rw [← hsl] at hs k
  exact hp p e R s m args below meth c C H locs cells slots ls Z hR hS hl (fun H' locs' hR' hS' => h3 p e R s m args below meth c C H' locs' cells slots ls Z hR' hS' hl hc hs k)
theorem Ev.al {N : Nat} (hn : gh_n G1 = gh_n G + 1) (hsl : gh_s G1 = gh_s G + N) (hp : ∀ (p : Program) (e : Env) (R : Room) (s : State) (m : MethodId) (args : Array Value) (below : List Frame) (meth : Method) (c : Code), MCx X M d p R s m args meth c → ∀ (H : Heap) (locs : List Loc) (cells slots : Nat) (ls : Array Slot) (Z : State → Prop), Rel X G H → va_S (cx_A X) s.heap H locs → lvOK X ls M.2.2.1 L → cells + 1 ≤ R.cells → slots + N ≤ R.slots →
    (∀ (H' : Heap), Rel X G1 H' → va_S (cx_A X) s.heap H' locs → W p X.1 e R s m args below meth c H' locs (cells + 1) (slots + N) Z (F0 m pc' ls (S'.map (cx_v X)))) → W p X.1 e R s m args below meth c H locs cells slots Z (F0 m pc ls (S.map (cx_v X))))
    (h : Ev X M d pc' L S' G1 Q) : Ev X M d pc L S G Q := by
  obtain ⟨r, G', h1, h2, h3, h4⟩ := h
  refine ⟨r, G', by omega, by omega, ?_, h4⟩
  intro p e R s m args below meth c C H locs cells slots ls Z hR hS hl hc hs k
  have e1 : gh_n G' - gh_n G = 1 + (gh_n G' - gh_n G1) := by omega
  have e2 : gh_s G' - gh_s G = N + (gh_s G' - gh_s G1) := by omega
  rw [e1, ← Nat.add_assoc] at hc k
  rw [e2, ← Nat.add_assoc] at hs k
  exact hp p e R s m args below meth c C H locs cells slots ls Z hR hS hl (by omega) (by omega) (fun H' hR' hS' => h3 p e R s m args below meth c C H' locs _ _ ls Z hR' hS' hl hc hs k)
theorem cellE_obj {i q : Nat} (hk : G.1 i = q) (hq : q < 11) : cellE X G i = .inr (q, fvs X G q i) := by
  unfold cellE
  rw [hk, if_pos (by omega)]
theorem fvs_at {q k i : Nat} (hk : k < gnf q) : (fvs X G q i)[k]? = some (fv X G (gty q k) (64 * q + k) i) := by
  unfold fvs
  rw [List.getElem?_map, List.getElem?_range hk]
  rfl
theorem f_eq {f : Nat} : 64 * (f / 64) + f % 64 = f := Nat.div_add_mod f 64
theorem Rel.P {H : Heap} {i : Nat} (hR : Rel X G H) (hk : G.1 i < 900) : va_P X.2.1 gcl [(cx_ad X i, cellE X G i)] H := by
  intro k q h
  have hz : k < 1 := (List.getElem?_eq_some_iff.mp h).1
  rw [show k = 0 by omega] at h
  cases h
  exact (hR.2.1 i hk).2.2
theorem ev_get {i f idx : Nat} {v : LV} (hd : decode M.2.1 pc = .ok (.getfield idx, 3)) (hf : FLk M.1.cls idx f) (hk : G.1 i = f / 64) (hv : fv X G (gty (f / 64) (f % 64)) f i = cx_v X v) (k : Ev X M d (pc + 3) L (v :: S) G Q) : Ev X M d pc L (rV (some i) :: S) G Q := by
  refine Ev.rd ?_ k
  intro p e R s m args below meth c C H locs cells slots ls Z hR hS hl kk
  obtain ⟨hx, hb, hr, hml, hown, hts, hlk, hin, hK, -⟩ := C
  obtain ⟨h1, h2, h3⟩ := hf
  have hP := hR.P (i := i) (by rw [hk]; omega)
  rw [cellE_obj hk h1] at hP
  have hv2 : (fvs X G (f / 64) i)[f % 64]? = some (cx_v X v) := by rw [fvs_at h2, f_eq, hv]
  rcases h3 with h3 | ⟨host, h3⟩
  · exact va_get (ci := f / 64) (T := gTn (f / 64)) hx hb hts (gin _ h1) hown hK.1 hP 0 rfl (gcl_at _ h1) (f % 64) h2 (hts _ h3) (fun _ h9 => h9) hv2 hd kk
  · exact va_getN (ci := f / 64) (T := gTn (f / 64)) hx hb hts (gin _ h1) hown hK.1 hP 0 rfl (gcl_at _ h1) (f % 64) h2 (va_Nw.use rfl (hK.2.1 _ h3)) (fun _ h9 => h9) hv2 hd kk
end HEAP
section GET
variable {X : CX} {M : MD} {d pc : Nat} {L : List (Option LV)} {S : List LV} {Q : Option LV → GH → Prop} {K : Nat → Nat} {I : Nat → Nat → Int32} {J : Nat → Nat → Int64} {R : Nat → Nat → Option Nat} {A : Nat → Nat → Int32} {B : Nat → Nat → Option Nat} {Ln : Nat → Nat} {n sl : Nat}
theorem ev_getI {i f idx : Nat} (hd : decode M.2.1 pc = .ok (.getfield idx, 3)) (hf : FLi M.1.cls idx f) (hk : K i = f / 64) (k : Ev X M d (pc + 3) L (iV (I f i) :: S) (K, I, J, R, A, B, Ln, n, sl) Q) : Ev X M d pc L (rV (some i) :: S) (K, I, J, R, A, B, Ln, n, sl) Q :=
  ev_get hd hf.1 hk (by rcases hf.2 with h | h <;> rw [h] <;> rfl) k
theorem ev_getJ {i f idx : Nat} (hd : decode M.2.1 pc = .ok (.getfield idx, 3)) (hf : FLj M.1.cls idx f) (hk : K i = f / 64) (k : Ev X M d (pc + 3) L (lV (J f i) :: S) (K, I, J, R, A, B, Ln, n, sl) Q) : Ev X M d pc L (rV (some i) :: S) (K, I, J, R, A, B, Ln, n, sl) Q :=
  ev_get hd hf.1 hk (by rw [hf.2]; rfl) k
theorem ev_getR {i f idx : Nat} {r : Option Nat} (hd : decode M.2.1 pc = .ok (.getfield idx, 3)) (hf : FLr M.1.cls idx f) (hk : K i = f / 64) (hr : R f i = r) (k : Ev X M d (pc + 3) L (rV r :: S) (K, I, J, R, A, B, Ln, n, sl) Q) : Ev X M d pc L (rV (some i) :: S) (K, I, J, R, A, B, Ln, n, sl) Q := by
  subst hr
  exact ev_get hd hf.1 hk (by rcases hf.2 with ⟨n, h⟩ | ⟨t, h⟩ <;> rw [h] <;> rfl) k
end GET
end
section
section PUTW
variable {p : Program} {l : Launch} {e : Env} {R : Room} {s : State} {m : MethodId} {args : Array Value} {below : List Frame} {meth : Method} {c : Code} {H : Heap} {locs : List Loc} {cells slots : Nat} {Z : State → Prop}
variable {cc : ByteArray} {pc : Nat} {ls : Array Slot} {rest : List Value} {X : CX} {own : String} {a q k idx : Nat} {fs : List Value} {ty : FieldType} {v : Value}
theorem gnm : ∀ q, q < 11 → ∀ a, a < gnf q → ∀ b, b < gnf q → a ≠ b → (gTn q a).2.1 ≠ (gTn q b).2.1
  | 0, _ => nmX0 | 1, _ => nmX1 | 2, _ => nmX2 | 3, _ => nmX3 | 4, _ => nmX4 | 5, _ => nmX5 | 6, _ => nmX6 | 7, _ => nmX7 | 8, _ => nmX8 | 9, _ => nmX9 | 10, _ => nmJx4a65c
  | n + 11, h => absurd h (by omega)
theorem gty_ok : ∀ q, q < 11 → ∀ k, k < gnf q → parseFieldDescriptor (gTn q k).2.2.1 = some (gty q k)
  | 0, _ => tyX0_ok | 1, _ => tyX1_ok | 2, _ => tyX2_ok | 3, _ => tyX3_ok | 4, _ => tyX4_ok | 5, _ => tyX5_ok | 6, _ => tyX6_ok | 7, _ => tyX7_ok | 8, _ => tyX8_ok | 9, _ => tyX9_ok | 10, _ => tyJx4a65c_ok
  | n + 11, h => absurd h (by omega)
/-- what a store into a field gives: the cell with the field set, all else as it was -/
abbrev PutK (p : Program) (l : Launch) (e : Env) (R : Room) (s : State) (m : MethodId) (args : Array Value) (below : List Frame) (meth : Method) (c : Code) (H : Heap) (cells slots : Nat) (Z : State → Prop) (X : CX) (a q : Nat) (fs : List Value) (g : JFrame) : Prop :=
  ∀ (H1 : Heap) (locs1 : List Loc), va_at X.2.1 gcl (a, .inr (q, fs)) H1 → H1.size = H.size → (∀ z : Nat, z ≠ a → H1[z]? = H[z]?) → va_S (cx_A X) s.heap H1 locs1 → W p l e R s m args below meth c H1 locs1 cells slots Z g
theorem put_link (hx : p.tables.exec = Jvm.exec) (hb : c.code = cc) (hts : ∀ w ∈ lw_g, w.before args s = true) (hown : s.vm.findClass own = some m.cls) (hK : va_K X.2.1 gcl (cx_ty X) s) (hq : q < 11) (hk : k < gnf q) (hP : va_at X.2.1 gcl (a, .inr (q, fs)) H) (hS0 : va_S (cx_A X) s.heap H locs) (ha : cx_b X ≤ a)
    (hlink : (Cond.fieldLink own idx (gTn q k).1 (gTn q k).2.1 (gTn q k).2.2.1).before args s = true) (hfin : (gTn q k).2.2.2 = false) (hn : narrow (gty q k) v = v) (hfit : fits (gty q k) v = true) (hl : k < fs.length) (hdg : decode cc pc = .ok (.putfield idx, 3))
    (kk : PutK p l e R s m args below meth c H cells slots Z X a q (fs.set k v) (F0 m (pc + 3) ls rest)) : W p l e R s m args below meth c H locs cells slots Z (F0 m pc ls (v :: .ref a :: rest)) := by
  have hin := gin q hq
  have hc := gcl_at q hq
  have hap := va_apart (own := own) hts hin (gty q) (gty_ok q hq) (gnm q hq) hK hc
  obtain ⟨r, h1, cell, q1, q2, q3, q4⟩ := hP
  have hr : r = (gRn q, gTn q, gnf q) := Option.some.inj (h1.symm.trans hc)
  subst hr
  obtain ⟨hS, hfc, kC, hkC, hkind⟩ := hK.1 q _ hc
  obtain ⟨cf, kf, fi, f, hi, hsl⟩ := hS k hk
  have hlay := hts _ (hin _ (u_in_lay hk))
  unfold u_lay at hlay
  rw [if_neg (by rw [hfin]; decide)] at hlay
  refine W.putK hx hb (f := f) ⟨hown, hlink, ⟨_, _, _, hi⟩, (u_facts hfc hkC (u_lays hts hin hk) hi).1⟩ (by rw [q2]; exact u_store hfc hkC hkind hlay hi (gty_ok q hq k hk) hn hfit) q1 q3 (by rw [hsl]; exact k2_hasslot (q4 k hk)) rfl rfl hdg fun H' e1 e2 e3 => ?_
  rw [hsl] at e1 ⊢
  exact kk H' _ ⟨_, hc, t_OB.to (V := updV (vp_V fs) k v) ⟨_, e1, q2, q3, t_set q4 hap hk v⟩ (fun j _ => vp_updV_set hl v j)⟩ e2 e3 (hS0.put e2 e3 ha)
theorem put_nest {host : String} (hx : p.tables.exec = Jvm.exec) (hb : c.code = cc) (hts : ∀ w ∈ lw_g, w.before args s = true) (hown : s.vm.findClass own = some m.cls) (hK : va_K X.2.1 gcl (cx_ty X) s) (hq : q < 11) (hk : k < gnf q) (hP : va_at X.2.1 gcl (a, .inr (q, fs)) H) (hS0 : va_S (cx_A X) s.heap H locs) (ha : cx_b X ≤ a)
    (hlink : (Cond.fieldLinkNest own idx (gTn q k).1 (gTn q k).2.1 (gTn q k).2.2.1 host).before args s = true) (hfin : (gTn q k).2.2.2 = false) (hn : narrow (gty q k) v = v) (hfit : fits (gty q k) v = true) (hl : k < fs.length) (hdg : decode cc pc = .ok (.putfield idx, 3))
    (kk : PutK p l e R s m args below meth c H cells slots Z X a q (fs.set k v) (F0 m (pc + 3) ls rest)) : W p l e R s m args below meth c H locs cells slots Z (F0 m pc ls (v :: .ref a :: rest)) := by
  have hin := gin q hq
  have hc := gcl_at q hq
  have hap := va_apart (own := own) hts hin (gty q) (gty_ok q hq) (gnm q hq) hK hc
  obtain ⟨r, h1, cell, q1, q2, q3, q4⟩ := hP
  have hr : r = (gRn q, gTn q, gnf q) := Option.some.inj (h1.symm.trans hc)
  subst hr
  obtain ⟨hS, hfc, kC, hkC, hkind⟩ := hK.1 q _ hc
  obtain ⟨cf, kf, fi, f, hi, hsl⟩ := hS k hk
  have hlay := hts _ (hin _ (u_in_lay hk))
  unfold u_lay at hlay
  rw [if_neg (by rw [hfin]; decide)] at hlay
  refine va_WputK hx hb (f := f) hown hlink hi (u_facts hfc hkC (u_lays hts hin hk) hi).1 (by rw [q2]; exact u_store hfc hkC hkind hlay hi (gty_ok q hq k hk) hn hfit) q1 q3 (by rw [hsl]; exact k2_hasslot (q4 k hk)) rfl rfl hdg fun H' e1 e2 e3 => ?_
  rw [hsl] at e1 ⊢
  exact kk H' _ ⟨_, hc, t_OB.to (V := updV (vp_V fs) k v) ⟨_, e1, q2, q3, t_set q4 hap hk v⟩ (fun j _ => vp_updV_set hl v j)⟩ e2 e3 (hS0.put e2 e3 ha)
theorem put_final (hx : p.tables.exec = Jvm.exec) (hb : c.code = cc) (hts : ∀ w ∈ lw_g, w.before args s = true) (hown : s.vm.findClass own = some m.cls) (hK : va_K X.2.1 gcl (cx_ty X) s) (hq : q < 11) (hk : k < gnf q) (hP : va_at X.2.1 gcl (a, .inr (q, fs)) H) (hS0 : va_S (cx_A X) s.heap H locs) (ha : cx_b X ≤ a)
    (hlink : (Cond.fieldLink own idx (gTn q k).1 (gTn q k).2.1 (gTn q k).2.2.1).before args s = true) (hfin : (gTn q k).2.2.2 = true) (hin2 : meth.name = "<init>") (hdecl : (gTn q k).1 = own) (hn : narrow (gty q k) v = v) (hfit : fits (gty q k) v = true) (hl : k < fs.length) (hdg : decode cc pc = .ok (.putfield idx, 3))
    (kk : PutK p l e R s m args below meth c H cells slots Z X a q (fs.set k v) (F0 m (pc + 3) ls rest)) : W p l e R s m args below meth c H locs cells slots Z (F0 m pc ls (v :: .ref a :: rest)) := by
  have hin := gin q hq
  have hc := gcl_at q hq
  have hap := va_apart (own := own) hts hin (gty q) (gty_ok q hq) (gnm q hq) hK hc
  obtain ⟨r, h1, cell, q1, q2, q3, q4⟩ := hP
  have hr : r = (gRn q, gTn q, gnf q) := Option.some.inj (h1.symm.trans hc)
  subst hr
  obtain ⟨hS, hfc, kC, hkC, hkind⟩ := hK.1 q _ hc
  obtain ⟨cf, kf, fi, f, hi, hsl⟩ := hS k hk
  have hlay := hts _ (hin _ (u_in_lay hk))
  unfold u_lay at hlay
  rw [if_pos hfin] at hlay
  have hcf : m.cls = cf := by
    obtain ⟨_, _, c', _, _, _, -, -, hf', -, -, -, hown2, -⟩ := Cond.laysFinal_spec hlay
    have e1 : c' = cf := by have := hi.symm.trans hf'; simp at this; exact this.1.symm
    rw [hdecl] at hown2
    rw [← e1]; exact Option.some.inj (hown.symm.trans hown2)
  refine W.putFinK hx hb hown hlink hi (u_facts hfc hkC (u_lays hts hin hk) hi).1 hcf hin2 (by rw [q2]; exact u_fits hfc hkC hkind (Or.inr hlay) hi (gty_ok q hq k hk) hn hfit) q1 q3 (by rw [hsl]; exact k2_hasslot (q4 k hk)) rfl rfl hdg fun H' e1 e2 e3 => ?_
  rw [hsl] at e1 ⊢
  exact kk H' _ ⟨_, hc, t_OB.to (V := updV (vp_V fs) k v) ⟨_, e1, q2, q3, t_set q4 hap hk v⟩ (fun j _ => vp_updV_set hl v j)⟩ e2 e3 (hS0.put e2 e3 ha)
end PUTW
section REL
variable {X : CX} {G G1 : GH} {H H1 : Heap} {i j : Nat}
theorem cx_ad3 (h : 3 ≤ i) : cx_ad X i = cx_b X + (i - 3) := by unfold cx_ad; rw [if_neg (by omega), if_neg (by omega), if_neg (by omega)]
theorem cellE_same (hK1 : G1.1 j = G.1 j) (h : SameAt G1 G j) : cellE X G1 j = cellE X G j := by
  obtain ⟨h1, h2, h3, h4, h5, h6⟩ := h
  have e : ∀ q, fvs X G1 q j = fvs X G q j := fun q => by
    unfold fvs
    refine List.map_congr_left fun k _ => ?_
    unfold fv
    rw [h1, h2, h3]
  unfold cellE
  rw [hK1, e, h4, h5, h6]
theorem Fresh.same (hK1 : G1.1 j = G.1 j) (h : SameAt G1 G j) (hf : Fresh G j) : Fresh G1 j := by
  obtain ⟨h1, h2, h3, h4, h5, h6⟩ := h
  obtain ⟨a1, a2, a3, a4, a5, a6⟩ := hf
  exact ⟨fun f => by rw [h1]; exact a1 f, fun f => by rw [h2]; exact a2 f, fun f => by rw [h3]; exact a3 f, fun k => by rw [h4]; exact a4 k, fun k => by rw [h5]; exact a5 k, by rw [hK1]; exact a6⟩
theorem Rel.upd (hR : Rel X G H) (hK : G1.1 = G.1) (hn : gh_n G1 = gh_n G) (hi : G.1 i < 900) (hz : H1.size = H.size) (ho : ∀ z : Nat, z ≠ cx_ad X i → H1[z]? = H[z]?) (hc : ∀ j, j ≠ i → SameAt G1 G j) (h1 : va_at X.2.1 gcl (cx_ad X i, cellE X G1 i) H1) : Rel X G1 H1 := by
  refine ⟨⟨by rw [hn, hz]; exact hR.1.1, by rw [hn]; exact hR.1.2⟩, fun j hj => ?_, fun j hj => ?_⟩
  · rw [hK] at hj
    obtain ⟨a1, a2, a3⟩ := hR.2.1 j hj
    refine ⟨a1, by rw [hn]; exact a2, ?_⟩
    by_cases e : j = i
    · subst e; exact h1
    · rw [cellE_same (by rw [hK]) (hc j e)]
      refine a3.kept (ho _ ?_)
      have b1 := (hR.2.1 i hi).1
      show cx_ad X j ≠ cx_ad X i
      rw [cx_ad3 a1, cx_ad3 b1]
      omega
  · rw [hn] at hj
    have hlt := (hR.2.1 i hi).2.1
    exact (hR.2.2 j hj).same (by rw [hK]) (hc j (by omega))
theorem Rel.base (hR : Rel X G H) (hi : G.1 i < 900) : cx_b X ≤ cx_ad X i := by
  rw [cx_ad3 (hR.2.1 i hi).1]; omega
end REL
end
section
def PutOk (M : MD) (idx f : Nat) : Prop := (gTn (f / 64) (f % 64)).2.2.2 = false ∨ ((gTn (f / 64) (f % 64)).2.2.2 = true ∧ M.2.2.2.2 = true ∧ (gTn (f / 64) (f % 64)).1 = M.1.cls ∧ FLm M.1.cls idx f)
section PUTS
variable {X : CX} {M : MD} {d pc : Nat} {L : List (Option LV)} {S : List LV} {G G1 : GH} {Q : Option LV → GH → Prop}
theorem fvs_len {q i : Nat} : (fvs X G q i).length = gnf q := by unfold fvs; rw [List.length_map, List.length_range]
theorem ev_put {i f idx : Nat} {v : LV} (hd : decode M.2.1 pc = .ok (.putfield idx, 3)) (hf : FLk M.1.cls idx f) (ho : PutOk M idx f) (hk : G.1 i = f / 64) (hnw : narrow (gty (f / 64) (f % 64)) (cx_v X v) = cx_v X v) (hfit : fits (gty (f / 64) (f % 64)) (cx_v X v) = true)
    (hK1 : G1.1 = G.1) (hn1 : gh_n G1 = gh_n G) (hs1 : gh_s G1 = gh_s G) (hc : ∀ j, j ≠ i → SameAt G1 G j) (hf1 : fvs X G1 (f / 64) i = (fvs X G (f / 64) i).set (f % 64) (cx_v X v)) (k : Ev X M d (pc + 3) L S G1 Q) : Ev X M d pc L (v :: rV (some i) :: S) G Q := by
  refine Ev.wr hn1 hs1 ?_ k
  intro p e R s m args below meth c C H locs cells slots ls Z hR hS hl kk
  obtain ⟨hx, hb, hr, hml, hown, hts, hlk, hin, hK, -⟩ := C
  obtain ⟨h1, h2, h3⟩ := hf
  have h9 : G.1 i < 900 := by rw [hk]; omega
  have hP := (hR.2.1 i h9).2.2
  rw [cellE_obj hk h1] at hP
  have hl9 : f % 64 < (fvs X G (f / 64) i).length := by rw [fvs_len]; exact h2
  have hk1 : G1.1 i = f / 64 := by rw [hK1]; exact hk
  have goK : PutK p X.1 e R s m args below meth c H cells slots Z X (cx_ad X i) (f / 64) ((fvs X G (f / 64) i).set (f % 64) (cx_v X v)) (F0 m (pc + 3) ls (S.map (cx_v X))) := by
    intro H1 locs1 a1 a2 a3 a4
    refine kk H1 locs1 (hR.upd hK1 hn1 h9 a2 a3 hc ?_) a4
    rw [cellE_obj hk1 h1, hf1]
    exact a1
  rcases ho with ho | ⟨ho1, ho2, ho3, h3⟩
  · rcases h3 with h3 | ⟨host, h3⟩
    · exact put_link hx hb hts hown hK.1 h1 h2 hP hS (hR.base h9) (hts _ h3) ho hnw hfit hl9 hd goK
    · exact put_nest hx hb hts hown hK.1 h1 h2 hP hS (hR.base h9) (va_Nw.use rfl (hK.2.1 _ h3)) ho hnw hfit hl9 hd goK
  · exact put_final hx hb hts hown hK.1 h1 h2 hP hS (hR.base h9) (hts _ h3) ho1 (hin ho2) ho3 hnw hfit hl9 hd goK
theorem u2_self {α : Type} {g : Nat → Nat → α} {a b : Nat} {v : α} : u2 g a b v a b = v := if_pos ⟨rfl, rfl⟩
theorem u2_ne2 {α : Type} {g : Nat → Nat → α} {a b c e : Nat} {v : α} (h : e ≠ b) : u2 g a b v c e = g c e := if_neg (fun q => h q.2)
theorem u2_ne1 {α : Type} {g : Nat → Nat → α} {a b c e : Nat} {v : α} (h : c ≠ a) : u2 g a b v c e = g c e := if_neg (fun q => h q.1)
theorem fv_congr {t : FieldType} {f i : Nat} (h1 : G1.2.1 f i = G.2.1 f i) (h2 : G1.2.2.1 f i = G.2.2.1 f i) (h3 : G1.2.2.2.1 f i = G.2.2.2.1 f i) : fv X G1 t f i = fv X G t f i := by
  unfold fv
  rw [h1, h2, h3]
theorem fvs_set {q k i : Nat} {v : Value} (hk : k < gnf q) (h1 : fv X G1 (gty q k) (64 * q + k) i = v) (h2 : ∀ a, a ≠ k → fv X G1 (gty q a) (64 * q + a) i = fv X G (gty q a) (64 * q + a) i) : fvs X G1 q i = (fvs X G q i).set k v := by
  apply List.ext_getElem?
  intro a
  by_cases e : a = k
  · subst e
    rw [fvs_at hk, h1, List.getElem?_set_self (by rw [fvs_len]; exact hk)]
  · rw [List.getElem?_set_ne (fun z => e z.symm)]
    by_cases hl : a < gnf q
    · rw [fvs_at hl, fvs_at hl, h2 a e]
    · rw [List.getElem?_eq_none (by rw [fvs_len]; omega), List.getElem?_eq_none (by rw [fvs_len]; omega)]
end PUTS
section PUTT
variable {X : CX} {M : MD} {d pc : Nat} {L : List (Option LV)} {S : List LV} {Q : Option LV → GH → Prop} {K : Nat → Nat} {I : Nat → Nat → Int32} {J : Nat → Nat → Int64} {R : Nat → Nat → Option Nat} {A : Nat → Nat → Int32} {B : Nat → Nat → Option Nat} {Ln : Nat → Nat} {n sl : Nat}
theorem ev_putI {i f idx : Nat} {v : Int32} (hd : decode M.2.1 pc = .ok (.putfield idx, 3)) (hf : FLi M.1.cls idx f) (ho : PutOk M idx f) (hz : gty (f / 64) (f % 64) = .int ∨ v = 0 ∨ v = 1) (hk : K i = f / 64) (k : Ev X M d (pc + 3) L S (K, u2 I f i v, J, R, A, B, Ln, n, sl) Q) : Ev X M d pc L (iV v :: rV (some i) :: S) (K, I, J, R, A, B, Ln, n, sl) Q := by
  have hnf : narrow (gty (f / 64) (f % 64)) (.int v) = .int v ∧ fits (gty (f / 64) (f % 64)) (.int v) = true := by
    rcases hz with h | h | h
    · rw [h]; exact ⟨rfl, rfl⟩
    · subst h; rcases hf.2 with h | h <;> rw [h] <;> exact ⟨rfl, rfl⟩
    · subst h; rcases hf.2 with h | h <;> rw [h] <;> exact ⟨rfl, rfl⟩
  refine ev_put (v := iV v) (G1 := (K, u2 I f i v, J, R, A, B, Ln, n, sl)) hd hf.1 ho hk hnf.1 hnf.2 rfl rfl rfl (fun j hj => ⟨fun g => u2_ne2 hj, fun _ => rfl, fun _ => rfl, rfl, rfl, rfl⟩) (fvs_set hf.1.2.1 ?_ (fun a ha => ?_)) k
  · rw [f_eq]
    have e : u2 I f i v f i = v := u2_self
    rcases hf.2 with h | h <;> rw [h] <;> exact congrArg Value.int e
  · have e : u2 I f i v (64 * (f / 64) + a) i = I (64 * (f / 64) + a) i := u2_ne1 (fun z => ha (by have := f_eq (f := f); omega))
    exact fv_congr e rfl rfl
theorem ev_putJ {i f idx : Nat} {v : Int64} (hd : decode M.2.1 pc = .ok (.putfield idx, 3)) (hf : FLj M.1.cls idx f) (ho : PutOk M idx f) (hk : K i = f / 64) (k : Ev X M d (pc + 3) L S (K, I, u2 J f i v, R, A, B, Ln, n, sl) Q) : Ev X M d pc L (lV v :: rV (some i) :: S) (K, I, J, R, A, B, Ln, n, sl) Q := by
  refine ev_put (v := lV v) (G1 := (K, I, u2 J f i v, R, A, B, Ln, n, sl)) hd hf.1 ho hk (by rw [hf.2]; rfl) (by rw [hf.2]; rfl) rfl rfl rfl (fun j hj => ⟨fun _ => rfl, fun g => u2_ne2 hj, fun _ => rfl, rfl, rfl, rfl⟩) (fvs_set hf.1.2.1 ?_ (fun a ha => ?_)) k
  · rw [f_eq, hf.2]
    exact congrArg Value.long (u2_self (g := J) (a := f) (b := i) (v := v))
  · have e : u2 J f i v (64 * (f / 64) + a) i = J (64 * (f / 64) + a) i := u2_ne1 (fun z => ha (by have := f_eq (f := f); omega))
    exact fv_congr rfl e rfl
theorem ev_putR {i f idx : Nat} {r : Option Nat} (hd : decode M.2.1 pc = .ok (.putfield idx, 3)) (hf : FLr M.1.cls idx f) (ho : PutOk M idx f) (hk : K i = f / 64) (k : Ev X M d (pc + 3) L S (K, I, J, u2 R f i r, A, B, Ln, n, sl) Q) : Ev X M d pc L (rV r :: rV (some i) :: S) (K, I, J, R, A, B, Ln, n, sl) Q := by
  refine ev_put (v := rV r) (G1 := (K, I, J, u2 R f i r, A, B, Ln, n, sl)) hd hf.1 ho hk (by rcases hf.2 with ⟨_, h⟩ | ⟨_, h⟩ <;> rw [h] <;> cases r <;> rfl) (by rcases hf.2 with ⟨_, h⟩ | ⟨_, h⟩ <;> rw [h] <;> cases r <;> rfl) rfl rfl rfl (fun j hj => ⟨fun _ => rfl, fun _ => rfl, fun g => u2_ne2 hj, rfl, rfl, rfl⟩) (fvs_set hf.1.2.1 ?_ (fun a ha => ?_)) k
  · have e : u2 R f i r f i = r := u2_self
    rw [f_eq]
    rcases hf.2 with ⟨_, h⟩ | ⟨_, h⟩ <;> rw [h] <;> exact congrArg (fun z : Option Nat => va_rf (z.map (cx_ad X))) e
  · have e : u2 R f i r (64 * (f / 64) + a) i = R (64 * (f / 64) + a) i := u2_ne1 (fun z => ha (by have := f_eq (f := f); omega))
    exact fv_congr rfl rfl e
end PUTT
end
section
section ARR
variable {X : CX} {M : MD} {d pc : Nat} {L : List (Option LV)} {S : List LV} {Q : Option LV → GH → Prop} {K : Nat → Nat} {I : Nat → Nat → Int32} {J : Nat → Nat → Int64} {R : Nat → Nat → Option Nat} {A : Nat → Nat → Int32} {B : Nat → Nat → Option Nat} {Ln : Nat → Nat} {n sl : Nat}
theorem cellE_ia {i q : Nat} {G : GH} (hk : G.1 i = 100 + q) (hq : q < 2) : cellE X G i = .inl (X.2.2.1 q, G.2.2.2.2.2.2.1 i, .inl (G.2.2.2.2.1 i)) := by
  unfold cellE
  rw [hk, if_neg (by omega), if_pos (by omega), Nat.add_sub_cancel_left]
theorem cellE_ra {i q : Nat} {G : GH} (hk : G.1 i = 100 + q) (hq : 2 ≤ q) : cellE X G i = .inl (X.2.2.1 q, G.2.2.2.2.2.2.1 i, .inr (.inr (.inr (.inr (fun j => (G.2.2.2.2.2.1 i j).map (cx_ad X)))))) := by
  unfold cellE
  rw [hk, if_neg (by omega), if_neg (by omega), Nat.add_sub_cancel_left]
theorem ev_iald {i j m : Nat} (hd : decode M.2.1 pc = .ok (.iaload, 1)) (hk : K i = 100) (hm : Ln i = m) (hb : m < 2147483648) (hj : j < m) (k : Ev X M d (pc + 1) L (iV (A i j) :: S) (K, I, J, R, A, B, Ln, n, sl) Q) : Ev X M d pc L (iV (nI j) :: rV (some i) :: S) (K, I, J, R, A, B, Ln, n, sl) Q := by
  have hvp : vp_in (nI j) (Ln i) := by rw [hm]; exact vp_in_nI hj hb
  refine Ev.rd ?_ k
  intro p e R s m args below meth c C H locs cells slots ls Z hR hS hl kk
  have hP := hR.P (i := i) (by show K i < 900; rw [hk]; omega)
  rw [cellE_ia (q := 0) hk (by omega)] at hP
  refine va_iald C.1 C.2.1 C.2.2.2.2.2.2.2.2.1.1 hP 0 0 rfl rfl hvp hd ?_
  rw [nI_clamp (by omega)]
  exact kk
theorem ev_zald {i j m : Nat} (hd : decode M.2.1 pc = .ok (.baload, 1)) (hk : K i = 101) (hm : Ln i = m) (hb : m < 2147483648) (hj : j < m) (k : Ev X M d (pc + 1) L (iV (A i j) :: S) (K, I, J, R, A, B, Ln, n, sl) Q) : Ev X M d pc L (iV (nI j) :: rV (some i) :: S) (K, I, J, R, A, B, Ln, n, sl) Q := by
  have hvp : vp_in (nI j) (Ln i) := by rw [hm]; exact vp_in_nI hj hb
  refine Ev.rd ?_ k
  intro p e R s m args below meth c C H locs cells slots ls Z hR hS hl kk
  have hP := hR.P (i := i) (by show K i < 900; rw [hk]; omega)
  rw [cellE_ia (q := 1) hk (by omega)] at hP
  refine va_zald C.1 C.2.1 C.2.2.2.2.2.2.2.2.1.1 hP 0 1 rfl rfl hvp hd ?_
  rw [nI_clamp (by omega)]
  exact kk
/-- the component class of an array kind: its name -/
def acn : Nat → String
  | 2 => RX1 | 3 => RX7 | 4 => RX3 | 5 => RX0 | _ => "java/lang/Object"
theorem cx_ty_at : ∀ q, 2 ≤ q → q < 7 → (cx_ty X)[q]? = some (X.2.2.1 q, .object (acn q))
  | 2, _, _ => rfl | 3, _, _ => rfl | 4, _, _ => rfl | 5, _, _ => rfl | 6, _, _ => rfl
  | 0, h, _ => absurd h (by omega) | 1, h, _ => absurd h (by omega) | n + 7, _, h => absurd h (by omega)
theorem ev_aald {i j m q : Nat} {r : Option Nat} (hd : decode M.2.1 pc = .ok (.aaload, 1)) (hk : K i = 100 + q) (h2 : 2 ≤ q) (h7 : q < 7) (hm : Ln i = m) (hb : m < 2147483648) (hj : j < m) (hr : B i j = r) (k : Ev X M d (pc + 1) L (rV r :: S) (K, I, J, R, A, B, Ln, n, sl) Q) : Ev X M d pc L (iV (nI j) :: rV (some i) :: S) (K, I, J, R, A, B, Ln, n, sl) Q := by
  subst hr
  have hvp : vp_in (nI j) (Ln i) := by rw [hm]; exact vp_in_nI hj hb
  refine Ev.rd ?_ k
  intro p e R s m args below meth c C H locs cells slots ls Z hR hS hl kk
  have hP := hR.P (i := i) (by show K i < 900; rw [hk]; omega)
  rw [cellE_ra (q := q) hk h2] at hP
  refine va_aldq C.1 C.2.1 C.2.2.2.2.2.2.2.2.1.1 hP 0 q rfl (cx_ty_at q h2 h7) hvp hd ?_
  rw [nI_clamp (by omega)]
  exact kk
theorem ev_alen {i q m : Nat} (hd : decode M.2.1 pc = .ok (.arraylength, 1)) (hk : K i = 100 + q) (h7 : q < 7) (hm : Ln i = m) (k : Ev X M d (pc + 1) L (iV (nI m) :: S) (K, I, J, R, A, B, Ln, n, sl) Q) : Ev X M d pc L (rV (some i) :: S) (K, I, J, R, A, B, Ln, n, sl) Q := by
  subst hm
  refine Ev.rd ?_ k
  intro p e R s m args below meth c C H locs cells slots ls Z hR hS hl kk
  have hP := hR.P (i := i) (by show K i < 900; rw [hk]; omega)
  by_cases h2 : 2 ≤ q
  · rw [cellE_ra (q := q) hk h2] at hP
    exact va_alen C.1 C.2.1 C.2.2.2.2.2.2.2.2.1.1 hP 0 q rfl (cx_ty_at q h2 h7) rfl hd kk
  · rw [cellE_ia (q := q) hk (by omega)] at hP
    rcases (show q = 0 ∨ q = 1 by omega) with rfl | rfl
    · exact va_alen C.1 C.2.1 C.2.2.2.2.2.2.2.2.1.1 hP 0 0 rfl (ty := .int) rfl rfl hd kk
    · exact va_alen C.1 C.2.1 C.2.2.2.2.2.2.2.2.1.1 hP 0 1 rfl (ty := .boolean) rfl rfl hd kk
theorem u2_row {α : Type} {g : Nat → Nat → α} {a b : Nat} {v : α} : u2 g a b v a = va_up (g a) b v := by
  funext j
  unfold u2 va_up
  by_cases h : j = b <;> simp [h]
theorem u2_row' {α : Type} {g : Nat → Nat → α} {a b c : Nat} {v : α} (h : c ≠ a) : u2 g a b v c = g c := by
  funext j
  exact u2_ne1 h
theorem arrV_st {cI : ClassId} {N k : Nat} {α : Type} {g : Nat → α} {F : α → Value} {x : α} : (arrV cI N (fun j => F (g j))).setSlot k (F x) = arrV cI N (fun j => F (va_up g k x j)) := by
  rw [arrV_store]
  congr 1
  funext j
  unfold updV va_up
  by_cases h : j = k <;> simp [h]
theorem ev_iast {i j m : Nat} {v : Int32} (hd : decode M.2.1 pc = .ok (.iastore, 1)) (hk : K i = 100) (hm : Ln i = m) (hb : m < 2147483648) (hj : j < m) (k : Ev X M d (pc + 1) L S (K, I, J, R, u2 A i j v, B, Ln, n, sl) Q) : Ev X M d pc L (iV v :: iV (nI j) :: rV (some i) :: S) (K, I, J, R, A, B, Ln, n, sl) Q := by
  have hvp : vp_in (nI j) (Ln i) := by rw [hm]; exact vp_in_nI hj hb
  refine Ev.wr (G1 := (K, I, J, R, u2 A i j v, B, Ln, n, sl)) rfl rfl ?_ k
  intro p e R s m args below meth c C H locs cells slots ls Z hR hS hl kk
  have h9 : K i < 900 := by rw [hk]; omega
  have hP := (hR.2.1 i h9).2.2
  rw [cellE_ia (q := 0) hk (by omega)] at hP
  refine W.iast C.1 C.2.1 (j := nI j) hP ((C.2.2.2.2.2.2.2.2.1.1.2 0 _ rfl).1 _ _) (fun q => by cases q) (by show ¬ (nI j < 0 ∨ (arrV _ _ _).slots.size ≤ _); rw [arrV_size]; exact hvp) rfl rfl hd fun H1 e1 z1 o1 => ?_
  refine kk H1 _ (hR.upd rfl rfl h9 z1 o1 (fun j' hj' => ⟨fun _ => rfl, fun _ => rfl, fun _ => rfl, u2_row' hj', rfl, rfl⟩) ?_) (hS.put z1 o1 (hR.base h9))
  rw [cellE_ia (q := 0) hk (by omega)]
  show H1[cx_ad X i]? = some (vp_cell _ (_, .inl (u2 A i j v i)))
  rw [e1, nI_clamp (by omega), u2_row]
  exact congrArg some (arrV_st (F := Value.int))
theorem ev_zast {i j m : Nat} {v : Int32} (hd : decode M.2.1 pc = .ok (.bastore, 1)) (hk : K i = 101) (hm : Ln i = m) (hb : m < 2147483648) (hj : j < m) (hv : v = 0 ∨ v = 1) (k : Ev X M d (pc + 1) L S (K, I, J, R, u2 A i j v, B, Ln, n, sl) Q) : Ev X M d pc L (iV v :: iV (nI j) :: rV (some i) :: S) (K, I, J, R, A, B, Ln, n, sl) Q := by
  have hvp : vp_in (nI j) (Ln i) := by rw [hm]; exact vp_in_nI hj hb
  refine Ev.wr (G1 := (K, I, J, R, u2 A i j v, B, Ln, n, sl)) rfl rfl ?_ k
  intro p e R s m args below meth c C H locs cells slots ls Z hR hS hl kk
  have h9 : K i < 900 := by rw [hk]; omega
  have hP := (hR.2.1 i h9).2.2
  rw [cellE_ia (q := 1) hk (by omega)] at hP
  refine W.zast C.1 C.2.1 (j := nI j) hP ((C.2.2.2.2.2.2.2.2.1.1.2 1 _ rfl).1 _ _) (fun q => by cases q) (by show ¬ (nI j < 0 ∨ (arrV _ _ _).slots.size ≤ _); rw [arrV_size]; exact hvp) rfl rfl hd fun H1 e1 z1 o1 => ?_
  refine kk H1 _ (hR.upd rfl rfl h9 z1 o1 (fun j' hj' => ⟨fun _ => rfl, fun _ => rfl, fun _ => rfl, u2_row' hj', rfl, rfl⟩) ?_) (hS.put z1 o1 (hR.base h9))
  rw [cellE_ia (q := 1) hk (by omega)]
  show H1[cx_ad X i]? = some (vp_cell _ (_, .inl (u2 A i j v i)))
  have hnv : narrow .boolean (.int v) = .int v := by rcases hv with rfl | rfl <;> rfl
  rw [e1, nI_clamp (by omega), u2_row, hnv]
  exact congrArg some (arrV_st (F := Value.int))
theorem ev_aastN {i j m q : Nat} (hd : decode M.2.1 pc = .ok (.aastore, 1)) (hk : K i = 100 + q) (h2 : 2 ≤ q) (h7 : q < 7) (hm : Ln i = m) (hb : m < 2147483648) (hj : j < m) (k : Ev X M d (pc + 1) L S (K, I, J, R, A, u2 B i j none, Ln, n, sl) Q) : Ev X M d pc L (rV none :: iV (nI j) :: rV (some i) :: S) (K, I, J, R, A, B, Ln, n, sl) Q := by
  have hvp : vp_in (nI j) (Ln i) := by rw [hm]; exact vp_in_nI hj hb
  refine Ev.wr (G1 := (K, I, J, R, A, u2 B i j none, Ln, n, sl)) rfl rfl ?_ k
  intro p e R s m args below meth c C H locs cells slots ls Z hR hS hl kk
  have h9 : K i < 900 := by rw [hk]; omega
  have hP := (hR.2.1 i h9).2.2
  rw [cellE_ra (q := q) hk h2] at hP
  refine va_WaastN C.1 C.2.1 (j := nI j) hP ((C.2.2.2.2.2.2.2.2.1.1.2 q _ (cx_ty_at q h2 h7)).1 _ _) (fun q => by cases q) (by show ¬ (nI j < 0 ∨ (arrV _ _ _).slots.size ≤ _); rw [arrV_size]; exact hvp) rfl rfl hd fun H1 e1 z1 o1 => ?_
  refine kk H1 _ (hR.upd rfl rfl h9 z1 o1 (fun j' hj' => ⟨fun _ => rfl, fun _ => rfl, fun _ => rfl, rfl, u2_row' hj', rfl⟩) ?_) (hS.put z1 o1 (hR.base h9))
  rw [cellE_ra (q := q) hk h2]
  show H1[cx_ad X i]? = some (vp_cell _ (_, .inr (.inr (.inr (.inr (fun j' => (u2 B i j none i j').map (cx_ad X)))))))
  rw [e1, nI_clamp (by omega), u2_row]
  exact congrArg some (arrV_st (F := fun z : Option Nat => va_rf (z.map (cx_ad X))) (x := none))
theorem ev_aast {i j m q v cv : Nat} (hd : decode M.2.1 pc = .ok (.aastore, 1)) (hk : K i = 100 + q) (h2 : 2 ≤ q) (h7 : q < 7) (hm : Ln i = m) (hb : m < 2147483648) (hj : j < m) (hv : K v = cv) (hcv : cv < 11) (hq : gRn cv = acn q ∨ (cv = 5 ∧ q = 6)) (k : Ev X M d (pc + 1) L S (K, I, J, R, A, u2 B i j (some v), Ln, n, sl) Q) : Ev X M d pc L (rV (some v) :: iV (nI j) :: rV (some i) :: S) (K, I, J, R, A, B, Ln, n, sl) Q := by
  have hvp : vp_in (nI j) (Ln i) := by rw [hm]; exact vp_in_nI hj hb
  refine Ev.wr (G1 := (K, I, J, R, A, u2 B i j (some v), Ln, n, sl)) rfl rfl ?_ k
  intro p e R s m args below meth c C H locs cells slots ls Z hR hS hl kk
  have h9 : K i < 900 := by rw [hk]; omega
  have hP := (hR.2.1 i h9).2.2
  rw [cellE_ra (q := q) hk h2] at hP
  have h9v : K v < 900 := by rw [hv]; omega
  have hPv := (hR.2.1 v h9v).2.2
  rw [cellE_obj hv hcv] at hPv
  obtain ⟨r', hr', cellV, g1, g2, g3, -⟩ := hPv
  have hK := C.2.2.2.2.2.2.2.2.1
  have hcls := (hK.1.1 cv _ (gcl_at cv hcv)).2
  obtain ⟨kA, comp, k1, k2, k3, -⟩ := (hK.1.2 q _ (cx_ty_at q h2 h7)).2
  obtain ⟨kC, hkC, -⟩ := hcls.2
  have hasg : s.vm.assignable (X.2.1.1 cv) comp = true := by
    rcases hq with hq | ⟨rfl, rfl⟩
    · rw [← hq] at k3
      have hcomp : comp = X.2.1.1 cv := Option.some.inj (k3.symm.trans hcls.1)
      rw [hcomp]
      exact va_assign hcls
    · exact vb_asgC hK.2.2.2.1 comp _ k3 hcls.1
  obtain ⟨kE, hkE, -⟩ := Vm.findClass_spec k3
  refine W.aast C.1 C.2.1 (j := nI j) hP (fun q h => by cases h) (fun h => by cases h) k1 k2 rfl hkE ⟨nI_pos (by omega), by show _ < (arrV _ _ _).slots.size; rw [arrV_size, nI_clamp (by omega)]; show j < Ln i; omega⟩ g1 (fun q h => by rw [g3] at h; cases h) (by rw [g2]; exact hkC) (by rw [g2]; exact hasg) rfl rfl hd fun H1 e1 z1 o1 => ?_
  refine kk H1 _ (hR.upd rfl rfl h9 z1 o1 (fun j' hj' => ⟨fun _ => rfl, fun _ => rfl, fun _ => rfl, rfl, u2_row' hj', rfl⟩) ?_) (hS.put z1 o1 (hR.base h9))
  rw [cellE_ra (q := q) hk h2]
  show H1[cx_ad X i]? = some (vp_cell _ (_, .inr (.inr (.inr (.inr (fun j' => (u2 B i j (some v) i j').map (cx_ad X)))))))
  rw [e1, nI_clamp (by omega), u2_row]
  exact congrArg some (arrV_st (F := fun z : Option Nat => va_rf (z.map (cx_ad X))) (x := some v))
end ARR
end
section
def NewL (own : String) (idx q : Nat) : Prop := Cond.classLink own idx (gRn q) ∈ lw_g ∧ Cond.instantiable (gRn q) (gnf q) ∈ lw_g ∧ Cond.initialized (gRn q) ∈ lw_g ∧ q < 11
theorem acI_in : Cond.arrayClass (newarray.typeOf .int) ∈ lw_g := lw_g_in (t1_in (List.mem_of_getElem? (i := 124) (by decide +kernel))) rfl
theorem acZ_in : Cond.arrayClass (newarray.typeOf .boolean) ∈ lw_g := lw_g_in (t1_in (List.mem_of_getElem? (i := 225) (by decide +kernel))) rfl
section ALLOC
variable {X : CX} {M : MD} {d pc : Nat} {L : List (Option LV)} {S : List LV} {Q : Option LV → GH → Prop} {K : Nat → Nat} {I : Nat → Nat → Int32} {J : Nat → Nat → Int64} {R : Nat → Nat → Option Nat} {A : Nat → Nat → Int32} {B : Nat → Nat → Option Nat} {Ln : Nat → Nat} {n sl : Nat}
theorem Rel.push {H H1 : Heap} {q N : Nat} {Ln1 : Nat → Nat} (hR : Rel X (K, I, J, R, A, B, Ln, n, sl) H) (hz : H1.size = H.size + 1) (ho : ∀ z : Nat, z < H.size → H1[z]? = H[z]?) (hq : q < 900) (hL : ∀ j, j ≠ n → Ln1 j = Ln j) (h1 : va_at X.2.1 gcl (cx_ad X n, cellE X (va_up K n q, I, J, R, A, B, Ln1, n + 1, sl + N) n) H1) : Rel X (va_up K n q, I, J, R, A, B, Ln1, n + 1, sl + N) H1 := by
  obtain ⟨⟨r1, r2⟩, r3, r4⟩ := hR
  refine ⟨⟨?_, ?_⟩, fun j hj => ?_, fun j hj => ?_⟩
  · show n + 1 + cx_b X = H1.size + 3
    have : n + cx_b X = H.size + 3 := r1
    omega
  · show 3 ≤ n + 1
    have : 3 ≤ n := r2
    omega
  · by_cases e : j = n
    · subst e
      exact ⟨r2, Nat.lt_succ_self _, h1⟩
    · have hj' : K j < 900 := by
        have : va_up K n q j < 900 := hj
        rwa [va_up_ne _ _ e] at this
      obtain ⟨a1, a2, a3⟩ := r3 j hj'
      refine ⟨a1, Nat.lt_succ_of_lt a2, ?_⟩
      rw [cellE_same (j := j) (G1 := (va_up K n q, I, J, R, A, B, Ln1, n + 1, sl + N)) (G := (K, I, J, R, A, B, Ln, n, sl)) (va_up_ne _ _ e) ⟨fun _ => rfl, fun _ => rfl, fun _ => rfl, rfl, rfl, hL j e⟩]
      exact a3.kept (ho _ a3.lt)
  · have hj' : n + 1 ≤ j := hj
    have e : j ≠ n := by omega
    exact Fresh.same (G1 := (va_up K n q, I, J, R, A, B, Ln1, n + 1, sl + N)) (G := (K, I, J, R, A, B, Ln, n, sl)) (va_up_ne _ _ e) ⟨fun _ => rfl, fun _ => rfl, fun _ => rfl, rfl, rfl, hL j e⟩ (r4 j (show n ≤ j by omega))
theorem Rel.top {H : Heap} (hR : Rel X (K, I, J, R, A, B, Ln, n, sl) H) : cx_ad X n = H.size := by
  have h1 : n + cx_b X = H.size + 3 := hR.1.1
  have h2 : 3 ≤ n := hR.1.2
  rw [cx_ad3 h2]
  omega
theorem va_S.grow {P : Nat → Prop} {H0 H H1 : Heap} {locs : List Loc} (h : va_S P H0 H locs) (hz : H1.size = H.size + 1) (ho : ∀ z : Nat, z < H.size → H1[z]? = H[z]?) : va_S P H0 H1 locs :=
  ⟨Nat.le_trans h.1 (by omega), fun z h1 h2 => (ho z (Nat.lt_of_lt_of_le h1 h.1)).trans (h.2.1 z h1 h2), h.2.2⟩
theorem gty_def : ∀ q, q < 11 → ∀ k, k < gnf q → (gty q k = .int ∨ gty q k = .boolean ∨ gty q k = .long ∨ (∃ c, gty q k = .object c) ∨ ∃ t, gty q k = .array t) := by
  intro q hq k hk
  have key : ∀ t : FieldType, (match t with | .int => true | .boolean => true | .long => true | .object _ => true | .array _ => true | _ => false) = true → (t = .int ∨ t = .boolean ∨ t = .long ∨ (∃ c, t = .object c) ∨ ∃ t', t = .array t') := by
    intro t h
    cases t <;> simp at h ⊢
  apply key
  have all : ∀ q, q < 11 → ∀ k, k < gnf q → (match gty q k with | .int => true | .boolean => true | .long => true | .object _ => true | .array _ => true | _ => false) = true := by decide +kernel
  exact all q hq k hk
theorem ev_new {idx q : Nat} (hd : decode M.2.1 pc = .ok (.new idx, 3)) (hl : NewL M.1.cls idx q) (k : Ev X M d (pc + 3) L (rV (some n) :: S) (va_up K n q, I, J, R, A, B, Ln, n + 1, sl + gnf q) Q) : Ev X M d pc L S (K, I, J, R, A, B, Ln, n, sl) Q := by
  refine Ev.al (N := gnf q) (G1 := (va_up K n q, I, J, R, A, B, Ln, n + 1, sl + gnf q)) rfl rfl ?_ k
  intro p e R' s m args below meth c C H locs cells slots ls Z hR hS hl' hc1 hc2 kk
  obtain ⟨hx, hb, hr, hml, hown, hts, hlk, hin, hK, -⟩ := C
  obtain ⟨h1, h2, h3, hq⟩ := hl
  have hKn := hK.1.1 q _ (gcl_at q hq)
  refine W.newcK hx hb hown (hts _ h1) (hts _ h2) (hts _ h3) rfl hd hc1 hc2 hKn.2.1 rfl fun H1 kC hkC e1 z1 o1 => ?_
  have hk1 : (va_up K n q) n = q := va_up_self _ _ _
  have hfr := hR.2.2 n (Nat.le_refl _)
  have hRel : Rel X (va_up K n q, I, J, R, A, B, Ln, n + 1, sl + gnf q) H1 := by
    refine hR.push z1 o1 (by omega) (fun _ _ => rfl) ?_
    rw [cellE_obj hk1 hq]
    refine ⟨_, gcl_at q hq, ?_⟩
    have hb2 := (u_born (gty q) hts (gin q hq) hKn hkC e1 (gty_ok q hq))
    rw [hR.top]
    refine hb2.to (fun j hj => ?_)
    show defaultValue (gty q j) = (fvs X (va_up K n q, I, J, R, A, B, Ln, n + 1, sl + gnf q) q n).getD j .null
    rw [List.getD_eq_getElem?_getD, fvs_at hj]
    obtain ⟨f1, f2, f3, -⟩ := hfr
    have g1 : I (64 * q + j) n = 0 := f1 _
    have g2 : J (64 * q + j) n = 0 := f2 _
    have g3 : R (64 * q + j) n = none := f3 _
    rcases gty_def q hq j hj with h | h | h | ⟨_, h⟩ | ⟨_, h⟩ <;> rw [h]
    · show Value.int 0 = Value.int (I (64 * q + j) n)
      rw [g1]
    · show Value.int 0 = Value.int (I (64 * q + j) n)
      rw [g1]
    · show Value.long 0 = Value.long (J (64 * q + j) n)
      rw [g2]
    · show Value.null = va_rf ((R (64 * q + j) n).map (cx_ad X))
      rw [g3]; rfl
    · show Value.null = va_rf ((R (64 * q + j) n).map (cx_ad X))
      rw [g3]; rfl
  have hk := kk H1 hRel (hS.grow z1 o1)
  have et : cx_v X (rV (some n)) = .ref H.size := by
    show Value.ref (cx_ad X n) = _
    rw [hR.top]
  simp only [List.map_cons, et] at hk
  exact hk
theorem ev_newI {j : Nat} (hd : decode M.2.1 pc = .ok (.newarray .int, 2)) (hj : j ≤ 65536) (k : Ev X M d (pc + 2) L (rV (some n) :: S) (va_up K n 100, I, J, R, A, B, va_up Ln n j, n + 1, sl + j) Q) : Ev X M d pc L (iV (nI j) :: S) (K, I, J, R, A, B, Ln, n, sl) Q := by
  refine Ev.al (N := j) (G1 := (va_up K n 100, I, J, R, A, B, va_up Ln n j, n + 1, sl + j)) rfl rfl ?_ k
  intro p e R' s m args below meth c C H locs cells slots ls Z hR hS hl' hc1 hc2 kk
  obtain ⟨hx, hb, hr, hml, hown, hts, hlk, hin, hK, -⟩ := C
  refine va_newaK hx hb (hts _ acI_in) rfl hd rfl (nI_pos (by omega)) (nI_clamp (by omega)) (by show j * 4 ≤ _; omega) hc1 hc2 rfl fun H1 cA e1 z1 o1 hAr hNm => ?_
  have hcA : cA = X.2.2.1 0 := Option.some.inj (hNm.symm.trans (hK.1.2 0 _ rfl).2)
  have hk1 : (va_up K n 100) n = 100 + 0 := va_up_self _ _ _
  obtain ⟨-, -, -, f4, -, -⟩ := hR.2.2 n (Nat.le_refl _)
  have hRel : Rel X (va_up K n 100, I, J, R, A, B, va_up Ln n j, n + 1, sl + j) H1 := by
    refine hR.push z1 o1 (by omega) (fun _ h => va_up_ne _ _ h) ?_
    rw [cellE_ia (q := 0) hk1 (by omega), hR.top]
    show H1[H.size]? = some (arrV _ (va_up Ln n j n) (fun t => .int (A n t)))
    rw [e1, hcA, va_up_self]
    exact congrArg (fun g => some (arrV (X.2.2.1 0) j g)) (funext fun t => by
      have : A n t = 0 := f4 t
      rw [this]; rfl)
  have hk := kk H1 hRel (hS.grow z1 o1)
  have et : cx_v X (rV (some n)) = .ref H.size := by
    show Value.ref (cx_ad X n) = _
    rw [hR.top]
  simp only [List.map_cons, et] at hk
  exact hk
theorem ev_newZ {j : Nat} (hd : decode M.2.1 pc = .ok (.newarray .boolean, 2)) (hj : j ≤ 65536) (k : Ev X M d (pc + 2) L (rV (some n) :: S) (va_up K n 101, I, J, R, A, B, va_up Ln n j, n + 1, sl + j) Q) : Ev X M d pc L (iV (nI j) :: S) (K, I, J, R, A, B, Ln, n, sl) Q := by
  refine Ev.al (N := j) (G1 := (va_up K n 101, I, J, R, A, B, va_up Ln n j, n + 1, sl + j)) rfl rfl ?_ k
  intro p e R' s m args below meth c C H locs cells slots ls Z hR hS hl' hc1 hc2 kk
  obtain ⟨hx, hb, hr, hml, hown, hts, hlk, hin, hK, -⟩ := C
  refine va_newaK hx hb (hts _ acZ_in) rfl hd rfl (nI_pos (by omega)) (nI_clamp (by omega)) (by show j * 1 ≤ _; omega) hc1 hc2 rfl fun H1 cA e1 z1 o1 hAr hNm => ?_
  have hcA : cA = X.2.2.1 1 := Option.some.inj (hNm.symm.trans (hK.1.2 1 _ rfl).2)
  have hk1 : (va_up K n 101) n = 100 + 1 := va_up_self _ _ _
  obtain ⟨-, -, -, f4, -, -⟩ := hR.2.2 n (Nat.le_refl _)
  have hRel : Rel X (va_up K n 101, I, J, R, A, B, va_up Ln n j, n + 1, sl + j) H1 := by
    refine hR.push z1 o1 (by omega) (fun _ h => va_up_ne _ _ h) ?_
    rw [cellE_ia (q := 1) hk1 (by omega), hR.top]
    show H1[H.size]? = some (arrV _ (va_up Ln n j n) (fun t => .int (A n t)))
    rw [e1, hcA, va_up_self]
    exact congrArg (fun g => some (arrV (X.2.2.1 1) j g)) (funext fun t => by
      have : A n t = 0 := f4 t
      rw [this]; rfl)
  have hk := kk H1 hRel (hS.grow z1 o1)
  have et : cx_v X (rV (some n)) = .ref H.size := by
    show Value.ref (cx_ad X n) = _
    rw [hR.top]
  simp only [List.map_cons, et] at hk
  exact hk
theorem AOs.at {U : State} (h : AOs U) : ∀ q, 2 ≤ q → q < 7 → va_AO (acn q) U
  | 2, _, _ => h.1 | 3, _, _ => h.2.1 | 4, _, _ => h.2.2.1 | 5, _, _ => h.2.2.2.1 | 6, _, _ => h.2.2.2.2
  | 0, h, _ => absurd h (by omega) | 1, h, _ => absurd h (by omega) | n + 7, _, h => absurd h (by omega)
theorem ev_newR {j q idx : Nat} (hd : decode M.2.1 pc = .ok (.anewarray idx, 3)) (hl : Cond.classLink M.1.cls idx (acn q) ∈ lw_g) (h2 : 2 ≤ q) (h7 : q < 7) (hj : j ≤ 65536) (k : Ev X M d (pc + 3) L (rV (some n) :: S) (va_up K n (100 + q), I, J, R, A, B, va_up Ln n j, n + 1, sl + j) Q) : Ev X M d pc L (iV (nI j) :: S) (K, I, J, R, A, B, Ln, n, sl) Q := by
  refine Ev.al (N := j) (G1 := (va_up K n (100 + q), I, J, R, A, B, va_up Ln n j, n + 1, sl + j)) rfl rfl ?_ k
  intro p e R' s m args below meth c C H locs cells slots ls Z hR hS hl' hc1 hc2 kk
  obtain ⟨hx, hb, hr, hml, hown, hts, hlk, hin, hK, -⟩ := C
  have hcl : (nI j).toNatClampNeg = j := nI_clamp (by omega)
  refine W.anew hx hb hown (hts _ hl) (va_AO.use (hK.2.2.1.at q h2 h7)) rfl hd rfl (nI_pos (by omega)) (by rw [hcl]; omega) hc1 (by rw [hcl]; exact hc2) fun cA kA comp f1 f2 f3 f4 => ?_
  rw [hcl]
  have hcA : cA = X.2.2.1 q := by
    obtain ⟨_, _, _, _, _, h9⟩ := (hK.1.2 q _ (cx_ty_at q h2 h7)).2
    exact Option.some.inj (f1.symm.trans h9)
  generalize hH1 : H.push ({ cls := cA, slots := Array.replicate j .null, vm := .none } : Cell) = H1
  have z1 : H1.size = H.size + 1 := by rw [← hH1, Array.size_push]
  have e1 : H1[H.size]? = some (arrV cA j (fun _ => .null)) := by rw [← hH1, Array.getElem?_push_size, ← arrV_new]
  have o1 : ∀ z : Nat, z < H.size → H1[z]? = H[z]? := fun z hz => by rw [← hH1, Array.getElem?_push, if_neg (Nat.ne_of_lt hz)]
  have hk1 : (va_up K n (100 + q)) n = 100 + q := va_up_self _ _ _
  obtain ⟨-, -, -, -, f5, -⟩ := hR.2.2 n (Nat.le_refl _)
  have hRel : Rel X (va_up K n (100 + q), I, J, R, A, B, va_up Ln n j, n + 1, sl + j) H1 := by
    refine hR.push z1 o1 (by omega) (fun _ h => va_up_ne _ _ h) ?_
    rw [cellE_ra (q := q) hk1 h2, hR.top]
    show H1[H.size]? = some (arrV _ (va_up Ln n j n) (fun t => va_rf ((B n t).map (cx_ad X))))
    rw [e1, hcA, va_up_self]
    exact congrArg (fun g => some (arrV (X.2.2.1 q) j g)) (funext fun t => by
      have : B n t = none := f5 t
      rw [this]; rfl)
  have hk := kk H1 hRel (hS.grow z1 o1)
  have et : cx_v X (rV (some n)) = .ref H.size := by
    show Value.ref (cx_ad X n) = _
    rw [hR.top]
  simp only [List.map_cons, et] at hk
  exact hk
end ALLOC
end
section
/-- the arguments as they lie in the locals; a long takes two places -/
def entL : List LV → List (Option LV)
  | [] => []
  | .inr (.inl x) :: r => some (lV x) :: none :: entL r
  | v :: r => some v :: entL r
def entP (As : List LV) (nL : Nat) : List (Option LV) := entL As ++ List.replicate (nL - (entL As).length) none
def EvM (X : CX) (M : MD) (d : Nat) (As : List LV) (G : GH) (Q : Option LV → GH → Prop) : Prop := Ev X M d 0 (entP As M.2.2.1) [] G Q
def MOk (M : MD) (n : Nat) : Prop := plainName M.1.cls = true ∧ Cond.code M.1 M.2.1 M.2.2.1 M.2.2.2.1 ∈ lw_g ∧ Cond.initialized M.1.cls ∈ lw_g ∧ (M.1.cls ≠ "java/lang/invoke/MethodHandle" ∧ M.1.cls ≠ "java/lang/invoke/VarHandle" ∧ (parseMethodDescriptor M.1.desc).map (fun d => d.parameters.length) = some n) ∧ M.2.2.1 ≤ 45 ∧ (M.2.2.2.2 = true → M.1.name = "<init>")
def MLk (own : String) (idx : Nat) (y : MethodName) : Prop := Cond.methodLink own idx y ∈ lw_g ∨ ∃ host, Cond.methodLinkNest own idx y host ∈ lw_n
abbrev mws (M : MD) : List Cond := Cond.code M.1 M.2.1 M.2.2.1 M.2.2.2.1 :: lw_g
abbrev mrm (d : Nat) (G G' : GH) : Room := { frames := d, cells := gh_n G' - gh_n G, slots := gh_s G' - gh_s G, locals := 64 * d }
theorem lw_g_good : GoodIn lw_g lw_g := fun w h => ⟨h, good_of_word (List.mem_filter.mp h).2⟩
theorem mws_good {M : MD} {n : Nat} (h : MOk M n) : GoodIn lw_g (mws M) := fun w hw => by
  rcases List.mem_cons.mp hw with rfl | hw
  · exact lw_g_good _ h.2.1
  · exact lw_g_good _ hw
section CALLS
variable {X : CX}
theorem entL_args : ∀ (As : List LV) (k i : Nat) (v : LV), (entL As)[i]? = some (some v) → (k + i, cx_v X v) ∈ lv_args k (As.map (cx_v X))
  | [], _, _, _, h => by simp [entL] at h
  | .inl x :: r, k, i, v, h => by
    cases i with
    | zero =>
      simp [entL] at h
      subst h
      exact List.mem_cons_self
    | succ j =>
      have h' : (entL r)[j]? = some (some v) := by simpa [entL] using h
      have := entL_args r (k + 1) j v h'
      rw [show k + 1 + j = k + (j + 1) by omega] at this
      exact List.mem_cons_of_mem _ this
  | .inr (.inl x) :: r, k, i, v, h => by
    match i, h with
    | 0, h =>
      simp [entL] at h
      subst h
      exact List.mem_cons_self
    | 1, h => simp [entL] at h
    | j + 2, h =>
      have h' : (entL r)[j]? = some (some v) := by simpa [entL] using h
      have := entL_args r (k + 2) j v h'
      rw [show k + 2 + j = k + (j + 2) by omega] at this
      exact List.mem_cons_of_mem _ this
  | .inr (.inr q) :: r, k, i, v, h => by
    cases i with
    | zero =>
      simp [entL] at h
      subst h
      cases q <;> exact List.mem_cons_self
    | succ j =>
      have h' : (entL r)[j]? = some (some v) := by simpa [entL] using h
      have := entL_args r (k + 1) j v h'
      rw [show k + 1 + j = k + (j + 1) by omega] at this
      cases q <;> exact List.mem_cons_of_mem _ this
theorem entL_len : ∀ As : List LV, (lg_sl (As.map (cx_v X))).length = (entL As).length
  | [] => rfl
  | .inl x :: r => by
    have := entL_len r
    simpa [lg_sl, entL, cx_v, Value.category] using this
  | .inr (.inl x) :: r => by
    have := entL_len r
    simpa [lg_sl, entL, cx_v, Value.category] using this
  | .inr (.inr none) :: r => by
    have := entL_len r
    simpa [lg_sl, entL, cx_v, Value.category, va_rf] using this
  | .inr (.inr (some y)) :: r => by
    have := entL_len r
    simpa [lg_sl, entL, cx_v, Value.category, va_rf] using this
theorem entP_ok {As : List LV} {nL : Nat} {ls : Array Slot} (h : lv_has ls nL (lv_args 0 (As.map (cx_v X)))) : lvOK X ls nL (entP As nL) := by
  refine ⟨h.1, h.2.1, fun i v hi => ?_⟩
  unfold entP at hi
  by_cases hl : i < (entL As).length
  · rw [List.getElem?_append_left hl] at hi
    have := entL_args (X := X) As 0 i v hi
    rw [Nat.zero_add] at this
    exact h.2.2 _ this
  · rw [List.getElem?_append_right (by omega)] at hi
    have hm := List.mem_of_getElem? hi
    have := List.eq_of_mem_replicate hm
    cases this
end CALLS
end
section
/-- what a method's run leaves: its answer, the heap, nothing old touched -/
def QcX (X : CX) (r : Option LV) (G' : GH) : Array Value → State → Outcome → State → Prop := fun _ st o t => o = .returned (r.map (cx_v X)) ∧ Rel X G' t.heap ∧ va_F (cx_A X) st t
def PcX (X : CX) (As : List LV) (G : GH) : Array Value → State → Prop := va_Pc (As.map (cx_v X)) (fun U => Rel X G U.heap ∧ StOk X U)
section MET
variable {X : CX} {M : MD} {d n : Nat} {As : List LV} {G G' : GH} {r : Option LV}
theorem met_of (hok : MOk M n) (hlen : (entL As).length ≤ M.2.2.1) (h : Sm X M d 0 (entP As M.2.2.1) [] G r G') : Met X.1 M.1 (mws M) (mrm d G G') (PcX X As G) (QcX X r G') (gh_n G' - gh_n G) (gh_s G' - gh_s G) (cx_A X) := by
  refine Met.ofW (cc := M.2.1) (maxL := M.2.2.1) (ret := M.2.2.2.1) hok.1 rfl ?_
  intro p e s m args below meth c s₁ B hml hv
  obtain ⟨rfl, hR, hK⟩ := hv
  have hts := atoms_spec (ws := mws M) B.pre
  have hC : MCx X M d p (headSpec (mws M) (mrm d G G')).room s m (As.map (cx_v X)).toArray meth c :=
    ⟨B.exec, B.bytes, B.returns, hml, findClass_of_methodNamed B.named, fun w hw => hts w (List.mem_cons_of_mem _ hw), B.notSynchronized, fun hi => (name_of_methodNamed B.named B.method).1.trans (hok.2.2.2.2.2 hi), hK, Nat.le_refl _, Nat.le_refl _⟩
  have hl := lv_entry (As.map (cx_v X)) (n := M.2.2.1) (by rw [entL_len]; exact hlen)
  rw [lg_entry_eq]
  generalize (lg_sl (As.map (cx_v X)) ++ List.replicate (M.2.2.1 - (lg_sl (As.map (cx_v X))).length) Slot.unset).toArray = ls at hl ⊢
  refine h p e _ s m _ below meth c hC s.heap [] 0 0 ls _ hR va_S.rf (entP_ok hl) (by rw [Nat.zero_add]; exact Nat.le_refl _) (by rw [Nat.zero_add]; exact Nat.le_refl _) ?_
  intro H' locs' ls' pc' hR' hS' hret
  rw [Nat.zero_add, Nat.zero_add]
  have hr := B.returns
  have hlocks := B.notSynchronized
  have hq : ∀ t : State, t.heap = H' → s.WarmedH t.vm → QcX X r G' (As.map (cx_v X)).toArray s (.returned (r.map (cx_v X))) t := fun t ht _ => ⟨rfl, by rw [ht]; exact hR', hS'.F ht⟩
  rcases hret with ⟨rfl, ht, hd⟩ | ⟨v, rfl, ht, hd⟩ | ⟨v, rfl, ht, hd⟩ | ⟨v, t, rfl, ht, hrt, hd⟩
  · exact W.vret B.exec B.bytes (hr.trans ht) hq hS'.2.2 hd
  · rcases ht with ht | ⟨ht, hv⟩
    · exact W.iret B.exec B.bytes (hr.trans ht) hq hS'.2.2 hd
    · exact W.zret B.exec B.bytes (hr.trans ht) (by rcases hv with rfl | rfl <;> rfl) hq hS'.2.2 hd
  · exact W.lret B.exec B.bytes (hr.trans ht) hq hS'.2.2 hd
  · exact W.aret B.exec B.bytes (hr.trans ht) hrt (by cases v with | none => exact Or.inl rfl | some y => exact Or.inr ⟨_, rfl⟩) hq hS'.2.2 hd
theorem PcX.blind : FrameBlind (PcX X As G) := fun a U g mk q => ⟨q.1, q.2.1, StOk.moved (s := U) (U := U.calling g mk a) (locs := []) (State.WarmedH.refl U) va_S.rf q.2.2⟩
end MET
end
section
def catS (X : CX) (S : List LV) : Nat := (S.map (fun v => (cx_v X v).category)).sum
section CALL
variable {X : CX} {M M' : MD} {d pc n : Nat} {L : List (Option LV)} {S S0 As : List LV} {G G1 : GH} {r : Option LV} {Q Q1 : Option LV → GH → Prop}
theorem Ev.call (h1 : gh_n G ≤ gh_n G1) (h2 : gh_s G ≤ gh_s G1) (hrun : ∀ (p : Program) (e : Env) (R : Room) (s : State) (m : MethodId) (args : Array Value) (below : List Frame) (meth : Method) (c : Code), MCx X M (d + 1) p R s m args meth c →
    ∀ (H : Heap) (locs : List Loc) (cells slots : Nat) (ls : Array Slot), Rel X G H → va_S (cx_A X) s.heap H locs → lvOK X ls M.2.2.1 L → cells + (gh_n G1 - gh_n G) ≤ R.cells → slots + (gh_s G1 - gh_s G) ≤ R.slots →
      ∃ a : Array Value, va_Run p X.1 e R s m args below meth c H locs cells slots (gh_n G1 - gh_n G) (gh_s G1 - gh_s G) (F0 m pc ls (S0.map (cx_v X))) (S.map (cx_v X)) (QcX X r G1 a) (cx_A X))
    (k : Ev X M (d + 1) (pc + 3) L (r.toList ++ S) G1 Q) : Ev X M (d + 1) pc L S0 G Q := by
  obtain ⟨r', G', k1, k2, k3, k4⟩ := k
  refine ⟨r', G', Nat.le_trans h1 k1, Nat.le_trans h2 k2, ?_, k4⟩
  intro p e R s m args below meth c C H locs cells slots ls Z hR hS hl hc hs kk
  have e1 : gh_n G' - gh_n G = (gh_n G1 - gh_n G) + (gh_n G' - gh_n G1) := by omega
  have e2 : gh_s G' - gh_s G = (gh_s G1 - gh_s G) + (gh_s G' - gh_s G1) := by omega
  rw [e1, ← Nat.add_assoc] at hc kk
  rw [e2, ← Nat.add_assoc] at hs kk
  obtain ⟨a, hr⟩ := hrun p e R s m args below meth c C H locs cells slots ls hR hS hl (by omega) (by omega)
  intro T hT hX
  obtain ⟨v, st₀, t, T', L', h0, X', hL, f1, f2, ⟨hv, hR1, hF⟩, st⟩ := hr T hT hX
  have hv : v = r.map (cx_v X) := Outcome.returned.inj hv
  subst hv
  obtain ⟨hz, hk⟩ := hF
  rw [h0] at hz hk
  have hS1 : va_S (cx_A X) s.heap T'.heap (locs ++ L') := ⟨Nat.le_trans hS.1 (by rw [f1]; exact hz), fun q g1 g2 => by rw [f1, hk q (Nat.lt_of_lt_of_le g1 hS.1) g2]; exact hS.2.1 q g1 g2, fun q hq => by
    rcases List.mem_append.mp hq with h | h
    · exact hS.2.2 q h
    · exact hL q h⟩
  have hR1' : Rel X G1 T'.heap := by rw [f1]; exact hR1
  obtain ⟨t2, a1, b1⟩ := k3 p e R s m args below meth c C T'.heap (locs ++ L') _ _ ls Z hR1' hS1 hl hc hs kk T' rfl X'
  refine ⟨t2, st t2 ?_, b1⟩
  have es : (r.toList ++ S).map (cx_v X) = (r.map (cx_v X)).toList ++ S.map (cx_v X) := by cases r <;> simp
  rw [es] at a1
  exact a1
theorem lv_room' {m : MethodId} {ls : Array Slot} {st : List Value} (hW : catS X S ≤ 8) : 2 * (F0 m pc ls st).monitorRoom + ((S.map (cx_v X)).map fun v => v.category).sum ≤ 8 := by
  have e : ((S.map (cx_v X)).map fun v => v.category).sum = catS X S := by unfold catS; rw [List.map_map]; rfl
  exact lv_room (by rw [e]; exact hW)
theorem ev_callS {idx : Nat} (hd : decode M.2.1 pc = .ok (.invokestatic idx, 3)) (hok : MOk M' n) (hst : Cond.static M'.1 ∈ lw_g) (hl : MLk M.1.cls idx M'.1) (As : List LV) (hs : S0 = As.reverse ++ S) (hn : As.length = n) (hlen : (entL As).length ≤ M'.2.2.1) (hW : catS X S ≤ 8)
    (h : EvM X M' d As G Q1) (k : ∀ r G1, Q1 r G1 → Ev X M (d + 1) (pc + 3) L (r.toList ++ S) G1 Q) : Ev X M (d + 1) pc L S0 G Q := by
  obtain ⟨r, G1, h1, h2, h3, h4⟩ := h
  refine Ev.call h1 h2 ?_ (k r G1 h4)
  intro p e R s m args below meth c C H locs cells slots ls hR hS hlv hc1 hc2
  obtain ⟨hx, hb, hr, hml, hown, hts, hlk, hin, hK, hfr, hlo⟩ := C
  have hM := met_of (n := n) hok hlen h3
  have hp : PreS s H (PcX X As G) (As.map (cx_v X)) := ⟨PcX.blind, fun U hU hW' => ⟨rfl, by rw [hU]; exact hR, StOk.moved hW' (by rw [hU]; exact hS) hK⟩⟩
  have hstk : (S0.map (cx_v X)) = (As.map (cx_v X)).reverse ++ S.map (cx_v X) := by rw [hs, List.map_append, List.map_reverse]
  have hRm : d + 1 ≤ R.frames ∧ 8 + (M'.2.2.1 + 11) + 64 * d ≤ R.locals := ⟨hfr, by have := hok.2.2.2.2.1; omega⟩
  refine ⟨(As.map (cx_v X)).toArray, ?_⟩
  rcases hl with hl | ⟨host, hl⟩
  · exact va_runS (As := As.map (cx_v X)) ⟨hx, hb, hml, hown, hts⟩ hM ⟨callB_of n hts (mws_good hok) rfl rfl rfl (hts _ hok.2.2.1) (hts _ hl) hok.2.2.2.1 hRm, hts _ hst⟩ hp rfl (by rw [List.length_map]; exact hn) hlv.1 hstk (lv_room' hW) hd ⟨hc1, hc2⟩
  · exact va_runSN (As := As.map (cx_v X)) ⟨hx, hb, hml, hown, hts⟩ hM ⟨va_cnB n hts (mws_good hok) rfl rfl rfl (hK.2.1 _ hl) (hts _ hok.2.2.1) hok.2.2.2.1 hRm, hts _ hst, trivial⟩ hp rfl (by rw [List.length_map]; exact hn) hlv.1 hstk (lv_room' hW) hd ⟨hc1, hc2⟩
theorem ev_callV {idx i q : Nat} (hd : decode M.2.1 pc = .ok (.invokevirtual idx, 3)) (hok : MOk M' n) (hins : Cond.instanceMethod M'.1 ∈ lw_g) (hsel : Cond.selects M'.1.cls M'.1 M'.1 ∈ lw_g) (hl : MLk M.1.cls idx M'.1) (hk : G.1 i = q) (hq : q < 11) (hcl : gRn q = M'.1.cls) (As : List LV) (hs : S0 = As.reverse ++ rV (some i) :: S) (hn : As.length = n) (hlen : (entL (rV (some i) :: As)).length ≤ M'.2.2.1) (hW : catS X S ≤ 8)
    (h : EvM X M' d (rV (some i) :: As) G Q1) (k : ∀ r G1, Q1 r G1 → Ev X M (d + 1) (pc + 3) L (r.toList ++ S) G1 Q) : Ev X M (d + 1) pc L S0 G Q := by
  obtain ⟨r, G1, h1, h2, h3, h4⟩ := h
  refine Ev.call h1 h2 ?_ (k r G1 h4)
  intro p e R s m args below meth c C H locs cells slots ls hR hS hlv hc1 hc2
  obtain ⟨hx, hb, hr, hml, hown, hts, hlk, hin, hK, hfr, hlo⟩ := C
  have hM := met_of (n := n) hok hlen h3
  have hP := hR.P (i := i) (by rw [hk]; omega)
  rw [cellE_obj hk hq] at hP
  have hrec := va_recv hK.1 hP (gcl_at q hq) (q0 := 0) rfl
  rw [hcl] at hrec
  have hp : PreV s H M'.1.cls (cx_ad X i) (PcX X (rV (some i) :: As) G) (As.map (cx_v X)) := ⟨PcX.blind, hrec, fun U hU hW' => ⟨rfl, by rw [hU]; exact hR, StOk.moved hW' (by rw [hU]; exact hS) hK⟩⟩
  have hstk : (S0.map (cx_v X)) = (As.map (cx_v X)).reverse ++ .ref (cx_ad X i) :: S.map (cx_v X) := by rw [hs, List.map_append, List.map_reverse]; rfl
  have hRm : d + 1 ≤ R.frames ∧ 8 + (M'.2.2.1 + 11) + 64 * d ≤ R.locals := ⟨hfr, by have := hok.2.2.2.2.1; omega⟩
  refine ⟨(Value.ref (cx_ad X i) :: As.map (cx_v X)).toArray, ?_⟩
  rcases hl with hl | ⟨host, hl⟩
  · exact va_runV (As := As.map (cx_v X)) ⟨hx, hb, hml, hown, hts⟩ hM ⟨callB_of n hts (mws_good hok) rfl rfl rfl (hts _ hok.2.2.1) (hts _ hl) hok.2.2.2.1 hRm, hts _ hins, hts _ hsel⟩ hp rfl (by rw [List.length_map]; exact hn) hlv.1 hstk (lv_room' hW) hd ⟨hc1, hc2⟩
  · exact va_runVN (As := As.map (cx_v X)) ⟨hx, hb, hml, hown, hts⟩ hM ⟨va_cnB n hts (mws_good hok) rfl rfl rfl (hK.2.1 _ hl) (hts _ hok.2.2.1) hok.2.2.2.1 hRm, hts _ hins, hts _ hsel⟩ hp rfl (by rw [List.length_map]; exact hn) hlv.1 hstk (lv_room' hW) hd ⟨hc1, hc2⟩
theorem ev_callI {idx i : Nat} (hd : decode M.2.1 pc = .ok (.invokespecial idx, 3)) (hok : MOk M' n) (hins : Cond.instanceMethod M'.1 ∈ lw_g) (hnm : M'.1.name = "<init>") (hret : M'.2.2.2.1 = none) (hl : MLk M.1.cls idx M'.1) (As : List LV) (hs : S0 = As.reverse ++ rV (some i) :: S) (hn : As.length = n) (hlen : (entL (rV (some i) :: As)).length ≤ M'.2.2.1) (hW : catS X S ≤ 8)
    (h : EvM X M' d (rV (some i) :: As) G Q1) (k : ∀ r G1, Q1 r G1 → Ev X M (d + 1) (pc + 3) L (r.toList ++ S) G1 Q) : Ev X M (d + 1) pc L S0 G Q := by
  obtain ⟨r, G1, h1, h2, h3, h4⟩ := h
  refine Ev.call h1 h2 ?_ (k r G1 h4)
  intro p e R s m args below meth c C H locs cells slots ls hR hS hlv hc1 hc2
  obtain ⟨hx, hb, hr, hml, hown, hts, hlk, hin, hK, hfr, hlo⟩ := C
  have hM := met_of (n := n) hok hlen h3
  have hgd := mws_good hok
  have hp : PreS s H (PcX X (rV (some i) :: As) G) (.ref (cx_ad X i) :: As.map (cx_v X)) := ⟨PcX.blind, fun U hU hW' => ⟨rfl, by rw [hU]; exact hR, StOk.moved hW' (by rw [hU]; exact hS) hK⟩⟩
  have hstk : (S0.map (cx_v X)) = (As.map (cx_v X)).reverse ++ .ref (cx_ad X i) :: S.map (cx_v X) := by rw [hs, List.map_append, List.map_reverse]; rfl
  have hRm : d + 1 ≤ R.frames ∧ 8 + (M'.2.2.1 + 11) + 64 * d ≤ R.locals := ⟨hfr, by have := hok.2.2.2.2.1; omega⟩
  refine ⟨(Value.ref (cx_ad X i) :: As.map (cx_v X)).toArray, ?_⟩
  have hw : mws M' = Cond.code M'.1 M'.2.1 M'.2.2.1 none :: lw_g := by rw [← hret]
  rcases hl with hl | ⟨host, hl⟩
  · exact va_runI (As := As.map (cx_v X)) ⟨hx, hb, hml, hown, hts⟩ hM ⟨callB_of n hts hgd hw rfl rfl (hts _ hok.2.2.1) (hts _ hl) hok.2.2.2.1 hRm, hnm, hts _ hins⟩ hp rfl (by rw [List.length_map]; exact hn) hlv.1 hstk (lv_room' hW) hd ⟨hc1, hc2⟩
  · exact va_runIN (As := As.map (cx_v X)) ⟨hx, hb, hml, hown, hts⟩ hM ⟨va_cnB n hts hgd hw rfl rfl (hK.2.1 _ hl) (hts _ hok.2.2.1) hok.2.2.2.1 hRm, hnm, hts _ hins⟩ hp rfl (by rw [List.length_map]; exact hn) hlv.1 hstk (lv_room' hW) hd ⟨hc1, hc2⟩
end CALL
end
section
section MISC
variable {X : CX} {M : MD} {d pc : Nat} {L : List (Option LV)} {S : List LV} {G : GH} {Q : Option LV → GH → Prop}
theorem ev_objInit {idx i : Nat} (hd : decode M.2.1 pc = .ok (.invokespecial idx, 3)) (hl : Cond.methodLink M.1.cls idx objectInit ∈ lw_g) (h1 : Cond.instanceMethod objectInit ∈ lw_g) (h2 : Cond.code objectInit ⟨#[0xb1]⟩ 1 none ∈ lw_g) (hW : catS X S ≤ 8) (k : Ev X M (d + 1) (pc + 3) L S G Q) : Ev X M (d + 1) pc L (rV (some i) :: S) G Q := by
  refine Ev.ps ?_ k
  intro p e R s m args below meth c C H locs cells slots ls Z hS hl' kk
  obtain ⟨hx, hb, hr, hml, hown, hts, hlk, hin, hK, hfr, hlo⟩ := C
  refine W.objInit hx hb hown (hts _ hl) (hts _ h1) (hts _ h2) rfl (by rw [hml]; exact hl'.1) rfl hd (by omega) ?_ (kk ls hl')
  have := lv_room' (m := m) (pc := pc) (ls := ls) (st := []) hW
  have e0 : (F0 m pc ls ((rV (some i) :: S).map (cx_v X))).monitorRoom = (F0 m pc ls []).monitorRoom := rfl
  rw [e0]
  omega
theorem ev_castN {idx : Nat} (hd : decode M.2.1 pc = .ok (.checkcast idx, 3)) (k : Ev X M d (pc + 3) L (rV none :: S) G Q) : Ev X M d pc L (rV none :: S) G Q :=
  k.ps (fun _ _ _ _ _ _ _ _ _ C _ _ _ _ ls _ hS hl kk => lv_castN C.1 C.2.1 hd (kk ls hl))
theorem ev_cast {idx i q : Nat} (hd : decode M.2.1 pc = .ok (.checkcast idx, 3)) (hl : Cond.classLink M.1.cls idx (gRn q) ∈ lw_g) (hq : q < 11) (hk : G.1 i = q) (k : Ev X M d (pc + 3) L (rV (some i) :: S) G Q) : Ev X M d pc L (rV (some i) :: S) G Q := by
  refine Ev.rd ?_ k
  intro p e R s m args below meth c C H locs cells slots ls Z hR hS hl' kk
  obtain ⟨hx, hb, hr, hml, hown, hts, hlk, hin, hK, -⟩ := C
  have hP := hR.P (i := i) (by rw [hk]; omega)
  rw [cellE_obj hk hq] at hP
  exact va_castS hx hb hown (hts _ hl) (hK.1.1 q _ (gcl_at q hq)).2 (va_recv hK.1 hP (gcl_at q hq) (q0 := 0) rfl) hd kk
theorem ev_getE {idx : Nat} (hd : decode M.2.1 pc = .ok (.getstatic idx, 3)) (hl : Cond.fieldLink M.1.cls idx alE.1 alE.2.1 alE.2.2 ∈ lw_g) (k : Ev X M d (pc + 3) L (rV (some 0) :: S) G Q) : Ev X M d pc L S G Q :=
  k.ps (fun _ _ _ _ _ _ _ _ _ C _ _ _ _ ls _ hS hl' kk => va_gets C.1 C.2.1 C.2.2.2.2.2.2.2.2.1.2.2.2.2.1.1 hS C.2.2.2.2.1 (C.2.2.2.2.2.1 _ hl) (fun _ h => h) hd (kk ls hl'))
theorem ev_alenE (hd : decode M.2.1 pc = .ok (.arraylength, 1)) (k : Ev X M d (pc + 1) L (iV (nI 0) :: S) G Q) : Ev X M d pc L (rV (some 0) :: S) G Q :=
  k.ps (fun _ _ _ _ _ _ _ _ _ C _ _ _ _ ls _ hS hl' kk => va_tlen C.1 C.2.1 C.2.2.2.2.2.2.2.2.1.2.2.2.2.1.2.1 hS rfl hd (kk ls hl'))
theorem ev_slen (hd : decode M.2.1 pc = .ok (.arraylength, 1)) (k : Ev X M d (pc + 1) L (iV (nI X.2.2.2.2.1) :: S) G Q) : Ev X M d pc L (rV (some 2) :: S) G Q :=
  k.ps (fun _ _ _ _ _ _ _ _ _ C _ _ _ _ ls _ hS hl' kk => by
    obtain ⟨-, -, -, -, e5, e6⟩ := C.2.2.2.2.2.2.2.2.1.2.2.2.2.1
    exact va_slen C.1 C.2.1 e5 (Nat.lt_of_lt_of_le e6 C.2.2.2.2.2.2.2.2.1.2.2.2.2.2) (Nat.not_le.mpr e6) hS hd (kk ls hl'))
theorem ev_sld {j : Nat} (hd : decode M.2.1 pc = .ok (.iaload, 1)) (hj : j < X.2.2.2.2.1) (hb : X.2.2.2.2.1 < 2147483648) (k : Ev X M d (pc + 1) L (iV (X.2.2.2.2.2 j) :: S) G Q) : Ev X M d pc L (iV (nI j) :: rV (some 2) :: S) G Q :=
  k.ps (fun _ _ _ _ _ _ _ _ _ C _ _ _ _ ls _ hS hl' kk => by
    obtain ⟨-, -, -, -, e5, e6⟩ := C.2.2.2.2.2.2.2.2.1.2.2.2.2.1
    refine va_sld C.1 C.2.1 e5 (Nat.lt_of_lt_of_le e6 C.2.2.2.2.2.2.2.2.1.2.2.2.2.2) (Nat.not_le.mpr e6) hS (vp_in_nI hj hb) hd ?_
    rw [nI_clamp (by omega)]
    exact kk ls hl')
end MISC
end
section
theorem sels_in {w : Cond} (h : w ∈ k2_sels lw_privs) : w ∈ lw_tbl := List.mem_append_left _ h
def mX8_init : MD := (yX8_init, cX8_init, 1, none, true)
theorem okX8_init : MOk mX8_init 0 := ⟨by decide +kernel, lw_g_in (t1_in (List.mem_of_getElem? (i := 24) rfl)) rfl, lw_g_in (t1_in (List.mem_of_getElem? (i := 1) rfl)) rfl, ⟨by decide +kernel, by decide +kernel, by decide +kernel⟩, by decide +kernel, fun _ => rfl⟩
theorem inX8_init : Cond.instanceMethod mX8_init.1 ∈ lw_g := lw_g_in (t1_in (List.mem_of_getElem? (i := 23) rfl)) rfl
def mX6_init : MD := (yX6_init, cX6_init, 1, none, true)
theorem okX6_init : MOk mX6_init 0 := ⟨by decide +kernel, lw_g_in (t1_in (List.mem_of_getElem? (i := 36) rfl)) rfl, lw_g_in (t1_in (List.mem_of_getElem? (i := 2) rfl)) rfl, ⟨by decide +kernel, by decide +kernel, by decide +kernel⟩, by decide +kernel, fun _ => rfl⟩
theorem inX6_init : Cond.instanceMethod mX6_init.1 ∈ lw_g := lw_g_in (t1_in (List.mem_of_getElem? (i := 35) rfl)) rfl
def mJx4a65c_init_da8c8 : MD := (yJx4a65c_init_da8c8, cJx4a65c_init_da8c8, 1, none, true)
theorem okJx4a65c_init_da8c8 : MOk mJx4a65c_init_da8c8 0 := ⟨by decide +kernel, lw_g_in (t1_in (List.mem_of_getElem? (i := 44) rfl)) rfl, lw_g_in (t1_in (List.mem_of_getElem? (i := 5) rfl)) rfl, ⟨by decide +kernel, by decide +kernel, by decide +kernel⟩, by decide +kernel, fun _ => rfl⟩
theorem inJx4a65c_init_da8c8 : Cond.instanceMethod mJx4a65c_init_da8c8.1 ∈ lw_g := lw_g_in (t1_in (List.mem_of_getElem? (i := 43) rfl)) rfl
def mJxc12de_init_da8c8 : MD := (yJxc12de_init_da8c8, cJxc12de_init_da8c8, 1, none, true)
theorem okJxc12de_init_da8c8 : MOk mJxc12de_init_da8c8 0 := ⟨by decide +kernel, lw_g_in (t1_in (List.mem_of_getElem? (i := 47) rfl)) rfl, lw_g_in (t1_in (List.mem_of_getElem? (i := 4) rfl)) rfl, ⟨by decide +kernel, by decide +kernel, by decide +kernel⟩, by decide +kernel, fun _ => rfl⟩
theorem inJxc12de_init_da8c8 : Cond.instanceMethod mJxc12de_init_da8c8.1 ∈ lw_g := lw_g_in (t1_in (List.mem_of_getElem? (i := 46) rfl)) rfl
def mJxa1e45_init_da8c8 : MD := (yJxa1e45_init_da8c8, cJxa1e45_init_da8c8, 1, none, true)
theorem okJxa1e45_init_da8c8 : MOk mJxa1e45_init_da8c8 0 := ⟨by decide +kernel, lw_g_in (t1_in (List.mem_of_getElem? (i := 50) rfl)) rfl, lw_g_in (t1_in (List.mem_of_getElem? (i := 3) rfl)) rfl, ⟨by decide +kernel, by decide +kernel, by decide +kernel⟩, by decide +kernel, fun _ => rfl⟩
theorem inJxa1e45_init_da8c8 : Cond.instanceMethod mJxa1e45_init_da8c8.1 ∈ lw_g := lw_g_in (t1_in (List.mem_of_getElem? (i := 49) rfl)) rfl
def mX8_say : MD := (yX8_say, cX8_say, 7, (some .boolean), false)
theorem okX8_say : MOk mX8_say 2 := ⟨by decide +kernel, lw_g_in (t1_in (List.mem_of_getElem? (i := 128) rfl)) rfl, lw_g_in (t1_in (List.mem_of_getElem? (i := 1) rfl)) rfl, ⟨by decide +kernel, by decide +kernel, by decide +kernel⟩, by decide +kernel, fun h => absurd h (by decide)⟩
theorem inX8_say : Cond.instanceMethod mX8_say.1 ∈ lw_g := lw_g_in (t1_in (List.mem_of_getElem? (i := 126) rfl)) rfl
theorem seX8_say : Cond.selects mX8_say.1.cls mX8_say.1 mX8_say.1 ∈ lw_g := lw_g_in (t1_in (List.mem_of_getElem? (i := 127) rfl)) rfl
def mX8_isName : MD := (yX8_isName, cX8_isName, 4, (some .boolean), false)
theorem okX8_isName : MOk mX8_isName 1 := ⟨by decide +kernel, lw_g_in (t1_in (List.mem_of_getElem? (i := 131) rfl)) rfl, lw_g_in (t1_in (List.mem_of_getElem? (i := 1) rfl)) rfl, ⟨by decide +kernel, by decide +kernel, by decide +kernel⟩, by decide +kernel, fun h => absurd h (by decide)⟩
theorem stX8_isName : Cond.static mX8_isName.1 ∈ lw_g := lw_g_in (t1_in (List.mem_of_getElem? (i := 130) rfl)) rfl
def mX8_partsOf : MD := (yX8_partsOf, cX8_partsOf, 1, (some .int), false)
theorem okX8_partsOf : MOk mX8_partsOf 1 := ⟨by decide +kernel, lw_g_in (t1_in (List.mem_of_getElem? (i := 134) rfl)) rfl, lw_g_in (t1_in (List.mem_of_getElem? (i := 1) rfl)) rfl, ⟨by decide +kernel, by decide +kernel, by decide +kernel⟩, by decide +kernel, fun h => absurd h (by decide)⟩
theorem stX8_partsOf : Cond.static mX8_partsOf.1 ∈ lw_g := lw_g_in (t1_in (List.mem_of_getElem? (i := 133) rfl)) rfl
def mX8_fits : MD := (yX8_fits, cX8_fits, 2, (some .boolean), false)
theorem okX8_fits : MOk mX8_fits 2 := ⟨by decide +kernel, lw_g_in (t1_in (List.mem_of_getElem? (i := 137) rfl)) rfl, lw_g_in (t1_in (List.mem_of_getElem? (i := 1) rfl)) rfl, ⟨by decide +kernel, by decide +kernel, by decide +kernel⟩, by decide +kernel, fun h => absurd h (by decide)⟩
theorem stX8_fits : Cond.static mX8_fits.1 ∈ lw_g := lw_g_in (t1_in (List.mem_of_getElem? (i := 136) rfl)) rfl
def mX1_isBool : MD := (yX1_isBool, cX1_isBool, 1, (some .boolean), false)
theorem okX1_isBool : MOk mX1_isBool 0 := ⟨by decide +kernel, lw_g_in (t1_in (List.mem_of_getElem? (i := 142) rfl)) rfl, lw_g_in (t1_in (List.mem_of_getElem? (i := 7) rfl)) rfl, ⟨by decide +kernel, by decide +kernel, by decide +kernel⟩, by decide +kernel, fun h => absurd h (by decide)⟩
theorem inX1_isBool : Cond.instanceMethod mX1_isBool.1 ∈ lw_g := lw_g_in (t1_in (List.mem_of_getElem? (i := 140) rfl)) rfl
theorem seX1_isBool : Cond.selects mX1_isBool.1.cls mX1_isBool.1 mX1_isBool.1 ∈ lw_g := lw_g_in (sels_in (List.mem_of_getElem? (i := 0) rfl)) rfl
def mX8_takesBools : MD := (yX8_takesBools, cX8_takesBools, 1, (some .boolean), false)
theorem okX8_takesBools : MOk mX8_takesBools 1 := ⟨by decide +kernel, lw_g_in (t1_in (List.mem_of_getElem? (i := 145) rfl)) rfl, lw_g_in (t1_in (List.mem_of_getElem? (i := 1) rfl)) rfl, ⟨by decide +kernel, by decide +kernel, by decide +kernel⟩, by decide +kernel, fun h => absurd h (by decide)⟩
theorem stX8_takesBools : Cond.static mX8_takesBools.1 ∈ lw_g := lw_g_in (t1_in (List.mem_of_getElem? (i := 144) rfl)) rfl
def mX1_nodesOf : MD := (yX1_nodesOf, cX1_nodesOf, 1, (some .int), false)
theorem okX1_nodesOf : MOk mX1_nodesOf 1 := ⟨by decide +kernel, lw_g_in (t1_in (List.mem_of_getElem? (i := 148) rfl)) rfl, lw_g_in (t1_in (List.mem_of_getElem? (i := 7) rfl)) rfl, ⟨by decide +kernel, by decide +kernel, by decide +kernel⟩, by decide +kernel, fun h => absurd h (by decide)⟩
theorem stX1_nodesOf : Cond.static mX1_nodesOf.1 ∈ lw_g := lw_g_in (t1_in (List.mem_of_getElem? (i := 147) rfl)) rfl
def mX8_countsN : MD := (yX8_countsN, cX8_countsN, 1, (some .boolean), false)
theorem okX8_countsN : MOk mX8_countsN 1 := ⟨by decide +kernel, lw_g_in (t1_in (List.mem_of_getElem? (i := 151) rfl)) rfl, lw_g_in (t1_in (List.mem_of_getElem? (i := 1) rfl)) rfl, ⟨by decide +kernel, by decide +kernel, by decide +kernel⟩, by decide +kernel, fun h => absurd h (by decide)⟩
theorem stX8_countsN : Cond.static mX8_countsN.1 ∈ lw_g := lw_g_in (t1_in (List.mem_of_getElem? (i := 150) rfl)) rfl
def mX1_init : MD := (yX1_init, cX1_init, 5, none, true)
theorem okX1_init : MOk mX1_init 4 := ⟨by decide +kernel, lw_g_in (t1_in (List.mem_of_getElem? (i := 154) rfl)) rfl, lw_g_in (t1_in (List.mem_of_getElem? (i := 7) rfl)) rfl, ⟨by decide +kernel, by decide +kernel, by decide +kernel⟩, by decide +kernel, fun _ => rfl⟩
theorem inX1_init : Cond.instanceMethod mX1_init.1 ∈ lw_g := lw_g_in (t1_in (List.mem_of_getElem? (i := 153) rfl)) rfl
def mX8_index : MD := (yX8_index, cX8_index, 2, (some .int), false)
theorem okX8_index : MOk mX8_index 0 := ⟨by decide +kernel, lw_g_in (t1_in (List.mem_of_getElem? (i := 180) rfl)) rfl, lw_g_in (t1_in (List.mem_of_getElem? (i := 1) rfl)) rfl, ⟨by decide +kernel, by decide +kernel, by decide +kernel⟩, by decide +kernel, fun h => absurd h (by decide)⟩
theorem inX8_index : Cond.instanceMethod mX8_index.1 ∈ lw_g := lw_g_in (t1_in (List.mem_of_getElem? (i := 178) rfl)) rfl
theorem seX8_index : Cond.selects mX8_index.1.cls mX8_index.1 mX8_index.1 ∈ lw_g := lw_g_in (t1_in (List.mem_of_getElem? (i := 179) rfl)) rfl
def mX8_topOfPile : MD := (yX8_topOfPile, cX8_topOfPile, 1, (some (.object "VersionedRows$Expression")), false)
theorem okX8_topOfPile : MOk mX8_topOfPile 0 := ⟨by decide +kernel, lw_g_in (t1_in (List.mem_of_getElem? (i := 184) rfl)) rfl, lw_g_in (t1_in (List.mem_of_getElem? (i := 1) rfl)) rfl, ⟨by decide +kernel, by decide +kernel, by decide +kernel⟩, by decide +kernel, fun h => absurd h (by decide)⟩
theorem inX8_topOfPile : Cond.instanceMethod mX8_topOfPile.1 ∈ lw_g := lw_g_in (t1_in (List.mem_of_getElem? (i := 183) rfl)) rfl
theorem seX8_topOfPile : Cond.selects mX8_topOfPile.1.cls mX8_topOfPile.1 mX8_topOfPile.1 ∈ lw_g := lw_g_in (sels_in (List.mem_of_getElem? (i := 1) rfl)) rfl
def mX8_begin : MD := (yX8_begin, cX8_begin, 1, (some .int), false)
theorem okX8_begin : MOk mX8_begin 0 := ⟨by decide +kernel, lw_g_in (t1_in (List.mem_of_getElem? (i := 188) rfl)) rfl, lw_g_in (t1_in (List.mem_of_getElem? (i := 1) rfl)) rfl, ⟨by decide +kernel, by decide +kernel, by decide +kernel⟩, by decide +kernel, fun h => absurd h (by decide)⟩
theorem inX8_begin : Cond.instanceMethod mX8_begin.1 ∈ lw_g := lw_g_in (t1_in (List.mem_of_getElem? (i := 186) rfl)) rfl
theorem seX8_begin : Cond.selects mX8_begin.1.cls mX8_begin.1 mX8_begin.1 ∈ lw_g := lw_g_in (t1_in (List.mem_of_getElem? (i := 187) rfl)) rfl
def mX8_countOpen : MD := (yX8_countOpen, cX8_countOpen, 3, (some .int), false)
theorem okX8_countOpen : MOk mX8_countOpen 0 := ⟨by decide +kernel, lw_g_in (t1_in (List.mem_of_getElem? (i := 192) rfl)) rfl, lw_g_in (t1_in (List.mem_of_getElem? (i := 1) rfl)) rfl, ⟨by decide +kernel, by decide +kernel, by decide +kernel⟩, by decide +kernel, fun h => absurd h (by decide)⟩
theorem inX8_countOpen : Cond.instanceMethod mX8_countOpen.1 ∈ lw_g := lw_g_in (t1_in (List.mem_of_getElem? (i := 191) rfl)) rfl
theorem seX8_countOpen : Cond.selects mX8_countOpen.1.cls mX8_countOpen.1 mX8_countOpen.1 ∈ lw_g := lw_g_in (sels_in (List.mem_of_getElem? (i := 2) rfl)) rfl
def mX7_isOpen : MD := (yX7_isOpen, cX7_isOpen, 1, (some .boolean), false)
theorem okX7_isOpen : MOk mX7_isOpen 0 := ⟨by decide +kernel, lw_g_in (t1_in (List.mem_of_getElem? (i := 197) rfl)) rfl, lw_g_in (t1_in (List.mem_of_getElem? (i := 8) rfl)) rfl, ⟨by decide +kernel, by decide +kernel, by decide +kernel⟩, by decide +kernel, fun h => absurd h (by decide)⟩
theorem inX7_isOpen : Cond.instanceMethod mX7_isOpen.1 ∈ lw_g := lw_g_in (t1_in (List.mem_of_getElem? (i := 195) rfl)) rfl
theorem seX7_isOpen : Cond.selects mX7_isOpen.1.cls mX7_isOpen.1 mX7_isOpen.1 ∈ lw_g := lw_g_in (sels_in (List.mem_of_getElem? (i := 3) rfl)) rfl
def mX7_init : MD := (yX7_init, cX7_init, 2, none, true)
theorem okX7_init : MOk mX7_init 1 := ⟨by decide +kernel, lw_g_in (t1_in (List.mem_of_getElem? (i := 200) rfl)) rfl, lw_g_in (t1_in (List.mem_of_getElem? (i := 8) rfl)) rfl, ⟨by decide +kernel, by decide +kernel, by decide +kernel⟩, by decide +kernel, fun _ => rfl⟩
theorem inX7_init : Cond.instanceMethod mX7_init.1 ∈ lw_g := lw_g_in (t1_in (List.mem_of_getElem? (i := 199) rfl)) rfl
def mX8_read : MD := (yX8_read, cX8_read, 6, (some .int), false)
theorem okX8_read : MOk mX8_read 3 := ⟨by decide +kernel, lw_g_in (t1_in (List.mem_of_getElem? (i := 229) rfl)) rfl, lw_g_in (t1_in (List.mem_of_getElem? (i := 1) rfl)) rfl, ⟨by decide +kernel, by decide +kernel, by decide +kernel⟩, by decide +kernel, fun h => absurd h (by decide)⟩
theorem inX8_read : Cond.instanceMethod mX8_read.1 ∈ lw_g := lw_g_in (t1_in (List.mem_of_getElem? (i := 227) rfl)) rfl
theorem seX8_read : Cond.selects mX8_read.1.cls mX8_read.1 mX8_read.1 ∈ lw_g := lw_g_in (t1_in (List.mem_of_getElem? (i := 228) rfl)) rfl
def mX8_openOne : MD := (yX8_openOne, cX8_openOne, 3, (some (.object "VersionedRows$Transaction")), false)
theorem okX8_openOne : MOk mX8_openOne 1 := ⟨by decide +kernel, lw_g_in (t1_in (List.mem_of_getElem? (i := 233) rfl)) rfl, lw_g_in (t1_in (List.mem_of_getElem? (i := 1) rfl)) rfl, ⟨by decide +kernel, by decide +kernel, by decide +kernel⟩, by decide +kernel, fun h => absurd h (by decide)⟩
theorem inX8_openOne : Cond.instanceMethod mX8_openOne.1 ∈ lw_g := lw_g_in (t1_in (List.mem_of_getElem? (i := 232) rfl)) rfl
theorem seX8_openOne : Cond.selects mX8_openOne.1.cls mX8_openOne.1 mX8_openOne.1 ∈ lw_g := lw_g_in (sels_in (List.mem_of_getElem? (i := 4) rfl)) rfl
def mX8_transactionOf : MD := (yX8_transactionOf, cX8_transactionOf, 2, (some (.object "VersionedRows$Transaction")), false)
theorem okX8_transactionOf : MOk mX8_transactionOf 1 := ⟨by decide +kernel, lw_g_in (t1_in (List.mem_of_getElem? (i := 237) rfl)) rfl, lw_g_in (t1_in (List.mem_of_getElem? (i := 1) rfl)) rfl, ⟨by decide +kernel, by decide +kernel, by decide +kernel⟩, by decide +kernel, fun h => absurd h (by decide)⟩
theorem inX8_transactionOf : Cond.instanceMethod mX8_transactionOf.1 ∈ lw_g := lw_g_in (t1_in (List.mem_of_getElem? (i := 236) rfl)) rfl
theorem seX8_transactionOf : Cond.selects mX8_transactionOf.1.cls mX8_transactionOf.1 mX8_transactionOf.1 ∈ lw_g := lw_g_in (sels_in (List.mem_of_getElem? (i := 5) rfl)) rfl
def mX8_isKey : MD := (yX8_isKey, cX8_isKey, 1, (some .boolean), false)
theorem okX8_isKey : MOk mX8_isKey 1 := ⟨by decide +kernel, lw_g_in (t2_in (List.mem_of_getElem? (i := 0) rfl)) rfl, lw_g_in (t1_in (List.mem_of_getElem? (i := 1) rfl)) rfl, ⟨by decide +kernel, by decide +kernel, by decide +kernel⟩, by decide +kernel, fun h => absurd h (by decide)⟩
theorem stX8_isKey : Cond.static mX8_isKey.1 ∈ lw_g := lw_g_in (t1_in (List.mem_of_getElem? (i := 239) rfl)) rfl
def mX8_rowFor : MD := (yX8_rowFor, cX8_rowFor, 3, (some (.object "VersionedRows$Row")), false)
theorem okX8_rowFor : MOk mX8_rowFor 2 := ⟨by decide +kernel, lw_g_in (t2_in (List.mem_of_getElem? (i := 4) rfl)) rfl, lw_g_in (t1_in (List.mem_of_getElem? (i := 1) rfl)) rfl, ⟨by decide +kernel, by decide +kernel, by decide +kernel⟩, by decide +kernel, fun h => absurd h (by decide)⟩
theorem inX8_rowFor : Cond.instanceMethod mX8_rowFor.1 ∈ lw_g := lw_g_in (t2_in (List.mem_of_getElem? (i := 3) rfl)) rfl
theorem seX8_rowFor : Cond.selects mX8_rowFor.1.cls mX8_rowFor.1 mX8_rowFor.1 ∈ lw_g := lw_g_in (sels_in (List.mem_of_getElem? (i := 6) rfl)) rfl
def mX6_rowAt : MD := (yX6_rowAt, cX6_rowAt, 4, (some (.object "VersionedRows$Row")), false)
theorem okX6_rowAt : MOk mX6_rowAt 2 := ⟨by decide +kernel, lw_g_in (t2_in (List.mem_of_getElem? (i := 8) rfl)) rfl, lw_g_in (t1_in (List.mem_of_getElem? (i := 2) rfl)) rfl, ⟨by decide +kernel, by decide +kernel, by decide +kernel⟩, by decide +kernel, fun h => absurd h (by decide)⟩
theorem inX6_rowAt : Cond.instanceMethod mX6_rowAt.1 ∈ lw_g := lw_g_in (t2_in (List.mem_of_getElem? (i := 7) rfl)) rfl
theorem seX6_rowAt : Cond.selects mX6_rowAt.1.cls mX6_rowAt.1 mX6_rowAt.1 ∈ lw_g := lw_g_in (sels_in (List.mem_of_getElem? (i := 7) rfl)) rfl
def mX6_seenRow : MD := (yX6_seenRow, cX6_seenRow, 6, (some (.object "VersionedRows$Entry")), false)
theorem okX6_seenRow : MOk mX6_seenRow 2 := ⟨by decide +kernel, lw_g_in (t2_in (List.mem_of_getElem? (i := 12) rfl)) rfl, lw_g_in (t1_in (List.mem_of_getElem? (i := 2) rfl)) rfl, ⟨by decide +kernel, by decide +kernel, by decide +kernel⟩, by decide +kernel, fun h => absurd h (by decide)⟩
theorem inX6_seenRow : Cond.instanceMethod mX6_seenRow.1 ∈ lw_g := lw_g_in (t2_in (List.mem_of_getElem? (i := 11) rfl)) rfl
theorem seX6_seenRow : Cond.selects mX6_seenRow.1.cls mX6_seenRow.1 mX6_seenRow.1 ∈ lw_g := lw_g_in (sels_in (List.mem_of_getElem? (i := 8) rfl)) rfl
def mX0_placeOf : MD := (yX0_placeOf, cX0_placeOf, 3, (some .long), false)
theorem okX0_placeOf : MOk mX0_placeOf 3 := ⟨by decide +kernel, lw_g_in (t2_in (List.mem_of_getElem? (i := 15) rfl)) rfl, lw_g_in (t1_in (List.mem_of_getElem? (i := 9) rfl)) rfl, ⟨by decide +kernel, by decide +kernel, by decide +kernel⟩, by decide +kernel, fun h => absurd h (by decide)⟩
theorem stX0_placeOf : Cond.static mX0_placeOf.1 ∈ lw_g := lw_g_in (t2_in (List.mem_of_getElem? (i := 14) rfl)) rfl
def mX6_countBefore : MD := (yX6_countBefore, cX6_countBefore, 7, (some .int), false)
theorem okX6_countBefore : MOk mX6_countBefore 2 := ⟨by decide +kernel, lw_g_in (t2_in (List.mem_of_getElem? (i := 20) rfl)) rfl, lw_g_in (t1_in (List.mem_of_getElem? (i := 2) rfl)) rfl, ⟨by decide +kernel, by decide +kernel, by decide +kernel⟩, by decide +kernel, fun h => absurd h (by decide)⟩
theorem inX6_countBefore : Cond.instanceMethod mX6_countBefore.1 ∈ lw_g := lw_g_in (t2_in (List.mem_of_getElem? (i := 19) rfl)) rfl
theorem seX6_countBefore : Cond.selects mX6_countBefore.1.cls mX6_countBefore.1 mX6_countBefore.1 ∈ lw_g := lw_g_in (sels_in (List.mem_of_getElem? (i := 9) rfl)) rfl
def mX0_isBefore : MD := (yX0_isBefore, cX0_isBefore, 4, (some .boolean), false)
theorem okX0_isBefore : MOk mX0_isBefore 2 := ⟨by decide +kernel, lw_g_in (t2_in (List.mem_of_getElem? (i := 25) rfl)) rfl, lw_g_in (t1_in (List.mem_of_getElem? (i := 9) rfl)) rfl, ⟨by decide +kernel, by decide +kernel, by decide +kernel⟩, by decide +kernel, fun h => absurd h (by decide)⟩
theorem inX0_isBefore : Cond.instanceMethod mX0_isBefore.1 ∈ lw_g := lw_g_in (t2_in (List.mem_of_getElem? (i := 23) rfl)) rfl
theorem seX0_isBefore : Cond.selects mX0_isBefore.1.cls mX0_isBefore.1 mX0_isBefore.1 ∈ lw_g := lw_g_in (sels_in (List.mem_of_getElem? (i := 10) rfl)) rfl
def mX8_write : MD := (yX8_write, cX8_write, 7, (some .boolean), false)
theorem okX8_write : MOk mX8_write 5 := ⟨by decide +kernel, lw_g_in (t2_in (List.mem_of_getElem? (i := 29) rfl)) rfl, lw_g_in (t1_in (List.mem_of_getElem? (i := 1) rfl)) rfl, ⟨by decide +kernel, by decide +kernel, by decide +kernel⟩, by decide +kernel, fun h => absurd h (by decide)⟩
theorem inX8_write : Cond.instanceMethod mX8_write.1 ∈ lw_g := lw_g_in (t2_in (List.mem_of_getElem? (i := 27) rfl)) rfl
theorem seX8_write : Cond.selects mX8_write.1.cls mX8_write.1 mX8_write.1 ∈ lw_g := lw_g_in (t2_in (List.mem_of_getElem? (i := 28) rfl)) rfl
def mX3_init : MD := (yX3_init, cX3_init, 4, none, true)
theorem okX3_init : MOk mX3_init 3 := ⟨by decide +kernel, lw_g_in (t2_in (List.mem_of_getElem? (i := 34) rfl)) rfl, lw_g_in (t1_in (List.mem_of_getElem? (i := 10) rfl)) rfl, ⟨by decide +kernel, by decide +kernel, by decide +kernel⟩, by decide +kernel, fun _ => rfl⟩
theorem inX3_init : Cond.instanceMethod mX3_init.1 ∈ lw_g := lw_g_in (t2_in (List.mem_of_getElem? (i := 33) rfl)) rfl
def mX7_put : MD := (yX7_put, cX7_put, 3, none, false)
theorem okX7_put : MOk mX7_put 2 := ⟨by decide +kernel, lw_g_in (t2_in (List.mem_of_getElem? (i := 55) rfl)) rfl, lw_g_in (t1_in (List.mem_of_getElem? (i := 8) rfl)) rfl, ⟨by decide +kernel, by decide +kernel, by decide +kernel⟩, by decide +kernel, fun h => absurd h (by decide)⟩
theorem inX7_put : Cond.instanceMethod mX7_put.1 ∈ lw_g := lw_g_in (t2_in (List.mem_of_getElem? (i := 54) rfl)) rfl
theorem seX7_put : Cond.selects mX7_put.1.cls mX7_put.1 mX7_put.1 ∈ lw_g := lw_g_in (sels_in (List.mem_of_getElem? (i := 11) rfl)) rfl
def mX8_remove : MD := (yX8_remove, cX8_remove, 4, (some .boolean), false)
theorem okX8_remove : MOk mX8_remove 2 := ⟨by decide +kernel, lw_g_in (t2_in (List.mem_of_getElem? (i := 59) rfl)) rfl, lw_g_in (t1_in (List.mem_of_getElem? (i := 1) rfl)) rfl, ⟨by decide +kernel, by decide +kernel, by decide +kernel⟩, by decide +kernel, fun h => absurd h (by decide)⟩
theorem inX8_remove : Cond.instanceMethod mX8_remove.1 ∈ lw_g := lw_g_in (t2_in (List.mem_of_getElem? (i := 57) rfl)) rfl
theorem seX8_remove : Cond.selects mX8_remove.1.cls mX8_remove.1 mX8_remove.1 ∈ lw_g := lw_g_in (t2_in (List.mem_of_getElem? (i := 58) rfl)) rfl
def mX8_query : MD := (yX8_query, cX8_query, 4, (some .int), false)
theorem okX8_query : MOk mX8_query 1 := ⟨by decide +kernel, lw_g_in (t2_in (List.mem_of_getElem? (i := 63) rfl)) rfl, lw_g_in (t1_in (List.mem_of_getElem? (i := 1) rfl)) rfl, ⟨by decide +kernel, by decide +kernel, by decide +kernel⟩, by decide +kernel, fun h => absurd h (by decide)⟩
theorem inX8_query : Cond.instanceMethod mX8_query.1 ∈ lw_g := lw_g_in (t2_in (List.mem_of_getElem? (i := 61) rfl)) rfl
theorem seX8_query : Cond.selects mX8_query.1.cls mX8_query.1 mX8_query.1 ∈ lw_g := lw_g_in (t2_in (List.mem_of_getElem? (i := 62) rfl)) rfl
def mX8_choosePlan : MD := (yX8_choosePlan, cX8_choosePlan, 4, none, false)
theorem okX8_choosePlan : MOk mX8_choosePlan 1 := ⟨by decide +kernel, lw_g_in (t2_in (List.mem_of_getElem? (i := 67) rfl)) rfl, lw_g_in (t1_in (List.mem_of_getElem? (i := 1) rfl)) rfl, ⟨by decide +kernel, by decide +kernel, by decide +kernel⟩, by decide +kernel, fun h => absurd h (by decide)⟩
theorem inX8_choosePlan : Cond.instanceMethod mX8_choosePlan.1 ∈ lw_g := lw_g_in (t2_in (List.mem_of_getElem? (i := 66) rfl)) rfl
theorem seX8_choosePlan : Cond.selects mX8_choosePlan.1.cls mX8_choosePlan.1 mX8_choosePlan.1 ∈ lw_g := lw_g_in (sels_in (List.mem_of_getElem? (i := 12) rfl)) rfl
def mX2_init : MD := (yX2_init, cX2_init, 2, none, true)
theorem okX2_init : MOk mX2_init 1 := ⟨by decide +kernel, lw_g_in (t2_in (List.mem_of_getElem? (i := 72) rfl)) rfl, lw_g_in (t1_in (List.mem_of_getElem? (i := 11) rfl)) rfl, ⟨by decide +kernel, by decide +kernel, by decide +kernel⟩, by decide +kernel, fun _ => rfl⟩
theorem inX2_init : Cond.instanceMethod mX2_init.1 ∈ lw_g := lw_g_in (t2_in (List.mem_of_getElem? (i := 71) rfl)) rfl
def mX2_hear : MD := (yX2_hear, cX2_hear, 2, none, false)
theorem okX2_hear : MOk mX2_hear 1 := ⟨by decide +kernel, lw_g_in (t2_in (List.mem_of_getElem? (i := 95) rfl)) rfl, lw_g_in (t1_in (List.mem_of_getElem? (i := 11) rfl)) rfl, ⟨by decide +kernel, by decide +kernel, by decide +kernel⟩, by decide +kernel, fun h => absurd h (by decide)⟩
theorem inX2_hear : Cond.instanceMethod mX2_hear.1 ∈ lw_g := lw_g_in (t2_in (List.mem_of_getElem? (i := 94) rfl)) rfl
theorem seX2_hear : Cond.selects mX2_hear.1.cls mX2_hear.1 mX2_hear.1 ∈ lw_g := lw_g_in (sels_in (List.mem_of_getElem? (i := 13) rfl)) rfl
def mX2_hearComparison : MD := (yX2_hearComparison, cX2_hearComparison, 6, none, false)
theorem okX2_hearComparison : MOk mX2_hearComparison 3 := ⟨by decide +kernel, lw_g_in (t2_in (List.mem_of_getElem? (i := 100) rfl)) rfl, lw_g_in (t1_in (List.mem_of_getElem? (i := 11) rfl)) rfl, ⟨by decide +kernel, by decide +kernel, by decide +kernel⟩, by decide +kernel, fun h => absurd h (by decide)⟩
theorem inX2_hearComparison : Cond.instanceMethod mX2_hearComparison.1 ∈ lw_g := lw_g_in (t2_in (List.mem_of_getElem? (i := 99) rfl)) rfl
theorem seX2_hearComparison : Cond.selects mX2_hearComparison.1.cls mX2_hearComparison.1 mX2_hearComparison.1 ∈ lw_g := lw_g_in (sels_in (List.mem_of_getElem? (i := 14) rfl)) rfl
def mX1_isConst : MD := (yX1_isConst, cX1_isConst, 1, (some .boolean), false)
theorem okX1_isConst : MOk mX1_isConst 0 := ⟨by decide +kernel, lw_g_in (t2_in (List.mem_of_getElem? (i := 104) rfl)) rfl, lw_g_in (t1_in (List.mem_of_getElem? (i := 7) rfl)) rfl, ⟨by decide +kernel, by decide +kernel, by decide +kernel⟩, by decide +kernel, fun h => absurd h (by decide)⟩
theorem inX1_isConst : Cond.instanceMethod mX1_isConst.1 ∈ lw_g := lw_g_in (t2_in (List.mem_of_getElem? (i := 103) rfl)) rfl
theorem seX1_isConst : Cond.selects mX1_isConst.1.cls mX1_isConst.1 mX1_isConst.1 ∈ lw_g := lw_g_in (sels_in (List.mem_of_getElem? (i := 15) rfl)) rfl
def mX1_areSame : MD := (yX1_areSame, cX1_areSame, 2, (some .boolean), false)
theorem okX1_areSame : MOk mX1_areSame 2 := ⟨by decide +kernel, lw_g_in (t2_in (List.mem_of_getElem? (i := 107) rfl)) rfl, lw_g_in (t1_in (List.mem_of_getElem? (i := 7) rfl)) rfl, ⟨by decide +kernel, by decide +kernel, by decide +kernel⟩, by decide +kernel, fun h => absurd h (by decide)⟩
theorem stX1_areSame : Cond.static mX1_areSame.1 ∈ lw_g := lw_g_in (t2_in (List.mem_of_getElem? (i := 106) rfl)) rfl
def mX2_narrow : MD := (yX2_narrow, cX2_narrow, 5, none, false)
theorem okX2_narrow : MOk mX2_narrow 2 := ⟨by decide +kernel, lw_g_in (t2_in (List.mem_of_getElem? (i := 112) rfl)) rfl, lw_g_in (t1_in (List.mem_of_getElem? (i := 11) rfl)) rfl, ⟨by decide +kernel, by decide +kernel, by decide +kernel⟩, by decide +kernel, fun h => absurd h (by decide)⟩
theorem inX2_narrow : Cond.instanceMethod mX2_narrow.1 ∈ lw_g := lw_g_in (t2_in (List.mem_of_getElem? (i := 111) rfl)) rfl
theorem seX2_narrow : Cond.selects mX2_narrow.1.cls mX2_narrow.1 mX2_narrow.1 ∈ lw_g := lw_g_in (sels_in (List.mem_of_getElem? (i := 16) rfl)) rfl
def mJ9_max_f86c9 : MD := (yJ9_max_f86c9, cJ9_max_f86c9, 4, (some .long), false)
theorem cdJ9_max_f86c9 : Cond.code mJ9_max_f86c9.1 mJ9_max_f86c9.2.1 mJ9_max_f86c9.2.2.1 mJ9_max_f86c9.2.2.2.1 ∈ lw_g := lw_g_in (t2_in (List.mem_of_getElem? (i := 115) rfl)) rfl
theorem stJ9_max_f86c9 : Cond.static mJ9_max_f86c9.1 ∈ lw_g := lw_g_in (t2_in (List.mem_of_getElem? (i := 114) rfl)) rfl
def mJ9_min_f86c9 : MD := (yJ9_min_f86c9, cJ9_min_f86c9, 4, (some .long), false)
theorem cdJ9_min_f86c9 : Cond.code mJ9_min_f86c9.1 mJ9_min_f86c9.2.1 mJ9_min_f86c9.2.2.1 mJ9_min_f86c9.2.2.2.1 ∈ lw_g := lw_g_in (t2_in (List.mem_of_getElem? (i := 118) rfl)) rfl
theorem stJ9_min_f86c9 : Cond.static mJ9_min_f86c9.1 ∈ lw_g := lw_g_in (t2_in (List.mem_of_getElem? (i := 117) rfl)) rfl
def mX2_width : MD := (yX2_width, cX2_width, 1, (some .long), false)
theorem okX2_width : MOk mX2_width 0 := ⟨by decide +kernel, lw_g_in (t2_in (List.mem_of_getElem? (i := 122) rfl)) rfl, lw_g_in (t1_in (List.mem_of_getElem? (i := 11) rfl)) rfl, ⟨by decide +kernel, by decide +kernel, by decide +kernel⟩, by decide +kernel, fun h => absurd h (by decide)⟩
theorem inX2_width : Cond.instanceMethod mX2_width.1 ∈ lw_g := lw_g_in (t2_in (List.mem_of_getElem? (i := 121) rfl)) rfl
theorem seX2_width : Cond.selects mX2_width.1.cls mX2_width.1 mX2_width.1 ∈ lw_g := lw_g_in (sels_in (List.mem_of_getElem? (i := 17) rfl)) rfl
def mX8_countCandidates : MD := (yX8_countCandidates, cX8_countCandidates, 2, none, false)
theorem okX8_countCandidates : MOk mX8_countCandidates 1 := ⟨by decide +kernel, lw_g_in (t2_in (List.mem_of_getElem? (i := 126) rfl)) rfl, lw_g_in (t1_in (List.mem_of_getElem? (i := 1) rfl)) rfl, ⟨by decide +kernel, by decide +kernel, by decide +kernel⟩, by decide +kernel, fun h => absurd h (by decide)⟩
theorem inX8_countCandidates : Cond.instanceMethod mX8_countCandidates.1 ∈ lw_g := lw_g_in (t2_in (List.mem_of_getElem? (i := 125) rfl)) rfl
theorem seX8_countCandidates : Cond.selects mX8_countCandidates.1.cls mX8_countCandidates.1 mX8_countCandidates.1 ∈ lw_g := lw_g_in (sels_in (List.mem_of_getElem? (i := 18) rfl)) rfl
def mX6_countThere : MD := (yX6_countThere, cX6_countThere, 11, (some .int), false)
theorem okX6_countThere : MOk mX6_countThere 4 := ⟨by decide +kernel, lw_g_in (t2_in (List.mem_of_getElem? (i := 130) rfl)) rfl, lw_g_in (t1_in (List.mem_of_getElem? (i := 2) rfl)) rfl, ⟨by decide +kernel, by decide +kernel, by decide +kernel⟩, by decide +kernel, fun h => absurd h (by decide)⟩
theorem inX6_countThere : Cond.instanceMethod mX6_countThere.1 ∈ lw_g := lw_g_in (t2_in (List.mem_of_getElem? (i := 129) rfl)) rfl
theorem seX6_countThere : Cond.selects mX6_countThere.1.cls mX6_countThere.1 mX6_countThere.1 ∈ lw_g := lw_g_in (sels_in (List.mem_of_getElem? (i := 19) rfl)) rfl
def mX0_isWithin : MD := (yX0_isWithin, cX0_isWithin, 6, (some .boolean), false)
theorem okX0_isWithin : MOk mX0_isWithin 3 := ⟨by decide +kernel, lw_g_in (t2_in (List.mem_of_getElem? (i := 134) rfl)) rfl, lw_g_in (t1_in (List.mem_of_getElem? (i := 9) rfl)) rfl, ⟨by decide +kernel, by decide +kernel, by decide +kernel⟩, by decide +kernel, fun h => absurd h (by decide)⟩
theorem inX0_isWithin : Cond.instanceMethod mX0_isWithin.1 ∈ lw_g := lw_g_in (t2_in (List.mem_of_getElem? (i := 133) rfl)) rfl
theorem seX0_isWithin : Cond.selects mX0_isWithin.1.cls mX0_isWithin.1 mX0_isWithin.1 ∈ lw_g := lw_g_in (sels_in (List.mem_of_getElem? (i := 20) rfl)) rfl
def mX8_fillResult : MD := (yX8_fillResult, cX8_fillResult, 5, none, false)
theorem okX8_fillResult : MOk mX8_fillResult 2 := ⟨by decide +kernel, lw_g_in (t2_in (List.mem_of_getElem? (i := 138) rfl)) rfl, lw_g_in (t1_in (List.mem_of_getElem? (i := 1) rfl)) rfl, ⟨by decide +kernel, by decide +kernel, by decide +kernel⟩, by decide +kernel, fun h => absurd h (by decide)⟩
theorem inX8_fillResult : Cond.instanceMethod mX8_fillResult.1 ∈ lw_g := lw_g_in (t2_in (List.mem_of_getElem? (i := 137) rfl)) rfl
theorem seX8_fillResult : Cond.selects mX8_fillResult.1.cls mX8_fillResult.1 mX8_fillResult.1 ∈ lw_g := lw_g_in (sels_in (List.mem_of_getElem? (i := 21) rfl)) rfl
def mX1_isTrueOf : MD := (yX1_isTrueOf, cX1_isTrueOf, 2, (some .boolean), false)
theorem okX1_isTrueOf : MOk mX1_isTrueOf 2 := ⟨by decide +kernel, lw_g_in (t2_in (List.mem_of_getElem? (i := 141) rfl)) rfl, lw_g_in (t1_in (List.mem_of_getElem? (i := 7) rfl)) rfl, ⟨by decide +kernel, by decide +kernel, by decide +kernel⟩, by decide +kernel, fun h => absurd h (by decide)⟩
theorem stX1_isTrueOf : Cond.static mX1_isTrueOf.1 ∈ lw_g := lw_g_in (t2_in (List.mem_of_getElem? (i := 140) rfl)) rfl
def mX1_numberOf : MD := (yX1_numberOf, cX1_numberOf, 2, (some .int), false)
theorem okX1_numberOf : MOk mX1_numberOf 2 := ⟨by decide +kernel, lw_g_in (t2_in (List.mem_of_getElem? (i := 144) rfl)) rfl, lw_g_in (t1_in (List.mem_of_getElem? (i := 7) rfl)) rfl, ⟨by decide +kernel, by decide +kernel, by decide +kernel⟩, by decide +kernel, fun h => absurd h (by decide)⟩
theorem stX1_numberOf : Cond.static mX1_numberOf.1 ∈ lw_g := lw_g_in (t2_in (List.mem_of_getElem? (i := 143) rfl)) rfl
def mX3_startsWith : MD := (yX3_startsWith, cX3_startsWith, 2, (some .boolean), false)
theorem okX3_startsWith : MOk mX3_startsWith 1 := ⟨by decide +kernel, lw_g_in (t2_in (List.mem_of_getElem? (i := 149) rfl)) rfl, lw_g_in (t1_in (List.mem_of_getElem? (i := 10) rfl)) rfl, ⟨by decide +kernel, by decide +kernel, by decide +kernel⟩, by decide +kernel, fun h => absurd h (by decide)⟩
theorem inX3_startsWith : Cond.instanceMethod mX3_startsWith.1 ∈ lw_g := lw_g_in (t2_in (List.mem_of_getElem? (i := 148) rfl)) rfl
theorem seX3_startsWith : Cond.selects mX3_startsWith.1.cls mX3_startsWith.1 mX3_startsWith.1 ∈ lw_g := lw_g_in (sels_in (List.mem_of_getElem? (i := 22) rfl)) rfl
def mX8_commit : MD := (yX8_commit, cX8_commit, 3, (some .int), false)
theorem okX8_commit : MOk mX8_commit 1 := ⟨by decide +kernel, lw_g_in (t2_in (List.mem_of_getElem? (i := 153) rfl)) rfl, lw_g_in (t1_in (List.mem_of_getElem? (i := 1) rfl)) rfl, ⟨by decide +kernel, by decide +kernel, by decide +kernel⟩, by decide +kernel, fun h => absurd h (by decide)⟩
theorem inX8_commit : Cond.instanceMethod mX8_commit.1 ∈ lw_g := lw_g_in (t2_in (List.mem_of_getElem? (i := 151) rfl)) rfl
theorem seX8_commit : Cond.selects mX8_commit.1.cls mX8_commit.1 mX8_commit.1 ∈ lw_g := lw_g_in (t2_in (List.mem_of_getElem? (i := 152) rfl)) rfl
def mX8_isTooLate : MD := (yX8_isTooLate, cX8_isTooLate, 3, (some .boolean), false)
theorem okX8_isTooLate : MOk mX8_isTooLate 1 := ⟨by decide +kernel, lw_g_in (t2_in (List.mem_of_getElem? (i := 157) rfl)) rfl, lw_g_in (t1_in (List.mem_of_getElem? (i := 1) rfl)) rfl, ⟨by decide +kernel, by decide +kernel, by decide +kernel⟩, by decide +kernel, fun h => absurd h (by decide)⟩
theorem inX8_isTooLate : Cond.instanceMethod mX8_isTooLate.1 ∈ lw_g := lw_g_in (t2_in (List.mem_of_getElem? (i := 156) rfl)) rfl
theorem seX8_isTooLate : Cond.selects mX8_isTooLate.1.cls mX8_isTooLate.1 mX8_isTooLate.1 ∈ lw_g := lw_g_in (sels_in (List.mem_of_getElem? (i := 23) rfl)) rfl
def mX6_lastStampOf : MD := (yX6_lastStampOf, cX6_lastStampOf, 3, (some .int), false)
theorem okX6_lastStampOf : MOk mX6_lastStampOf 1 := ⟨by decide +kernel, lw_g_in (t2_in (List.mem_of_getElem? (i := 161) rfl)) rfl, lw_g_in (t1_in (List.mem_of_getElem? (i := 2) rfl)) rfl, ⟨by decide +kernel, by decide +kernel, by decide +kernel⟩, by decide +kernel, fun h => absurd h (by decide)⟩
theorem inX6_lastStampOf : Cond.instanceMethod mX6_lastStampOf.1 ∈ lw_g := lw_g_in (t2_in (List.mem_of_getElem? (i := 160) rfl)) rfl
theorem seX6_lastStampOf : Cond.selects mX6_lastStampOf.1.cls mX6_lastStampOf.1 mX6_lastStampOf.1 ∈ lw_g := lw_g_in (sels_in (List.mem_of_getElem? (i := 24) rfl)) rfl
def mX8_batchSize : MD := (yX8_batchSize, cX8_batchSize, 4, (some .int), false)
theorem okX8_batchSize : MOk mX8_batchSize 1 := ⟨by decide +kernel, lw_g_in (t2_in (List.mem_of_getElem? (i := 166) rfl)) rfl, lw_g_in (t1_in (List.mem_of_getElem? (i := 1) rfl)) rfl, ⟨by decide +kernel, by decide +kernel, by decide +kernel⟩, by decide +kernel, fun h => absurd h (by decide)⟩
theorem inX8_batchSize : Cond.instanceMethod mX8_batchSize.1 ∈ lw_g := lw_g_in (t2_in (List.mem_of_getElem? (i := 165) rfl)) rfl
theorem seX8_batchSize : Cond.selects mX8_batchSize.1.cls mX8_batchSize.1 mX8_batchSize.1 ∈ lw_g := lw_g_in (sels_in (List.mem_of_getElem? (i := 25) rfl)) rfl
def mX8_countIndexEntries : MD := (yX8_countIndexEntries, cX8_countIndexEntries, 5, (some .int), false)
theorem okX8_countIndexEntries : MOk mX8_countIndexEntries 2 := ⟨by decide +kernel, lw_g_in (t2_in (List.mem_of_getElem? (i := 170) rfl)) rfl, lw_g_in (t1_in (List.mem_of_getElem? (i := 1) rfl)) rfl, ⟨by decide +kernel, by decide +kernel, by decide +kernel⟩, by decide +kernel, fun h => absurd h (by decide)⟩
theorem inX8_countIndexEntries : Cond.instanceMethod mX8_countIndexEntries.1 ∈ lw_g := lw_g_in (t2_in (List.mem_of_getElem? (i := 169) rfl)) rfl
theorem seX8_countIndexEntries : Cond.selects mX8_countIndexEntries.1.cls mX8_countIndexEntries.1 mX8_countIndexEntries.1 ∈ lw_g := lw_g_in (sels_in (List.mem_of_getElem? (i := 26) rfl)) rfl
def mX8_hasOwnValue : MD := (yX8_hasOwnValue, cX8_hasOwnValue, 4, (some .boolean), false)
theorem okX8_hasOwnValue : MOk mX8_hasOwnValue 3 := ⟨by decide +kernel, lw_g_in (t2_in (List.mem_of_getElem? (i := 174) rfl)) rfl, lw_g_in (t1_in (List.mem_of_getElem? (i := 1) rfl)) rfl, ⟨by decide +kernel, by decide +kernel, by decide +kernel⟩, by decide +kernel, fun h => absurd h (by decide)⟩
theorem inX8_hasOwnValue : Cond.instanceMethod mX8_hasOwnValue.1 ∈ lw_g := lw_g_in (t2_in (List.mem_of_getElem? (i := 173) rfl)) rfl
theorem seX8_hasOwnValue : Cond.selects mX8_hasOwnValue.1.cls mX8_hasOwnValue.1 mX8_hasOwnValue.1 ∈ lw_g := lw_g_in (sels_in (List.mem_of_getElem? (i := 27) rfl)) rfl
def mX8_valueIn : MD := (yX8_valueIn, cX8_valueIn, 3, (some .int), false)
theorem okX8_valueIn : MOk mX8_valueIn 2 := ⟨by decide +kernel, lw_g_in (t2_in (List.mem_of_getElem? (i := 178) rfl)) rfl, lw_g_in (t1_in (List.mem_of_getElem? (i := 1) rfl)) rfl, ⟨by decide +kernel, by decide +kernel, by decide +kernel⟩, by decide +kernel, fun h => absurd h (by decide)⟩
theorem inX8_valueIn : Cond.instanceMethod mX8_valueIn.1 ∈ lw_g := lw_g_in (t2_in (List.mem_of_getElem? (i := 177) rfl)) rfl
theorem seX8_valueIn : Cond.selects mX8_valueIn.1.cls mX8_valueIn.1 mX8_valueIn.1 ∈ lw_g := lw_g_in (sels_in (List.mem_of_getElem? (i := 28) rfl)) rfl
def mX6_hasRoomFor : MD := (yX6_hasRoomFor, cX6_hasRoomFor, 2, (some .boolean), false)
theorem okX6_hasRoomFor : MOk mX6_hasRoomFor 1 := ⟨by decide +kernel, lw_g_in (t2_in (List.mem_of_getElem? (i := 183) rfl)) rfl, lw_g_in (t1_in (List.mem_of_getElem? (i := 2) rfl)) rfl, ⟨by decide +kernel, by decide +kernel, by decide +kernel⟩, by decide +kernel, fun h => absurd h (by decide)⟩
theorem inX6_hasRoomFor : Cond.instanceMethod mX6_hasRoomFor.1 ∈ lw_g := lw_g_in (t2_in (List.mem_of_getElem? (i := 182) rfl)) rfl
theorem seX6_hasRoomFor : Cond.selects mX6_hasRoomFor.1.cls mX6_hasRoomFor.1 mX6_hasRoomFor.1 ∈ lw_g := lw_g_in (sels_in (List.mem_of_getElem? (i := 29) rfl)) rfl
def mX8_takeBatch : MD := (yX8_takeBatch, cX8_takeBatch, 6, none, false)
theorem okX8_takeBatch : MOk mX8_takeBatch 1 := ⟨by decide +kernel, lw_g_in (t2_in (List.mem_of_getElem? (i := 187) rfl)) rfl, lw_g_in (t1_in (List.mem_of_getElem? (i := 1) rfl)) rfl, ⟨by decide +kernel, by decide +kernel, by decide +kernel⟩, by decide +kernel, fun h => absurd h (by decide)⟩
theorem inX8_takeBatch : Cond.instanceMethod mX8_takeBatch.1 ∈ lw_g := lw_g_in (t2_in (List.mem_of_getElem? (i := 186) rfl)) rfl
theorem seX8_takeBatch : Cond.selects mX8_takeBatch.1.cls mX8_takeBatch.1 mX8_takeBatch.1 ∈ lw_g := lw_g_in (sels_in (List.mem_of_getElem? (i := 30) rfl)) rfl
def mX0_init : MD := (yX0_init, cX0_init, 6, none, true)
theorem okX0_init : MOk mX0_init 5 := ⟨by decide +kernel, lw_g_in (t2_in (List.mem_of_getElem? (i := 191) rfl)) rfl, lw_g_in (t1_in (List.mem_of_getElem? (i := 9) rfl)) rfl, ⟨by decide +kernel, by decide +kernel, by decide +kernel⟩, by decide +kernel, fun _ => rfl⟩
theorem inX0_init : Cond.instanceMethod mX0_init.1 ∈ lw_g := lw_g_in (t2_in (List.mem_of_getElem? (i := 190) rfl)) rfl
def mX6_add : MD := (yX6_add, cX6_add, 4, none, false)
theorem okX6_add : MOk mX6_add 1 := ⟨by decide +kernel, lw_g_in (t2_in (List.mem_of_getElem? (i := 231) rfl)) rfl, lw_g_in (t1_in (List.mem_of_getElem? (i := 2) rfl)) rfl, ⟨by decide +kernel, by decide +kernel, by decide +kernel⟩, by decide +kernel, fun h => absurd h (by decide)⟩
theorem inX6_add : Cond.instanceMethod mX6_add.1 ∈ lw_g := lw_g_in (t2_in (List.mem_of_getElem? (i := 230) rfl)) rfl
theorem seX6_add : Cond.selects mX6_add.1.cls mX6_add.1 mX6_add.1 ∈ lw_g := lw_g_in (sels_in (List.mem_of_getElem? (i := 31) rfl)) rfl
def mX8_addIndexEntries : MD := (yX8_addIndexEntries, cX8_addIndexEntries, 6, none, false)
theorem okX8_addIndexEntries : MOk mX8_addIndexEntries 4 := ⟨by decide +kernel, lw_g_in (t2_in (List.mem_of_getElem? (i := 236) rfl)) rfl, lw_g_in (t1_in (List.mem_of_getElem? (i := 1) rfl)) rfl, ⟨by decide +kernel, by decide +kernel, by decide +kernel⟩, by decide +kernel, fun h => absurd h (by decide)⟩
theorem inX8_addIndexEntries : Cond.instanceMethod mX8_addIndexEntries.1 ∈ lw_g := lw_g_in (t2_in (List.mem_of_getElem? (i := 235) rfl)) rfl
theorem seX8_addIndexEntries : Cond.selects mX8_addIndexEntries.1.cls mX8_addIndexEntries.1 mX8_addIndexEntries.1 ∈ lw_g := lw_g_in (sels_in (List.mem_of_getElem? (i := 32) rfl)) rfl
def mX8_flushAndMerge : MD := (yX8_flushAndMerge, cX8_flushAndMerge, 4, none, false)
theorem okX8_flushAndMerge : MOk mX8_flushAndMerge 0 := ⟨by decide +kernel, lw_g_in (t3_in (List.mem_of_getElem? (i := 0) rfl)) rfl, lw_g_in (t1_in (List.mem_of_getElem? (i := 1) rfl)) rfl, ⟨by decide +kernel, by decide +kernel, by decide +kernel⟩, by decide +kernel, fun h => absurd h (by decide)⟩
theorem inX8_flushAndMerge : Cond.instanceMethod mX8_flushAndMerge.1 ∈ lw_g := lw_g_in (t2_in (List.mem_of_getElem? (i := 239) rfl)) rfl
theorem seX8_flushAndMerge : Cond.selects mX8_flushAndMerge.1.cls mX8_flushAndMerge.1 mX8_flushAndMerge.1 ∈ lw_g := lw_g_in (sels_in (List.mem_of_getElem? (i := 33) rfl)) rfl
def mX6_writeMemoryOut : MD := (yX6_writeMemoryOut, cX6_writeMemoryOut, 5, (some .int), false)
theorem okX6_writeMemoryOut : MOk mX6_writeMemoryOut 0 := ⟨by decide +kernel, lw_g_in (t3_in (List.mem_of_getElem? (i := 4) rfl)) rfl, lw_g_in (t1_in (List.mem_of_getElem? (i := 2) rfl)) rfl, ⟨by decide +kernel, by decide +kernel, by decide +kernel⟩, by decide +kernel, fun h => absurd h (by decide)⟩
theorem inX6_writeMemoryOut : Cond.instanceMethod mX6_writeMemoryOut.1 ∈ lw_g := lw_g_in (t3_in (List.mem_of_getElem? (i := 3) rfl)) rfl
theorem seX6_writeMemoryOut : Cond.selects mX6_writeMemoryOut.1.cls mX6_writeMemoryOut.1 mX6_writeMemoryOut.1 ∈ lw_g := lw_g_in (sels_in (List.mem_of_getElem? (i := 34) rfl)) rfl
def mX6_newFile : MD := (yX6_newFile, cX6_newFile, 4, (some (.object "VersionedRows$SortedFile")), false)
theorem okX6_newFile : MOk mX6_newFile 2 := ⟨by decide +kernel, lw_g_in (t3_in (List.mem_of_getElem? (i := 8) rfl)) rfl, lw_g_in (t1_in (List.mem_of_getElem? (i := 2) rfl)) rfl, ⟨by decide +kernel, by decide +kernel, by decide +kernel⟩, by decide +kernel, fun h => absurd h (by decide)⟩
theorem inX6_newFile : Cond.instanceMethod mX6_newFile.1 ∈ lw_g := lw_g_in (t3_in (List.mem_of_getElem? (i := 7) rfl)) rfl
theorem seX6_newFile : Cond.selects mX6_newFile.1.cls mX6_newFile.1 mX6_newFile.1 ∈ lw_g := lw_g_in (sels_in (List.mem_of_getElem? (i := 35) rfl)) rfl
def mX5_init : MD := (yX5_init, cX5_init, 4, none, true)
theorem okX5_init : MOk mX5_init 3 := ⟨by decide +kernel, lw_g_in (t3_in (List.mem_of_getElem? (i := 13) rfl)) rfl, lw_g_in (t1_in (List.mem_of_getElem? (i := 13) rfl)) rfl, ⟨by decide +kernel, by decide +kernel, by decide +kernel⟩, by decide +kernel, fun _ => rfl⟩
theorem inX5_init : Cond.instanceMethod mX5_init.1 ∈ lw_g := lw_g_in (t3_in (List.mem_of_getElem? (i := 12) rfl)) rfl
def mJx4a65c_add_9ea2d : MD := (yJx4a65c_add_9ea2d, cJx4a65c_add_9ea2d, 2, (some .boolean), false)
theorem okJx4a65c_add_9ea2d : MOk mJx4a65c_add_9ea2d 1 := ⟨by decide +kernel, lw_g_in (t3_in (List.mem_of_getElem? (i := 39) rfl)) rfl, lw_g_in (t1_in (List.mem_of_getElem? (i := 5) rfl)) rfl, ⟨by decide +kernel, by decide +kernel, by decide +kernel⟩, by decide +kernel, fun h => absurd h (by decide)⟩
theorem inJx4a65c_add_9ea2d : Cond.instanceMethod mJx4a65c_add_9ea2d.1 ∈ lw_g := lw_g_in (t3_in (List.mem_of_getElem? (i := 37) rfl)) rfl
theorem seJx4a65c_add_9ea2d : Cond.selects mJx4a65c_add_9ea2d.1.cls mJx4a65c_add_9ea2d.1 mJx4a65c_add_9ea2d.1 ∈ lw_g := lw_g_in (t3_in (List.mem_of_getElem? (i := 38) rfl)) rfl
def mJx4a65c_add_72be8 : MD := (yJx4a65c_add_72be8, cJx4a65c_add_72be8, 4, none, false)
theorem okJx4a65c_add_72be8 : MOk mJx4a65c_add_72be8 3 := ⟨by decide +kernel, lw_g_in (t3_in (List.mem_of_getElem? (i := 43) rfl)) rfl, lw_g_in (t1_in (List.mem_of_getElem? (i := 5) rfl)) rfl, ⟨by decide +kernel, by decide +kernel, by decide +kernel⟩, by decide +kernel, fun h => absurd h (by decide)⟩
theorem inJx4a65c_add_72be8 : Cond.instanceMethod mJx4a65c_add_72be8.1 ∈ lw_g := lw_g_in (t3_in (List.mem_of_getElem? (i := 42) rfl)) rfl
theorem seJx4a65c_add_72be8 : Cond.selects mJx4a65c_add_72be8.1.cls mJx4a65c_add_72be8.1 mJx4a65c_add_72be8.1 ∈ lw_g := lw_g_in (sels_in (List.mem_of_getElem? (i := 36) rfl)) rfl
def mJx4a65c_grow_d5877 : MD := (yJx4a65c_grow_d5877, cJx4a65c_grow_d5877, 1, (some (.array (.object "java/lang/Object"))), false)
theorem okJx4a65c_grow_d5877 : MOk mJx4a65c_grow_d5877 0 := ⟨by decide +kernel, lw_g_in (t3_in (List.mem_of_getElem? (i := 47) rfl)) rfl, lw_g_in (t1_in (List.mem_of_getElem? (i := 5) rfl)) rfl, ⟨by decide +kernel, by decide +kernel, by decide +kernel⟩, by decide +kernel, fun h => absurd h (by decide)⟩
theorem inJx4a65c_grow_d5877 : Cond.instanceMethod mJx4a65c_grow_d5877.1 ∈ lw_g := lw_g_in (t3_in (List.mem_of_getElem? (i := 46) rfl)) rfl
theorem seJx4a65c_grow_d5877 : Cond.selects mJx4a65c_grow_d5877.1.cls mJx4a65c_grow_d5877.1 mJx4a65c_grow_d5877.1 ∈ lw_g := lw_g_in (sels_in (List.mem_of_getElem? (i := 37) rfl)) rfl
def mJx4a65c_grow_92f84 : MD := (yJx4a65c_grow_92f84, cJx4a65c_grow_92f84, 4, (some (.array (.object "java/lang/Object"))), false)
theorem okJx4a65c_grow_92f84 : MOk mJx4a65c_grow_92f84 1 := ⟨by decide +kernel, lw_g_in (t3_in (List.mem_of_getElem? (i := 51) rfl)) rfl, lw_g_in (t1_in (List.mem_of_getElem? (i := 5) rfl)) rfl, ⟨by decide +kernel, by decide +kernel, by decide +kernel⟩, by decide +kernel, fun h => absurd h (by decide)⟩
theorem inJx4a65c_grow_92f84 : Cond.instanceMethod mJx4a65c_grow_92f84.1 ∈ lw_g := lw_g_in (t3_in (List.mem_of_getElem? (i := 50) rfl)) rfl
theorem seJx4a65c_grow_92f84 : Cond.selects mJx4a65c_grow_92f84.1.cls mJx4a65c_grow_92f84.1 mJx4a65c_grow_92f84.1 ∈ lw_g := lw_g_in (sels_in (List.mem_of_getElem? (i := 38) rfl)) rfl
def mJ8_newLength_cabcc : MD := (yJ8_newLength_cabcc, cJ8_newLength_cabcc, 4, (some .int), false)
theorem okJ8_newLength_cabcc : MOk mJ8_newLength_cabcc 3 := ⟨by decide +kernel, lw_g_in (t3_in (List.mem_of_getElem? (i := 54) rfl)) rfl, lw_g_in (t1_in (List.mem_of_getElem? (i := 14) rfl)) rfl, ⟨by decide +kernel, by decide +kernel, by decide +kernel⟩, by decide +kernel, fun h => absurd h (by decide)⟩
theorem stJ8_newLength_cabcc : Cond.static mJ8_newLength_cabcc.1 ∈ lw_g := lw_g_in (t3_in (List.mem_of_getElem? (i := 53) rfl)) rfl
def mJ9_max_7cf53 : MD := (yJ9_max_7cf53, cJ9_max_7cf53, 2, (some .int), false)
theorem cdJ9_max_7cf53 : Cond.code mJ9_max_7cf53.1 mJ9_max_7cf53.2.1 mJ9_max_7cf53.2.2.1 mJ9_max_7cf53.2.2.2.1 ∈ lw_g := lw_g_in (t3_in (List.mem_of_getElem? (i := 57) rfl)) rfl
theorem stJ9_max_7cf53 : Cond.static mJ9_max_7cf53.1 ∈ lw_g := lw_g_in (t3_in (List.mem_of_getElem? (i := 56) rfl)) rfl
def mJ8_hugeLength_7cf53 : MD := (yJ8_hugeLength_7cf53, cJ8_hugeLength_7cf53, 3, (some .int), false)
theorem okJ8_hugeLength_7cf53 : MOk mJ8_hugeLength_7cf53 2 := ⟨by decide +kernel, lw_g_in (t3_in (List.mem_of_getElem? (i := 61) rfl)) rfl, lw_g_in (t1_in (List.mem_of_getElem? (i := 14) rfl)) rfl, ⟨by decide +kernel, by decide +kernel, by decide +kernel⟩, by decide +kernel, fun h => absurd h (by decide)⟩
theorem stJ8_hugeLength_7cf53 : Cond.static mJ8_hugeLength_7cf53.1 ∈ lw_g := lw_g_in (t3_in (List.mem_of_getElem? (i := 60) rfl)) rfl
def mJ7_copyOf_1904c : MD := (yJ7_copyOf_1904c, cJ7_copyOf_1904c, 2, (some (.array (.object "java/lang/Object"))), false)
theorem okJ7_copyOf_1904c : MOk mJ7_copyOf_1904c 2 := ⟨by decide +kernel, lw_g_in (t3_in (List.mem_of_getElem? (i := 64) rfl)) rfl, lw_g_in (t1_in (List.mem_of_getElem? (i := 15) rfl)) rfl, ⟨by decide +kernel, by decide +kernel, by decide +kernel⟩, by decide +kernel, fun h => absurd h (by decide)⟩
theorem stJ7_copyOf_1904c : Cond.static mJ7_copyOf_1904c.1 ∈ lw_g := lw_g_in (t3_in (List.mem_of_getElem? (i := 63) rfl)) rfl
def mJ7_copyOf_6403c : MD := (yJ7_copyOf_6403c, cJ7_copyOf_6403c, 4, (some (.array (.object "java/lang/Object"))), false)
theorem okJ7_copyOf_6403c : MOk mJ7_copyOf_6403c 3 := ⟨by decide +kernel, lw_g_in (t3_in (List.mem_of_getElem? (i := 82) rfl)) rfl, lw_g_in (t1_in (List.mem_of_getElem? (i := 15) rfl)) rfl, ⟨by decide +kernel, by decide +kernel, by decide +kernel⟩, by decide +kernel, fun h => absurd h (by decide)⟩
theorem stJ7_copyOf_6403c : Cond.static mJ7_copyOf_6403c.1 ∈ lw_g := lw_g_in (t3_in (List.mem_of_getElem? (i := 81) rfl)) rfl
def mJ9_min_7cf53 : MD := (yJ9_min_7cf53, cJ9_min_7cf53, 2, (some .int), false)
theorem cdJ9_min_7cf53 : Cond.code mJ9_min_7cf53.1 mJ9_min_7cf53.2.1 mJ9_min_7cf53.2.2.1 mJ9_min_7cf53.2.2.2.1 ∈ lw_g := lw_g_in (t3_in (List.mem_of_getElem? (i := 88) rfl)) rfl
theorem stJ9_min_7cf53 : Cond.static mJ9_min_7cf53.1 ∈ lw_g := lw_g_in (t3_in (List.mem_of_getElem? (i := 87) rfl)) rfl
def mX5_append : MD := (yX5_append, cX5_append, 2, none, false)
theorem okX5_append : MOk mX5_append 1 := ⟨by decide +kernel, lw_g_in (t3_in (List.mem_of_getElem? (i := 97) rfl)) rfl, lw_g_in (t1_in (List.mem_of_getElem? (i := 13) rfl)) rfl, ⟨by decide +kernel, by decide +kernel, by decide +kernel⟩, by decide +kernel, fun h => absurd h (by decide)⟩
theorem inX5_append : Cond.instanceMethod mX5_append.1 ∈ lw_g := lw_g_in (t3_in (List.mem_of_getElem? (i := 96) rfl)) rfl
theorem seX5_append : Cond.selects mX5_append.1.cls mX5_append.1 mX5_append.1 ∈ lw_g := lw_g_in (sels_in (List.mem_of_getElem? (i := 39) rfl)) rfl
def mX8_horizon : MD := (yX8_horizon, cX8_horizon, 3, (some .int), false)
theorem okX8_horizon : MOk mX8_horizon 0 := ⟨by decide +kernel, lw_g_in (t3_in (List.mem_of_getElem? (i := 101) rfl)) rfl, lw_g_in (t1_in (List.mem_of_getElem? (i := 1) rfl)) rfl, ⟨by decide +kernel, by decide +kernel, by decide +kernel⟩, by decide +kernel, fun h => absurd h (by decide)⟩
theorem inX8_horizon : Cond.instanceMethod mX8_horizon.1 ∈ lw_g := lw_g_in (t3_in (List.mem_of_getElem? (i := 100) rfl)) rfl
theorem seX8_horizon : Cond.selects mX8_horizon.1.cls mX8_horizon.1 mX8_horizon.1 ∈ lw_g := lw_g_in (sels_in (List.mem_of_getElem? (i := 40) rfl)) rfl
def mX6_overfullLevel : MD := (yX6_overfullLevel, cX6_overfullLevel, 1, (some .int), false)
theorem okX6_overfullLevel : MOk mX6_overfullLevel 0 := ⟨by decide +kernel, lw_g_in (t3_in (List.mem_of_getElem? (i := 107) rfl)) rfl, lw_g_in (t1_in (List.mem_of_getElem? (i := 2) rfl)) rfl, ⟨by decide +kernel, by decide +kernel, by decide +kernel⟩, by decide +kernel, fun h => absurd h (by decide)⟩
theorem inX6_overfullLevel : Cond.instanceMethod mX6_overfullLevel.1 ∈ lw_g := lw_g_in (t3_in (List.mem_of_getElem? (i := 106) rfl)) rfl
theorem seX6_overfullLevel : Cond.selects mX6_overfullLevel.1.cls mX6_overfullLevel.1 mX6_overfullLevel.1 ∈ lw_g := lw_g_in (sels_in (List.mem_of_getElem? (i := 41) rfl)) rfl
def mX6_countFiles : MD := (yX6_countFiles, cX6_countFiles, 4, (some .int), false)
theorem okX6_countFiles : MOk mX6_countFiles 1 := ⟨by decide +kernel, lw_g_in (t3_in (List.mem_of_getElem? (i := 111) rfl)) rfl, lw_g_in (t1_in (List.mem_of_getElem? (i := 2) rfl)) rfl, ⟨by decide +kernel, by decide +kernel, by decide +kernel⟩, by decide +kernel, fun h => absurd h (by decide)⟩
theorem inX6_countFiles : Cond.instanceMethod mX6_countFiles.1 ∈ lw_g := lw_g_in (t3_in (List.mem_of_getElem? (i := 110) rfl)) rfl
theorem seX6_countFiles : Cond.selects mX6_countFiles.1.cls mX6_countFiles.1 mX6_countFiles.1 ∈ lw_g := lw_g_in (sels_in (List.mem_of_getElem? (i := 42) rfl)) rfl
def mJx4a65c_size_8abf5 : MD := (yJx4a65c_size_8abf5, cJx4a65c_size_8abf5, 1, (some .int), false)
theorem okJx4a65c_size_8abf5 : MOk mJx4a65c_size_8abf5 0 := ⟨by decide +kernel, lw_g_in (t3_in (List.mem_of_getElem? (i := 115) rfl)) rfl, lw_g_in (t1_in (List.mem_of_getElem? (i := 5) rfl)) rfl, ⟨by decide +kernel, by decide +kernel, by decide +kernel⟩, by decide +kernel, fun h => absurd h (by decide)⟩
theorem inJx4a65c_size_8abf5 : Cond.instanceMethod mJx4a65c_size_8abf5.1 ∈ lw_g := lw_g_in (t3_in (List.mem_of_getElem? (i := 113) rfl)) rfl
theorem seJx4a65c_size_8abf5 : Cond.selects mJx4a65c_size_8abf5.1.cls mJx4a65c_size_8abf5.1 mJx4a65c_size_8abf5.1 ∈ lw_g := lw_g_in (t3_in (List.mem_of_getElem? (i := 114) rfl)) rfl
def mJx4a65c_get_915e3 : MD := (yJx4a65c_get_915e3, cJx4a65c_get_915e3, 2, (some (.object "java/lang/Object")), false)
theorem okJx4a65c_get_915e3 : MOk mJx4a65c_get_915e3 1 := ⟨by decide +kernel, lw_g_in (t3_in (List.mem_of_getElem? (i := 119) rfl)) rfl, lw_g_in (t1_in (List.mem_of_getElem? (i := 5) rfl)) rfl, ⟨by decide +kernel, by decide +kernel, by decide +kernel⟩, by decide +kernel, fun h => absurd h (by decide)⟩
theorem inJx4a65c_get_915e3 : Cond.instanceMethod mJx4a65c_get_915e3.1 ∈ lw_g := lw_g_in (t3_in (List.mem_of_getElem? (i := 117) rfl)) rfl
theorem seJx4a65c_get_915e3 : Cond.selects mJx4a65c_get_915e3.1.cls mJx4a65c_get_915e3.1 mJx4a65c_get_915e3.1 ∈ lw_g := lw_g_in (t3_in (List.mem_of_getElem? (i := 118) rfl)) rfl
def mJ15_checkIndex_7cf53 : MD := (yJ15_checkIndex_7cf53, cJ15_checkIndex_7cf53, 2, (some .int), false)
theorem okJ15_checkIndex_7cf53 : MOk mJ15_checkIndex_7cf53 2 := ⟨by decide +kernel, lw_g_in (t3_in (List.mem_of_getElem? (i := 122) rfl)) rfl, lw_g_in (t1_in (List.mem_of_getElem? (i := 17) rfl)) rfl, ⟨by decide +kernel, by decide +kernel, by decide +kernel⟩, by decide +kernel, fun h => absurd h (by decide)⟩
theorem stJ15_checkIndex_7cf53 : Cond.static mJ15_checkIndex_7cf53.1 ∈ lw_g := lw_g_in (t3_in (List.mem_of_getElem? (i := 121) rfl)) rfl
def mJ3_checkIndex_8e157 : MD := (yJ3_checkIndex_8e157, cJ3_checkIndex_8e157, 3, (some .int), false)
theorem okJ3_checkIndex_8e157 : MOk mJ3_checkIndex_8e157 3 := ⟨by decide +kernel, lw_g_in (t3_in (List.mem_of_getElem? (i := 125) rfl)) rfl, lw_g_in (t1_in (List.mem_of_getElem? (i := 18) rfl)) rfl, ⟨by decide +kernel, by decide +kernel, by decide +kernel⟩, by decide +kernel, fun h => absurd h (by decide)⟩
theorem stJ3_checkIndex_8e157 : Cond.static mJ3_checkIndex_8e157.1 ∈ lw_g := lw_g_in (t3_in (List.mem_of_getElem? (i := 124) rfl)) rfl
def mJx4a65c_elementData_915e3 : MD := (yJx4a65c_elementData_915e3, cJx4a65c_elementData_915e3, 2, (some (.object "java/lang/Object")), false)
theorem okJx4a65c_elementData_915e3 : MOk mJx4a65c_elementData_915e3 1 := ⟨by decide +kernel, lw_g_in (t3_in (List.mem_of_getElem? (i := 129) rfl)) rfl, lw_g_in (t1_in (List.mem_of_getElem? (i := 5) rfl)) rfl, ⟨by decide +kernel, by decide +kernel, by decide +kernel⟩, by decide +kernel, fun h => absurd h (by decide)⟩
theorem inJx4a65c_elementData_915e3 : Cond.instanceMethod mJx4a65c_elementData_915e3.1 ∈ lw_g := lw_g_in (t3_in (List.mem_of_getElem? (i := 127) rfl)) rfl
theorem seJx4a65c_elementData_915e3 : Cond.selects mJx4a65c_elementData_915e3.1.cls mJx4a65c_elementData_915e3.1 mJx4a65c_elementData_915e3.1 ∈ lw_g := lw_g_in (t3_in (List.mem_of_getElem? (i := 128) rfl)) rfl
def mX6_mergeDown : MD := (yX6_mergeDown, cX6_mergeDown, 4, (some .int), false)
theorem okX6_mergeDown : MOk mX6_mergeDown 2 := ⟨by decide +kernel, lw_g_in (t3_in (List.mem_of_getElem? (i := 133) rfl)) rfl, lw_g_in (t1_in (List.mem_of_getElem? (i := 2) rfl)) rfl, ⟨by decide +kernel, by decide +kernel, by decide +kernel⟩, by decide +kernel, fun h => absurd h (by decide)⟩
theorem inX6_mergeDown : Cond.instanceMethod mX6_mergeDown.1 ∈ lw_g := lw_g_in (t3_in (List.mem_of_getElem? (i := 132) rfl)) rfl
theorem seX6_mergeDown : Cond.selects mX6_mergeDown.1.cls mX6_mergeDown.1 mX6_mergeDown.1 ∈ lw_g := lw_g_in (sels_in (List.mem_of_getElem? (i := 43) rfl)) rfl
def mX6_fileOn : MD := (yX6_fileOn, cX6_fileOn, 6, (some (.object "VersionedRows$SortedFile")), false)
theorem okX6_fileOn : MOk mX6_fileOn 2 := ⟨by decide +kernel, lw_g_in (t3_in (List.mem_of_getElem? (i := 137) rfl)) rfl, lw_g_in (t1_in (List.mem_of_getElem? (i := 2) rfl)) rfl, ⟨by decide +kernel, by decide +kernel, by decide +kernel⟩, by decide +kernel, fun h => absurd h (by decide)⟩
theorem inX6_fileOn : Cond.instanceMethod mX6_fileOn.1 ∈ lw_g := lw_g_in (t3_in (List.mem_of_getElem? (i := 136) rfl)) rfl
theorem seX6_fileOn : Cond.selects mX6_fileOn.1.cls mX6_fileOn.1 mX6_fileOn.1 ∈ lw_g := lw_g_in (sels_in (List.mem_of_getElem? (i := 44) rfl)) rfl
def mX6_retire : MD := (yX6_retire, cX6_retire, 4, none, false)
theorem okX6_retire : MOk mX6_retire 1 := ⟨by decide +kernel, lw_g_in (t3_in (List.mem_of_getElem? (i := 141) rfl)) rfl, lw_g_in (t1_in (List.mem_of_getElem? (i := 2) rfl)) rfl, ⟨by decide +kernel, by decide +kernel, by decide +kernel⟩, by decide +kernel, fun h => absurd h (by decide)⟩
theorem inX6_retire : Cond.instanceMethod mX6_retire.1 ∈ lw_g := lw_g_in (t3_in (List.mem_of_getElem? (i := 140) rfl)) rfl
theorem seX6_retire : Cond.selects mX6_retire.1.cls mX6_retire.1 mX6_retire.1 ∈ lw_g := lw_g_in (sels_in (List.mem_of_getElem? (i := 45) rfl)) rfl
def mX5_meets : MD := (yX5_meets, cX5_meets, 2, (some .boolean), false)
theorem okX5_meets : MOk mX5_meets 1 := ⟨by decide +kernel, lw_g_in (t3_in (List.mem_of_getElem? (i := 145) rfl)) rfl, lw_g_in (t1_in (List.mem_of_getElem? (i := 13) rfl)) rfl, ⟨by decide +kernel, by decide +kernel, by decide +kernel⟩, by decide +kernel, fun h => absurd h (by decide)⟩
theorem inX5_meets : Cond.instanceMethod mX5_meets.1 ∈ lw_g := lw_g_in (t3_in (List.mem_of_getElem? (i := 144) rfl)) rfl
theorem seX5_meets : Cond.selects mX5_meets.1.cls mX5_meets.1 mX5_meets.1 ∈ lw_g := lw_g_in (sels_in (List.mem_of_getElem? (i := 46) rfl)) rfl
def mJx4a65c_remove_915e3 : MD := (yJx4a65c_remove_915e3, cJx4a65c_remove_915e3, 4, (some (.object "java/lang/Object")), false)
theorem okJx4a65c_remove_915e3 : MOk mJx4a65c_remove_915e3 1 := ⟨by decide +kernel, lw_g_in (t3_in (List.mem_of_getElem? (i := 149) rfl)) rfl, lw_g_in (t1_in (List.mem_of_getElem? (i := 5) rfl)) rfl, ⟨by decide +kernel, by decide +kernel, by decide +kernel⟩, by decide +kernel, fun h => absurd h (by decide)⟩
theorem inJx4a65c_remove_915e3 : Cond.instanceMethod mJx4a65c_remove_915e3.1 ∈ lw_g := lw_g_in (t3_in (List.mem_of_getElem? (i := 147) rfl)) rfl
theorem seJx4a65c_remove_915e3 : Cond.selects mJx4a65c_remove_915e3.1.cls mJx4a65c_remove_915e3.1 mJx4a65c_remove_915e3.1 ∈ lw_g := lw_g_in (t3_in (List.mem_of_getElem? (i := 148) rfl)) rfl
def mJx4a65c_fastRemove_b59b0 : MD := (yJx4a65c_fastRemove_b59b0, cJx4a65c_fastRemove_b59b0, 4, none, false)
theorem okJx4a65c_fastRemove_b59b0 : MOk mJx4a65c_fastRemove_b59b0 2 := ⟨by decide +kernel, lw_g_in (t3_in (List.mem_of_getElem? (i := 153) rfl)) rfl, lw_g_in (t1_in (List.mem_of_getElem? (i := 5) rfl)) rfl, ⟨by decide +kernel, by decide +kernel, by decide +kernel⟩, by decide +kernel, fun h => absurd h (by decide)⟩
theorem inJx4a65c_fastRemove_b59b0 : Cond.instanceMethod mJx4a65c_fastRemove_b59b0.1 ∈ lw_g := lw_g_in (t3_in (List.mem_of_getElem? (i := 152) rfl)) rfl
theorem seJx4a65c_fastRemove_b59b0 : Cond.selects mJx4a65c_fastRemove_b59b0.1.cls mJx4a65c_fastRemove_b59b0.1 mJx4a65c_fastRemove_b59b0.1 ∈ lw_g := lw_g_in (sels_in (List.mem_of_getElem? (i := 47) rfl)) rfl
def mX6_moveRetired : MD := (yX6_moveRetired, cX6_moveRetired, 8, (some .int), false)
theorem okX6_moveRetired : MOk mX6_moveRetired 2 := ⟨by decide +kernel, lw_g_in (t3_in (List.mem_of_getElem? (i := 158) rfl)) rfl, lw_g_in (t1_in (List.mem_of_getElem? (i := 2) rfl)) rfl, ⟨by decide +kernel, by decide +kernel, by decide +kernel⟩, by decide +kernel, fun h => absurd h (by decide)⟩
theorem inX6_moveRetired : Cond.instanceMethod mX6_moveRetired.1 ∈ lw_g := lw_g_in (t3_in (List.mem_of_getElem? (i := 157) rfl)) rfl
theorem seX6_moveRetired : Cond.selects mX6_moveRetired.1.cls mX6_moveRetired.1 mX6_moveRetired.1 ∈ lw_g := lw_g_in (sels_in (List.mem_of_getElem? (i := 48) rfl)) rfl
def mX4_init : MD := (yX4_init, cX4_init, 3, none, true)
theorem okX4_init : MOk mX4_init 2 := ⟨by decide +kernel, lw_g_in (t3_in (List.mem_of_getElem? (i := 163) rfl)) rfl, lw_g_in (t1_in (List.mem_of_getElem? (i := 19) rfl)) rfl, ⟨by decide +kernel, by decide +kernel, by decide +kernel⟩, by decide +kernel, fun _ => rfl⟩
theorem inX4_init : Cond.instanceMethod mX4_init.1 ∈ lw_g := lw_g_in (t3_in (List.mem_of_getElem? (i := 162) rfl)) rfl
def mX0_isInRetiredFile : MD := (yX0_isInRetiredFile, cX0_isInRetiredFile, 1, (some .boolean), false)
theorem okX0_isInRetiredFile : MOk mX0_isInRetiredFile 0 := ⟨by decide +kernel, lw_g_in (t3_in (List.mem_of_getElem? (i := 181) rfl)) rfl, lw_g_in (t1_in (List.mem_of_getElem? (i := 9) rfl)) rfl, ⟨by decide +kernel, by decide +kernel, by decide +kernel⟩, by decide +kernel, fun h => absurd h (by decide)⟩
theorem inX0_isInRetiredFile : Cond.instanceMethod mX0_isInRetiredFile.1 ∈ lw_g := lw_g_in (t3_in (List.mem_of_getElem? (i := 180) rfl)) rfl
theorem seX0_isInRetiredFile : Cond.selects mX0_isInRetiredFile.1.cls mX0_isInRetiredFile.1 mX0_isInRetiredFile.1 ∈ lw_g := lw_g_in (sels_in (List.mem_of_getElem? (i := 49) rfl)) rfl
def mX4_keeps : MD := (yX4_keeps, cX4_keeps, 2, (some .boolean), false)
theorem okX4_keeps : MOk mX4_keeps 1 := ⟨by decide +kernel, lw_g_in (t3_in (List.mem_of_getElem? (i := 185) rfl)) rfl, lw_g_in (t1_in (List.mem_of_getElem? (i := 19) rfl)) rfl, ⟨by decide +kernel, by decide +kernel, by decide +kernel⟩, by decide +kernel, fun h => absurd h (by decide)⟩
theorem inX4_keeps : Cond.instanceMethod mX4_keeps.1 ∈ lw_g := lw_g_in (t3_in (List.mem_of_getElem? (i := 184) rfl)) rfl
theorem seX4_keeps : Cond.selects mX4_keeps.1.cls mX4_keeps.1 mX4_keeps.1 ∈ lw_g := lw_g_in (sels_in (List.mem_of_getElem? (i := 50) rfl)) rfl
def mX5_isFullBefore : MD := (yX5_isFullBefore, cX5_isFullBefore, 2, (some .boolean), false)
theorem okX5_isFullBefore : MOk mX5_isFullBefore 1 := ⟨by decide +kernel, lw_g_in (t3_in (List.mem_of_getElem? (i := 189) rfl)) rfl, lw_g_in (t1_in (List.mem_of_getElem? (i := 13) rfl)) rfl, ⟨by decide +kernel, by decide +kernel, by decide +kernel⟩, by decide +kernel, fun h => absurd h (by decide)⟩
theorem inX5_isFullBefore : Cond.instanceMethod mX5_isFullBefore.1 ∈ lw_g := lw_g_in (t3_in (List.mem_of_getElem? (i := 188) rfl)) rfl
theorem seX5_isFullBefore : Cond.selects mX5_isFullBefore.1.cls mX5_isFullBefore.1 mX5_isFullBefore.1 ∈ lw_g := lw_g_in (sels_in (List.mem_of_getElem? (i := 51) rfl)) rfl
def mX8_tear : MD := (yX8_tear, cX8_tear, 6, (some .int), false)
theorem okX8_tear : MOk mX8_tear 2 := ⟨by decide +kernel, lw_g_in (t3_in (List.mem_of_getElem? (i := 193) rfl)) rfl, lw_g_in (t1_in (List.mem_of_getElem? (i := 1) rfl)) rfl, ⟨by decide +kernel, by decide +kernel, by decide +kernel⟩, by decide +kernel, fun h => absurd h (by decide)⟩
theorem inX8_tear : Cond.instanceMethod mX8_tear.1 ∈ lw_g := lw_g_in (t3_in (List.mem_of_getElem? (i := 191) rfl)) rfl
theorem seX8_tear : Cond.selects mX8_tear.1.cls mX8_tear.1 mX8_tear.1 ∈ lw_g := lw_g_in (t3_in (List.mem_of_getElem? (i := 192) rfl)) rfl
def mX8_loseOpenOnes : MD := (yX8_loseOpenOnes, cX8_loseOpenOnes, 3, (some .int), false)
theorem okX8_loseOpenOnes : MOk mX8_loseOpenOnes 0 := ⟨by decide +kernel, lw_g_in (t3_in (List.mem_of_getElem? (i := 197) rfl)) rfl, lw_g_in (t1_in (List.mem_of_getElem? (i := 1) rfl)) rfl, ⟨by decide +kernel, by decide +kernel, by decide +kernel⟩, by decide +kernel, fun h => absurd h (by decide)⟩
theorem inX8_loseOpenOnes : Cond.instanceMethod mX8_loseOpenOnes.1 ∈ lw_g := lw_g_in (t3_in (List.mem_of_getElem? (i := 196) rfl)) rfl
theorem seX8_loseOpenOnes : Cond.selects mX8_loseOpenOnes.1.cls mX8_loseOpenOnes.1 mX8_loseOpenOnes.1 ∈ lw_g := lw_g_in (sels_in (List.mem_of_getElem? (i := 52) rfl)) rfl
def mX8_abort : MD := (yX8_abort, cX8_abort, 3, (some .boolean), false)
theorem okX8_abort : MOk mX8_abort 1 := ⟨by decide +kernel, lw_g_in (t3_in (List.mem_of_getElem? (i := 201) rfl)) rfl, lw_g_in (t1_in (List.mem_of_getElem? (i := 1) rfl)) rfl, ⟨by decide +kernel, by decide +kernel, by decide +kernel⟩, by decide +kernel, fun h => absurd h (by decide)⟩
theorem inX8_abort : Cond.instanceMethod mX8_abort.1 ∈ lw_g := lw_g_in (t3_in (List.mem_of_getElem? (i := 199) rfl)) rfl
theorem seX8_abort : Cond.selects mX8_abort.1.cls mX8_abort.1 mX8_abort.1 ∈ lw_g := lw_g_in (t3_in (List.mem_of_getElem? (i := 200) rfl)) rfl
def mX8_flush : MD := (yX8_flush, cX8_flush, 1, (some .int), false)
theorem okX8_flush : MOk mX8_flush 0 := ⟨by decide +kernel, lw_g_in (t3_in (List.mem_of_getElem? (i := 205) rfl)) rfl, lw_g_in (t1_in (List.mem_of_getElem? (i := 1) rfl)) rfl, ⟨by decide +kernel, by decide +kernel, by decide +kernel⟩, by decide +kernel, fun h => absurd h (by decide)⟩
theorem inX8_flush : Cond.instanceMethod mX8_flush.1 ∈ lw_g := lw_g_in (t3_in (List.mem_of_getElem? (i := 203) rfl)) rfl
theorem seX8_flush : Cond.selects mX8_flush.1.cls mX8_flush.1 mX8_flush.1 ∈ lw_g := lw_g_in (t3_in (List.mem_of_getElem? (i := 204) rfl)) rfl
def mX8_compact : MD := (yX8_compact, cX8_compact, 2, (some .int), false)
theorem okX8_compact : MOk mX8_compact 0 := ⟨by decide +kernel, lw_g_in (t3_in (List.mem_of_getElem? (i := 209) rfl)) rfl, lw_g_in (t1_in (List.mem_of_getElem? (i := 1) rfl)) rfl, ⟨by decide +kernel, by decide +kernel, by decide +kernel⟩, by decide +kernel, fun h => absurd h (by decide)⟩
theorem inX8_compact : Cond.instanceMethod mX8_compact.1 ∈ lw_g := lw_g_in (t3_in (List.mem_of_getElem? (i := 207) rfl)) rfl
theorem seX8_compact : Cond.selects mX8_compact.1.cls mX8_compact.1 mX8_compact.1 ∈ lw_g := lw_g_in (t3_in (List.mem_of_getElem? (i := 208) rfl)) rfl
def mX8_crash : MD := (yX8_crash, cX8_crash, 1, (some .int), false)
theorem okX8_crash : MOk mX8_crash 0 := ⟨by decide +kernel, lw_g_in (t3_in (List.mem_of_getElem? (i := 214) rfl)) rfl, lw_g_in (t1_in (List.mem_of_getElem? (i := 1) rfl)) rfl, ⟨by decide +kernel, by decide +kernel, by decide +kernel⟩, by decide +kernel, fun h => absurd h (by decide)⟩
theorem inX8_crash : Cond.instanceMethod mX8_crash.1 ∈ lw_g := lw_g_in (t3_in (List.mem_of_getElem? (i := 212) rfl)) rfl
theorem seX8_crash : Cond.selects mX8_crash.1.cls mX8_crash.1 mX8_crash.1 ∈ lw_g := lw_g_in (t3_in (List.mem_of_getElem? (i := 213) rfl)) rfl
def mX8_result : MD := (yX8_result, cX8_result, 2, (some .int), false)
theorem okX8_result : MOk mX8_result 1 := ⟨by decide +kernel, lw_g_in (t3_in (List.mem_of_getElem? (i := 218) rfl)) rfl, lw_g_in (t1_in (List.mem_of_getElem? (i := 1) rfl)) rfl, ⟨by decide +kernel, by decide +kernel, by decide +kernel⟩, by decide +kernel, fun h => absurd h (by decide)⟩
theorem inX8_result : Cond.instanceMethod mX8_result.1 ∈ lw_g := lw_g_in (t3_in (List.mem_of_getElem? (i := 216) rfl)) rfl
theorem seX8_result : Cond.selects mX8_result.1.cls mX8_result.1 mX8_result.1 ∈ lw_g := lw_g_in (t3_in (List.mem_of_getElem? (i := 217) rfl)) rfl
def mX8_plan : MD := (yX8_plan, cX8_plan, 2, (some .long), false)
theorem okX8_plan : MOk mX8_plan 1 := ⟨by decide +kernel, lw_g_in (t3_in (List.mem_of_getElem? (i := 222) rfl)) rfl, lw_g_in (t1_in (List.mem_of_getElem? (i := 1) rfl)) rfl, ⟨by decide +kernel, by decide +kernel, by decide +kernel⟩, by decide +kernel, fun h => absurd h (by decide)⟩
theorem inX8_plan : Cond.instanceMethod mX8_plan.1 ∈ lw_g := lw_g_in (t3_in (List.mem_of_getElem? (i := 220) rfl)) rfl
theorem seX8_plan : Cond.selects mX8_plan.1.cls mX8_plan.1 mX8_plan.1 ∈ lw_g := lw_g_in (t3_in (List.mem_of_getElem? (i := 221) rfl)) rfl
def mX8_state : MD := (yX8_state, cX8_state, 3, (some .int), false)
theorem okX8_state : MOk mX8_state 1 := ⟨by decide +kernel, lw_g_in (t3_in (List.mem_of_getElem? (i := 227) rfl)) rfl, lw_g_in (t1_in (List.mem_of_getElem? (i := 1) rfl)) rfl, ⟨by decide +kernel, by decide +kernel, by decide +kernel⟩, by decide +kernel, fun h => absurd h (by decide)⟩
theorem inX8_state : Cond.instanceMethod mX8_state.1 ∈ lw_g := lw_g_in (t3_in (List.mem_of_getElem? (i := 225) rfl)) rfl
theorem seX8_state : Cond.selects mX8_state.1.cls mX8_state.1 mX8_state.1 ∈ lw_g := lw_g_in (t3_in (List.mem_of_getElem? (i := 226) rfl)) rfl
def mX8_about : MD := (yX8_about, cX8_about, 2, (some .int), false)
theorem okX8_about : MOk mX8_about 1 := ⟨by decide +kernel, lw_g_in (t3_in (List.mem_of_getElem? (i := 231) rfl)) rfl, lw_g_in (t1_in (List.mem_of_getElem? (i := 1) rfl)) rfl, ⟨by decide +kernel, by decide +kernel, by decide +kernel⟩, by decide +kernel, fun h => absurd h (by decide)⟩
theorem inX8_about : Cond.instanceMethod mX8_about.1 ∈ lw_g := lw_g_in (t3_in (List.mem_of_getElem? (i := 229) rfl)) rfl
theorem seX8_about : Cond.selects mX8_about.1.cls mX8_about.1 mX8_about.1 ∈ lw_g := lw_g_in (t3_in (List.mem_of_getElem? (i := 230) rfl)) rfl
def mX8_typeOfTop : MD := (yX8_typeOfTop, cX8_typeOfTop, 2, (some .int), false)
theorem okX8_typeOfTop : MOk mX8_typeOfTop 0 := ⟨by decide +kernel, lw_g_in (t3_in (List.mem_of_getElem? (i := 235) rfl)) rfl, lw_g_in (t1_in (List.mem_of_getElem? (i := 1) rfl)) rfl, ⟨by decide +kernel, by decide +kernel, by decide +kernel⟩, by decide +kernel, fun h => absurd h (by decide)⟩
theorem inX8_typeOfTop : Cond.instanceMethod mX8_typeOfTop.1 ∈ lw_g := lw_g_in (t3_in (List.mem_of_getElem? (i := 234) rfl)) rfl
theorem seX8_typeOfTop : Cond.selects mX8_typeOfTop.1.cls mX8_typeOfTop.1 mX8_typeOfTop.1 ∈ lw_g := lw_g_in (sels_in (List.mem_of_getElem? (i := 53) rfl)) rfl
def mX8_files : MD := (yX8_files, cX8_files, 2, (some .int), false)
theorem okX8_files : MOk mX8_files 1 := ⟨by decide +kernel, lw_g_in (t3_in (List.mem_of_getElem? (i := 239) rfl)) rfl, lw_g_in (t1_in (List.mem_of_getElem? (i := 1) rfl)) rfl, ⟨by decide +kernel, by decide +kernel, by decide +kernel⟩, by decide +kernel, fun h => absurd h (by decide)⟩
theorem inX8_files : Cond.instanceMethod mX8_files.1 ∈ lw_g := lw_g_in (t3_in (List.mem_of_getElem? (i := 237) rfl)) rfl
theorem seX8_files : Cond.selects mX8_files.1.cls mX8_files.1 mX8_files.1 ∈ lw_g := lw_g_in (t3_in (List.mem_of_getElem? (i := 238) rfl)) rfl
def mX8_file : MD := (yX8_file, cX8_file, 5, (some .int), false)
theorem okX8_file : MOk mX8_file 3 := ⟨by decide +kernel, lw_g_in (t4_in (List.mem_of_getElem? (i := 3) rfl)) rfl, lw_g_in (t1_in (List.mem_of_getElem? (i := 1) rfl)) rfl, ⟨by decide +kernel, by decide +kernel, by decide +kernel⟩, by decide +kernel, fun h => absurd h (by decide)⟩
theorem inX8_file : Cond.instanceMethod mX8_file.1 ∈ lw_g := lw_g_in (t4_in (List.mem_of_getElem? (i := 1) rfl)) rfl
theorem seX8_file : Cond.selects mX8_file.1.cls mX8_file.1 mX8_file.1 ∈ lw_g := lw_g_in (t4_in (List.mem_of_getElem? (i := 2) rfl)) rfl
def mX5_tell : MD := (yX5_tell, cX5_tell, 2, (some .int), false)
theorem okX5_tell : MOk mX5_tell 1 := ⟨by decide +kernel, lw_g_in (t4_in (List.mem_of_getElem? (i := 8) rfl)) rfl, lw_g_in (t1_in (List.mem_of_getElem? (i := 13) rfl)) rfl, ⟨by decide +kernel, by decide +kernel, by decide +kernel⟩, by decide +kernel, fun h => absurd h (by decide)⟩
theorem inX5_tell : Cond.instanceMethod mX5_tell.1 ∈ lw_g := lw_g_in (t4_in (List.mem_of_getElem? (i := 7) rfl)) rfl
theorem seX5_tell : Cond.selects mX5_tell.1.cls mX5_tell.1 mX5_tell.1 ∈ lw_g := lw_g_in (sels_in (List.mem_of_getElem? (i := 54) rfl)) rfl
def mX9_init : MD := (yX9_init, cX9_init, 1, none, true)
theorem okX9_init : MOk mX9_init 0 := ⟨by decide +kernel, lw_g_in (t4_in (List.mem_of_getElem? (i := 13) rfl)) rfl, lw_g_in (t1_in (List.mem_of_getElem? (i := 6) rfl)) rfl, ⟨by decide +kernel, by decide +kernel, by decide +kernel⟩, by decide +kernel, fun _ => rfl⟩
theorem inX9_init : Cond.instanceMethod mX9_init.1 ∈ lw_g := lw_g_in (t4_in (List.mem_of_getElem? (i := 12) rfl)) rfl
def mX9_say : MD := (yX9_say, cX9_say, 8, (some .boolean), false)
theorem okX9_say : MOk mX9_say 2 := ⟨by decide +kernel, lw_g_in (t4_in (List.mem_of_getElem? (i := 133) rfl)) rfl, lw_g_in (t1_in (List.mem_of_getElem? (i := 6) rfl)) rfl, ⟨by decide +kernel, by decide +kernel, by decide +kernel⟩, by decide +kernel, fun h => absurd h (by decide)⟩
theorem inX9_say : Cond.instanceMethod mX9_say.1 ∈ lw_g := lw_g_in (t4_in (List.mem_of_getElem? (i := 131) rfl)) rfl
theorem seX9_say : Cond.selects mX9_say.1.cls mX9_say.1 mX9_say.1 ∈ lw_g := lw_g_in (t4_in (List.mem_of_getElem? (i := 132) rfl)) rfl
def mX9_isName : MD := (yX9_isName, cX9_isName, 4, (some .boolean), false)
theorem okX9_isName : MOk mX9_isName 1 := ⟨by decide +kernel, lw_g_in (t4_in (List.mem_of_getElem? (i := 136) rfl)) rfl, lw_g_in (t1_in (List.mem_of_getElem? (i := 6) rfl)) rfl, ⟨by decide +kernel, by decide +kernel, by decide +kernel⟩, by decide +kernel, fun h => absurd h (by decide)⟩
theorem stX9_isName : Cond.static mX9_isName.1 ∈ lw_g := lw_g_in (t4_in (List.mem_of_getElem? (i := 135) rfl)) rfl
def mX9_needs : MD := (yX9_needs, cX9_needs, 1, (some .int), false)
theorem okX9_needs : MOk mX9_needs 1 := ⟨by decide +kernel, lw_g_in (t4_in (List.mem_of_getElem? (i := 139) rfl)) rfl, lw_g_in (t1_in (List.mem_of_getElem? (i := 6) rfl)) rfl, ⟨by decide +kernel, by decide +kernel, by decide +kernel⟩, by decide +kernel, fun h => absurd h (by decide)⟩
theorem stX9_needs : Cond.static mX9_needs.1 ∈ lw_g := lw_g_in (t4_in (List.mem_of_getElem? (i := 138) rfl)) rfl
def mX9_index : MD := (yX9_index, cX9_index, 4, (some .int), false)
theorem okX9_index : MOk mX9_index 0 := ⟨by decide +kernel, lw_g_in (t4_in (List.mem_of_getElem? (i := 143) rfl)) rfl, lw_g_in (t1_in (List.mem_of_getElem? (i := 6) rfl)) rfl, ⟨by decide +kernel, by decide +kernel, by decide +kernel⟩, by decide +kernel, fun h => absurd h (by decide)⟩
theorem inX9_index : Cond.instanceMethod mX9_index.1 ∈ lw_g := lw_g_in (t4_in (List.mem_of_getElem? (i := 141) rfl)) rfl
theorem seX9_index : Cond.selects mX9_index.1.cls mX9_index.1 mX9_index.1 ∈ lw_g := lw_g_in (t4_in (List.mem_of_getElem? (i := 142) rfl)) rfl
def mX9_begin : MD := (yX9_begin, cX9_begin, 1, (some .int), false)
theorem okX9_begin : MOk mX9_begin 0 := ⟨by decide +kernel, lw_g_in (t4_in (List.mem_of_getElem? (i := 147) rfl)) rfl, lw_g_in (t1_in (List.mem_of_getElem? (i := 6) rfl)) rfl, ⟨by decide +kernel, by decide +kernel, by decide +kernel⟩, by decide +kernel, fun h => absurd h (by decide)⟩
theorem inX9_begin : Cond.instanceMethod mX9_begin.1 ∈ lw_g := lw_g_in (t4_in (List.mem_of_getElem? (i := 145) rfl)) rfl
theorem seX9_begin : Cond.selects mX9_begin.1.cls mX9_begin.1 mX9_begin.1 ∈ lw_g := lw_g_in (t4_in (List.mem_of_getElem? (i := 146) rfl)) rfl
def mX9_opens : MD := (yX9_opens, cX9_opens, 3, (some .int), false)
theorem okX9_opens : MOk mX9_opens 0 := ⟨by decide +kernel, lw_g_in (t4_in (List.mem_of_getElem? (i := 151) rfl)) rfl, lw_g_in (t1_in (List.mem_of_getElem? (i := 6) rfl)) rfl, ⟨by decide +kernel, by decide +kernel, by decide +kernel⟩, by decide +kernel, fun h => absurd h (by decide)⟩
theorem inX9_opens : Cond.instanceMethod mX9_opens.1 ∈ lw_g := lw_g_in (t4_in (List.mem_of_getElem? (i := 150) rfl)) rfl
theorem seX9_opens : Cond.selects mX9_opens.1.cls mX9_opens.1 mX9_opens.1 ∈ lw_g := lw_g_in (sels_in (List.mem_of_getElem? (i := 55) rfl)) rfl
def mX9_read : MD := (yX9_read, cX9_read, 5, (some .int), false)
theorem okX9_read : MOk mX9_read 3 := ⟨by decide +kernel, lw_g_in (t4_in (List.mem_of_getElem? (i := 155) rfl)) rfl, lw_g_in (t1_in (List.mem_of_getElem? (i := 6) rfl)) rfl, ⟨by decide +kernel, by decide +kernel, by decide +kernel⟩, by decide +kernel, fun h => absurd h (by decide)⟩
theorem inX9_read : Cond.instanceMethod mX9_read.1 ∈ lw_g := lw_g_in (t4_in (List.mem_of_getElem? (i := 153) rfl)) rfl
theorem seX9_read : Cond.selects mX9_read.1.cls mX9_read.1 mX9_read.1 ∈ lw_g := lw_g_in (t4_in (List.mem_of_getElem? (i := 154) rfl)) rfl
def mX9_open : MD := (yX9_open, cX9_open, 2, (some .boolean), false)
theorem okX9_open : MOk mX9_open 1 := ⟨by decide +kernel, lw_g_in (t4_in (List.mem_of_getElem? (i := 159) rfl)) rfl, lw_g_in (t1_in (List.mem_of_getElem? (i := 6) rfl)) rfl, ⟨by decide +kernel, by decide +kernel, by decide +kernel⟩, by decide +kernel, fun h => absurd h (by decide)⟩
theorem inX9_open : Cond.instanceMethod mX9_open.1 ∈ lw_g := lw_g_in (t4_in (List.mem_of_getElem? (i := 158) rfl)) rfl
theorem seX9_open : Cond.selects mX9_open.1.cls mX9_open.1 mX9_open.1 ∈ lw_g := lw_g_in (sels_in (List.mem_of_getElem? (i := 56) rfl)) rfl
def mX9_isKey : MD := (yX9_isKey, cX9_isKey, 1, (some .boolean), false)
theorem okX9_isKey : MOk mX9_isKey 1 := ⟨by decide +kernel, lw_g_in (t4_in (List.mem_of_getElem? (i := 162) rfl)) rfl, lw_g_in (t1_in (List.mem_of_getElem? (i := 6) rfl)) rfl, ⟨by decide +kernel, by decide +kernel, by decide +kernel⟩, by decide +kernel, fun h => absurd h (by decide)⟩
theorem stX9_isKey : Cond.static mX9_isKey.1 ∈ lw_g := lw_g_in (t4_in (List.mem_of_getElem? (i := 161) rfl)) rfl
def mX9_rowFor : MD := (yX9_rowFor, cX9_rowFor, 5, (some .boolean), false)
theorem okX9_rowFor : MOk mX9_rowFor 2 := ⟨by decide +kernel, lw_g_in (t4_in (List.mem_of_getElem? (i := 166) rfl)) rfl, lw_g_in (t1_in (List.mem_of_getElem? (i := 6) rfl)) rfl, ⟨by decide +kernel, by decide +kernel, by decide +kernel⟩, by decide +kernel, fun h => absurd h (by decide)⟩
theorem inX9_rowFor : Cond.instanceMethod mX9_rowFor.1 ∈ lw_g := lw_g_in (t4_in (List.mem_of_getElem? (i := 165) rfl)) rfl
theorem seX9_rowFor : Cond.selects mX9_rowFor.1.cls mX9_rowFor.1 mX9_rowFor.1 ∈ lw_g := lw_g_in (sels_in (List.mem_of_getElem? (i := 57) rfl)) rfl
def mX9_rowAt : MD := (yX9_rowAt, cX9_rowAt, 6, (some .boolean), false)
theorem okX9_rowAt : MOk mX9_rowAt 2 := ⟨by decide +kernel, lw_g_in (t4_in (List.mem_of_getElem? (i := 170) rfl)) rfl, lw_g_in (t1_in (List.mem_of_getElem? (i := 6) rfl)) rfl, ⟨by decide +kernel, by decide +kernel, by decide +kernel⟩, by decide +kernel, fun h => absurd h (by decide)⟩
theorem inX9_rowAt : Cond.instanceMethod mX9_rowAt.1 ∈ lw_g := lw_g_in (t4_in (List.mem_of_getElem? (i := 169) rfl)) rfl
theorem seX9_rowAt : Cond.selects mX9_rowAt.1.cls mX9_rowAt.1 mX9_rowAt.1 ∈ lw_g := lw_g_in (sels_in (List.mem_of_getElem? (i := 58) rfl)) rfl
def mX9_seen : MD := (yX9_seen, cX9_seen, 7, (some .int), false)
theorem okX9_seen : MOk mX9_seen 4 := ⟨by decide +kernel, lw_g_in (t4_in (List.mem_of_getElem? (i := 174) rfl)) rfl, lw_g_in (t1_in (List.mem_of_getElem? (i := 6) rfl)) rfl, ⟨by decide +kernel, by decide +kernel, by decide +kernel⟩, by decide +kernel, fun h => absurd h (by decide)⟩
theorem inX9_seen : Cond.instanceMethod mX9_seen.1 ∈ lw_g := lw_g_in (t4_in (List.mem_of_getElem? (i := 173) rfl)) rfl
theorem seX9_seen : Cond.selects mX9_seen.1.cls mX9_seen.1 mX9_seen.1 ∈ lw_g := lw_g_in (sels_in (List.mem_of_getElem? (i := 59) rfl)) rfl
def mX9_write : MD := (yX9_write, cX9_write, 6, (some .boolean), false)
theorem okX9_write : MOk mX9_write 5 := ⟨by decide +kernel, lw_g_in (t4_in (List.mem_of_getElem? (i := 178) rfl)) rfl, lw_g_in (t1_in (List.mem_of_getElem? (i := 6) rfl)) rfl, ⟨by decide +kernel, by decide +kernel, by decide +kernel⟩, by decide +kernel, fun h => absurd h (by decide)⟩
theorem inX9_write : Cond.instanceMethod mX9_write.1 ∈ lw_g := lw_g_in (t4_in (List.mem_of_getElem? (i := 176) rfl)) rfl
theorem seX9_write : Cond.selects mX9_write.1.cls mX9_write.1 mX9_write.1 ∈ lw_g := lw_g_in (t4_in (List.mem_of_getElem? (i := 177) rfl)) rfl
def mX9_remove : MD := (yX9_remove, cX9_remove, 3, (some .boolean), false)
theorem okX9_remove : MOk mX9_remove 2 := ⟨by decide +kernel, lw_g_in (t4_in (List.mem_of_getElem? (i := 182) rfl)) rfl, lw_g_in (t1_in (List.mem_of_getElem? (i := 6) rfl)) rfl, ⟨by decide +kernel, by decide +kernel, by decide +kernel⟩, by decide +kernel, fun h => absurd h (by decide)⟩
theorem inX9_remove : Cond.instanceMethod mX9_remove.1 ∈ lw_g := lw_g_in (t4_in (List.mem_of_getElem? (i := 180) rfl)) rfl
theorem seX9_remove : Cond.selects mX9_remove.1.cls mX9_remove.1 mX9_remove.1 ∈ lw_g := lw_g_in (t4_in (List.mem_of_getElem? (i := 181) rfl)) rfl
def mX9_commit : MD := (yX9_commit, cX9_commit, 3, (some .int), false)
theorem okX9_commit : MOk mX9_commit 1 := ⟨by decide +kernel, lw_g_in (t4_in (List.mem_of_getElem? (i := 186) rfl)) rfl, lw_g_in (t1_in (List.mem_of_getElem? (i := 6) rfl)) rfl, ⟨by decide +kernel, by decide +kernel, by decide +kernel⟩, by decide +kernel, fun h => absurd h (by decide)⟩
theorem inX9_commit : Cond.instanceMethod mX9_commit.1 ∈ lw_g := lw_g_in (t4_in (List.mem_of_getElem? (i := 184) rfl)) rfl
theorem seX9_commit : Cond.selects mX9_commit.1.cls mX9_commit.1 mX9_commit.1 ∈ lw_g := lw_g_in (t4_in (List.mem_of_getElem? (i := 185) rfl)) rfl
def mX9_beaten : MD := (yX9_beaten, cX9_beaten, 4, (some .boolean), false)
theorem okX9_beaten : MOk mX9_beaten 1 := ⟨by decide +kernel, lw_g_in (t4_in (List.mem_of_getElem? (i := 190) rfl)) rfl, lw_g_in (t1_in (List.mem_of_getElem? (i := 6) rfl)) rfl, ⟨by decide +kernel, by decide +kernel, by decide +kernel⟩, by decide +kernel, fun h => absurd h (by decide)⟩
theorem inX9_beaten : Cond.instanceMethod mX9_beaten.1 ∈ lw_g := lw_g_in (t4_in (List.mem_of_getElem? (i := 189) rfl)) rfl
theorem seX9_beaten : Cond.selects mX9_beaten.1.cls mX9_beaten.1 mX9_beaten.1 ∈ lw_g := lw_g_in (sels_in (List.mem_of_getElem? (i := 60) rfl)) rfl
def mX9_reads : MD := (yX9_reads, cX9_reads, 4, (some .boolean), false)
theorem okX9_reads : MOk mX9_reads 1 := ⟨by decide +kernel, lw_g_in (t4_in (List.mem_of_getElem? (i := 194) rfl)) rfl, lw_g_in (t1_in (List.mem_of_getElem? (i := 6) rfl)) rfl, ⟨by decide +kernel, by decide +kernel, by decide +kernel⟩, by decide +kernel, fun h => absurd h (by decide)⟩
theorem inX9_reads : Cond.instanceMethod mX9_reads.1 ∈ lw_g := lw_g_in (t4_in (List.mem_of_getElem? (i := 193) rfl)) rfl
theorem seX9_reads : Cond.selects mX9_reads.1.cls mX9_reads.1 mX9_reads.1 ∈ lw_g := lw_g_in (sels_in (List.mem_of_getElem? (i := 61) rfl)) rfl
def mX9_batch : MD := (yX9_batch, cX9_batch, 13, (some .int), false)
theorem okX9_batch : MOk mX9_batch 2 := ⟨by decide +kernel, lw_g_in (t4_in (List.mem_of_getElem? (i := 198) rfl)) rfl, lw_g_in (t1_in (List.mem_of_getElem? (i := 6) rfl)) rfl, ⟨by decide +kernel, by decide +kernel, by decide +kernel⟩, by decide +kernel, fun h => absurd h (by decide)⟩
theorem inX9_batch : Cond.instanceMethod mX9_batch.1 ∈ lw_g := lw_g_in (t4_in (List.mem_of_getElem? (i := 197) rfl)) rfl
theorem seX9_batch : Cond.selects mX9_batch.1.cls mX9_batch.1 mX9_batch.1 ∈ lw_g := lw_g_in (sels_in (List.mem_of_getElem? (i := 62) rfl)) rfl
def mX9_value : MD := (yX9_value, cX9_value, 5, (some .int), false)
theorem okX9_value : MOk mX9_value 1 := ⟨by decide +kernel, lw_g_in (t4_in (List.mem_of_getElem? (i := 202) rfl)) rfl, lw_g_in (t1_in (List.mem_of_getElem? (i := 6) rfl)) rfl, ⟨by decide +kernel, by decide +kernel, by decide +kernel⟩, by decide +kernel, fun h => absurd h (by decide)⟩
theorem inX9_value : Cond.instanceMethod mX9_value.1 ∈ lw_g := lw_g_in (t4_in (List.mem_of_getElem? (i := 201) rfl)) rfl
theorem seX9_value : Cond.selects mX9_value.1.cls mX9_value.1 mX9_value.1 ∈ lw_g := lw_g_in (sels_in (List.mem_of_getElem? (i := 63) rfl)) rfl
def mX9_starts : MD := (yX9_starts, cX9_starts, 5, (some .boolean), false)
theorem okX9_starts : MOk mX9_starts 2 := ⟨by decide +kernel, lw_g_in (t4_in (List.mem_of_getElem? (i := 205) rfl)) rfl, lw_g_in (t1_in (List.mem_of_getElem? (i := 6) rfl)) rfl, ⟨by decide +kernel, by decide +kernel, by decide +kernel⟩, by decide +kernel, fun h => absurd h (by decide)⟩
theorem stX9_starts : Cond.static mX9_starts.1 ∈ lw_g := lw_g_in (t4_in (List.mem_of_getElem? (i := 204) rfl)) rfl
def mX9_two : MD := (yX9_two, cX9_two, 4, (some .int), false)
theorem okX9_two : MOk mX9_two 3 := ⟨by decide +kernel, lw_g_in (t4_in (List.mem_of_getElem? (i := 208) rfl)) rfl, lw_g_in (t1_in (List.mem_of_getElem? (i := 6) rfl)) rfl, ⟨by decide +kernel, by decide +kernel, by decide +kernel⟩, by decide +kernel, fun h => absurd h (by decide)⟩
theorem stX9_two : Cond.static mX9_two.1 ∈ lw_g := lw_g_in (t4_in (List.mem_of_getElem? (i := 207) rfl)) rfl
def mX9_entry : MD := (yX9_entry, cX9_entry, 6, none, false)
theorem okX9_entry : MOk mX9_entry 4 := ⟨by decide +kernel, lw_g_in (t4_in (List.mem_of_getElem? (i := 212) rfl)) rfl, lw_g_in (t1_in (List.mem_of_getElem? (i := 6) rfl)) rfl, ⟨by decide +kernel, by decide +kernel, by decide +kernel⟩, by decide +kernel, fun h => absurd h (by decide)⟩
theorem inX9_entry : Cond.instanceMethod mX9_entry.1 ∈ lw_g := lw_g_in (t4_in (List.mem_of_getElem? (i := 211) rfl)) rfl
theorem seX9_entry : Cond.selects mX9_entry.1.cls mX9_entry.1 mX9_entry.1 ∈ lw_g := lw_g_in (sels_in (List.mem_of_getElem? (i := 64) rfl)) rfl
def mX9_comes : MD := (yX9_comes, cX9_comes, 2, none, false)
theorem okX9_comes : MOk mX9_comes 1 := ⟨by decide +kernel, lw_g_in (t4_in (List.mem_of_getElem? (i := 216) rfl)) rfl, lw_g_in (t1_in (List.mem_of_getElem? (i := 6) rfl)) rfl, ⟨by decide +kernel, by decide +kernel, by decide +kernel⟩, by decide +kernel, fun h => absurd h (by decide)⟩
theorem inX9_comes : Cond.instanceMethod mX9_comes.1 ∈ lw_g := lw_g_in (t4_in (List.mem_of_getElem? (i := 215) rfl)) rfl
theorem seX9_comes : Cond.selects mX9_comes.1.cls mX9_comes.1 mX9_comes.1 ∈ lw_g := lw_g_in (sels_in (List.mem_of_getElem? (i := 65) rfl)) rfl
def mX9_inFile : MD := (yX9_inFile, cX9_inFile, 4, (some .int), false)
theorem okX9_inFile : MOk mX9_inFile 1 := ⟨by decide +kernel, lw_g_in (t4_in (List.mem_of_getElem? (i := 220) rfl)) rfl, lw_g_in (t1_in (List.mem_of_getElem? (i := 6) rfl)) rfl, ⟨by decide +kernel, by decide +kernel, by decide +kernel⟩, by decide +kernel, fun h => absurd h (by decide)⟩
theorem inX9_inFile : Cond.instanceMethod mX9_inFile.1 ∈ lw_g := lw_g_in (t4_in (List.mem_of_getElem? (i := 219) rfl)) rfl
theorem seX9_inFile : Cond.selects mX9_inFile.1.cls mX9_inFile.1 mX9_inFile.1 ∈ lw_g := lw_g_in (sels_in (List.mem_of_getElem? (i := 66) rfl)) rfl
def mX9_flush : MD := (yX9_flush, cX9_flush, 3, (some .int), false)
theorem okX9_flush : MOk mX9_flush 0 := ⟨by decide +kernel, lw_g_in (t4_in (List.mem_of_getElem? (i := 224) rfl)) rfl, lw_g_in (t1_in (List.mem_of_getElem? (i := 6) rfl)) rfl, ⟨by decide +kernel, by decide +kernel, by decide +kernel⟩, by decide +kernel, fun h => absurd h (by decide)⟩
theorem inX9_flush : Cond.instanceMethod mX9_flush.1 ∈ lw_g := lw_g_in (t4_in (List.mem_of_getElem? (i := 222) rfl)) rfl
theorem seX9_flush : Cond.selects mX9_flush.1.cls mX9_flush.1 mX9_flush.1 ∈ lw_g := lw_g_in (t4_in (List.mem_of_getElem? (i := 223) rfl)) rfl
def mX9_addFile : MD := (yX9_addFile, cX9_addFile, 2, none, false)
theorem okX9_addFile : MOk mX9_addFile 1 := ⟨by decide +kernel, lw_g_in (t4_in (List.mem_of_getElem? (i := 228) rfl)) rfl, lw_g_in (t1_in (List.mem_of_getElem? (i := 6) rfl)) rfl, ⟨by decide +kernel, by decide +kernel, by decide +kernel⟩, by decide +kernel, fun h => absurd h (by decide)⟩
theorem inX9_addFile : Cond.instanceMethod mX9_addFile.1 ∈ lw_g := lw_g_in (t4_in (List.mem_of_getElem? (i := 227) rfl)) rfl
theorem seX9_addFile : Cond.selects mX9_addFile.1.cls mX9_addFile.1 mX9_addFile.1 ∈ lw_g := lw_g_in (sels_in (List.mem_of_getElem? (i := 67) rfl)) rfl
def mX9_settle : MD := (yX9_settle, cX9_settle, 3, none, false)
theorem okX9_settle : MOk mX9_settle 0 := ⟨by decide +kernel, lw_g_in (t4_in (List.mem_of_getElem? (i := 232) rfl)) rfl, lw_g_in (t1_in (List.mem_of_getElem? (i := 6) rfl)) rfl, ⟨by decide +kernel, by decide +kernel, by decide +kernel⟩, by decide +kernel, fun h => absurd h (by decide)⟩
theorem inX9_settle : Cond.instanceMethod mX9_settle.1 ∈ lw_g := lw_g_in (t4_in (List.mem_of_getElem? (i := 231) rfl)) rfl
theorem seX9_settle : Cond.selects mX9_settle.1.cls mX9_settle.1 mX9_settle.1 ∈ lw_g := lw_g_in (sels_in (List.mem_of_getElem? (i := 68) rfl)) rfl
def mX9_files : MD := (yX9_files, cX9_files, 4, (some .int), false)
theorem okX9_files : MOk mX9_files 1 := ⟨by decide +kernel, lw_g_in (t4_in (List.mem_of_getElem? (i := 236) rfl)) rfl, lw_g_in (t1_in (List.mem_of_getElem? (i := 6) rfl)) rfl, ⟨by decide +kernel, by decide +kernel, by decide +kernel⟩, by decide +kernel, fun h => absurd h (by decide)⟩
theorem inX9_files : Cond.instanceMethod mX9_files.1 ∈ lw_g := lw_g_in (t4_in (List.mem_of_getElem? (i := 234) rfl)) rfl
theorem seX9_files : Cond.selects mX9_files.1.cls mX9_files.1 mX9_files.1 ∈ lw_g := lw_g_in (t4_in (List.mem_of_getElem? (i := 235) rfl)) rfl
def mX9_compacts : MD := (yX9_compacts, cX9_compacts, 7, (some .int), false)
theorem okX9_compacts : MOk mX9_compacts 1 := ⟨by decide +kernel, lw_g_in (t5_in (List.mem_of_getElem? (i := 0) rfl)) rfl, lw_g_in (t1_in (List.mem_of_getElem? (i := 6) rfl)) rfl, ⟨by decide +kernel, by decide +kernel, by decide +kernel⟩, by decide +kernel, fun h => absurd h (by decide)⟩
theorem inX9_compacts : Cond.instanceMethod mX9_compacts.1 ∈ lw_g := lw_g_in (t4_in (List.mem_of_getElem? (i := 239) rfl)) rfl
theorem seX9_compacts : Cond.selects mX9_compacts.1.cls mX9_compacts.1 mX9_compacts.1 ∈ lw_g := lw_g_in (sels_in (List.mem_of_getElem? (i := 69) rfl)) rfl
def mX9_meet : MD := (yX9_meet, cX9_meet, 7, (some .boolean), false)
theorem okX9_meet : MOk mX9_meet 2 := ⟨by decide +kernel, lw_g_in (t5_in (List.mem_of_getElem? (i := 4) rfl)) rfl, lw_g_in (t1_in (List.mem_of_getElem? (i := 6) rfl)) rfl, ⟨by decide +kernel, by decide +kernel, by decide +kernel⟩, by decide +kernel, fun h => absurd h (by decide)⟩
theorem inX9_meet : Cond.instanceMethod mX9_meet.1 ∈ lw_g := lw_g_in (t5_in (List.mem_of_getElem? (i := 3) rfl)) rfl
theorem seX9_meet : Cond.selects mX9_meet.1.cls mX9_meet.1 mX9_meet.1 ∈ lw_g := lw_g_in (sels_in (List.mem_of_getElem? (i := 70) rfl)) rfl
def mX9_end : MD := (yX9_end, cX9_end, 5, (some .int), false)
theorem okX9_end : MOk mX9_end 2 := ⟨by decide +kernel, lw_g_in (t5_in (List.mem_of_getElem? (i := 8) rfl)) rfl, lw_g_in (t1_in (List.mem_of_getElem? (i := 6) rfl)) rfl, ⟨by decide +kernel, by decide +kernel, by decide +kernel⟩, by decide +kernel, fun h => absurd h (by decide)⟩
theorem inX9_end : Cond.instanceMethod mX9_end.1 ∈ lw_g := lw_g_in (t5_in (List.mem_of_getElem? (i := 7) rfl)) rfl
theorem seX9_end : Cond.selects mX9_end.1.cls mX9_end.1 mX9_end.1 ∈ lw_g := lw_g_in (sels_in (List.mem_of_getElem? (i := 71) rfl)) rfl
def mX9_before : MD := (yX9_before, cX9_before, 4, (some .boolean), false)
theorem okX9_before : MOk mX9_before 2 := ⟨by decide +kernel, lw_g_in (t5_in (List.mem_of_getElem? (i := 12) rfl)) rfl, lw_g_in (t1_in (List.mem_of_getElem? (i := 6) rfl)) rfl, ⟨by decide +kernel, by decide +kernel, by decide +kernel⟩, by decide +kernel, fun h => absurd h (by decide)⟩
theorem inX9_before : Cond.instanceMethod mX9_before.1 ∈ lw_g := lw_g_in (t5_in (List.mem_of_getElem? (i := 11) rfl)) rfl
theorem seX9_before : Cond.selects mX9_before.1.cls mX9_before.1 mX9_before.1 ∈ lw_g := lw_g_in (sels_in (List.mem_of_getElem? (i := 72) rfl)) rfl
def mX9_places : MD := (yX9_places, cX9_places, 3, (some .int), false)
theorem okX9_places : MOk mX9_places 2 := ⟨by decide +kernel, lw_g_in (t5_in (List.mem_of_getElem? (i := 16) rfl)) rfl, lw_g_in (t1_in (List.mem_of_getElem? (i := 6) rfl)) rfl, ⟨by decide +kernel, by decide +kernel, by decide +kernel⟩, by decide +kernel, fun h => absurd h (by decide)⟩
theorem inX9_places : Cond.instanceMethod mX9_places.1 ∈ lw_g := lw_g_in (t5_in (List.mem_of_getElem? (i := 15) rfl)) rfl
theorem seX9_places : Cond.selects mX9_places.1.cls mX9_places.1 mX9_places.1 ∈ lw_g := lw_g_in (sels_in (List.mem_of_getElem? (i := 73) rfl)) rfl
def mX9_dropFile : MD := (yX9_dropFile, cX9_dropFile, 3, none, false)
theorem okX9_dropFile : MOk mX9_dropFile 1 := ⟨by decide +kernel, lw_g_in (t5_in (List.mem_of_getElem? (i := 20) rfl)) rfl, lw_g_in (t1_in (List.mem_of_getElem? (i := 6) rfl)) rfl, ⟨by decide +kernel, by decide +kernel, by decide +kernel⟩, by decide +kernel, fun h => absurd h (by decide)⟩
theorem inX9_dropFile : Cond.instanceMethod mX9_dropFile.1 ∈ lw_g := lw_g_in (t5_in (List.mem_of_getElem? (i := 19) rfl)) rfl
theorem seX9_dropFile : Cond.selects mX9_dropFile.1.cls mX9_dropFile.1 mX9_dropFile.1 ∈ lw_g := lw_g_in (sels_in (List.mem_of_getElem? (i := 74) rfl)) rfl
def mX9_sort : MD := (yX9_sort, cX9_sort, 3, none, false)
theorem okX9_sort : MOk mX9_sort 0 := ⟨by decide +kernel, lw_g_in (t5_in (List.mem_of_getElem? (i := 24) rfl)) rfl, lw_g_in (t1_in (List.mem_of_getElem? (i := 6) rfl)) rfl, ⟨by decide +kernel, by decide +kernel, by decide +kernel⟩, by decide +kernel, fun h => absurd h (by decide)⟩
theorem inX9_sort : Cond.instanceMethod mX9_sort.1 ∈ lw_g := lw_g_in (t5_in (List.mem_of_getElem? (i := 23) rfl)) rfl
theorem seX9_sort : Cond.selects mX9_sort.1.cls mX9_sort.1 mX9_sort.1 ∈ lw_g := lw_g_in (sels_in (List.mem_of_getElem? (i := 75) rfl)) rfl
def mX9_merge : MD := (yX9_merge, cX9_merge, 11, (some .int), false)
theorem okX9_merge : MOk mX9_merge 1 := ⟨by decide +kernel, lw_g_in (t5_in (List.mem_of_getElem? (i := 28) rfl)) rfl, lw_g_in (t1_in (List.mem_of_getElem? (i := 6) rfl)) rfl, ⟨by decide +kernel, by decide +kernel, by decide +kernel⟩, by decide +kernel, fun h => absurd h (by decide)⟩
theorem inX9_merge : Cond.instanceMethod mX9_merge.1 ∈ lw_g := lw_g_in (t5_in (List.mem_of_getElem? (i := 27) rfl)) rfl
theorem seX9_merge : Cond.selects mX9_merge.1.cls mX9_merge.1 mX9_merge.1 ∈ lw_g := lw_g_in (sels_in (List.mem_of_getElem? (i := 76) rfl)) rfl
def mX9_horizon : MD := (yX9_horizon, cX9_horizon, 3, (some .int), false)
theorem okX9_horizon : MOk mX9_horizon 0 := ⟨by decide +kernel, lw_g_in (t5_in (List.mem_of_getElem? (i := 32) rfl)) rfl, lw_g_in (t1_in (List.mem_of_getElem? (i := 6) rfl)) rfl, ⟨by decide +kernel, by decide +kernel, by decide +kernel⟩, by decide +kernel, fun h => absurd h (by decide)⟩
theorem inX9_horizon : Cond.instanceMethod mX9_horizon.1 ∈ lw_g := lw_g_in (t5_in (List.mem_of_getElem? (i := 31) rfl)) rfl
theorem seX9_horizon : Cond.selects mX9_horizon.1.cls mX9_horizon.1 mX9_horizon.1 ∈ lw_g := lw_g_in (sels_in (List.mem_of_getElem? (i := 77) rfl)) rfl
def mX9_clean : MD := (yX9_clean, cX9_clean, 4, none, false)
theorem okX9_clean : MOk mX9_clean 0 := ⟨by decide +kernel, lw_g_in (t5_in (List.mem_of_getElem? (i := 36) rfl)) rfl, lw_g_in (t1_in (List.mem_of_getElem? (i := 6) rfl)) rfl, ⟨by decide +kernel, by decide +kernel, by decide +kernel⟩, by decide +kernel, fun h => absurd h (by decide)⟩
theorem inX9_clean : Cond.instanceMethod mX9_clean.1 ∈ lw_g := lw_g_in (t5_in (List.mem_of_getElem? (i := 35) rfl)) rfl
theorem seX9_clean : Cond.selects mX9_clean.1.cls mX9_clean.1 mX9_clean.1 ∈ lw_g := lw_g_in (sels_in (List.mem_of_getElem? (i := 78) rfl)) rfl
def mX9_tear : MD := (yX9_tear, cX9_tear, 6, (some .int), false)
theorem okX9_tear : MOk mX9_tear 2 := ⟨by decide +kernel, lw_g_in (t5_in (List.mem_of_getElem? (i := 40) rfl)) rfl, lw_g_in (t1_in (List.mem_of_getElem? (i := 6) rfl)) rfl, ⟨by decide +kernel, by decide +kernel, by decide +kernel⟩, by decide +kernel, fun h => absurd h (by decide)⟩
theorem inX9_tear : Cond.instanceMethod mX9_tear.1 ∈ lw_g := lw_g_in (t5_in (List.mem_of_getElem? (i := 38) rfl)) rfl
theorem seX9_tear : Cond.selects mX9_tear.1.cls mX9_tear.1 mX9_tear.1 ∈ lw_g := lw_g_in (t5_in (List.mem_of_getElem? (i := 39) rfl)) rfl
def mX9_crash : MD := (yX9_crash, cX9_crash, 3, (some .int), false)
theorem okX9_crash : MOk mX9_crash 0 := ⟨by decide +kernel, lw_g_in (t5_in (List.mem_of_getElem? (i := 44) rfl)) rfl, lw_g_in (t1_in (List.mem_of_getElem? (i := 6) rfl)) rfl, ⟨by decide +kernel, by decide +kernel, by decide +kernel⟩, by decide +kernel, fun h => absurd h (by decide)⟩
theorem inX9_crash : Cond.instanceMethod mX9_crash.1 ∈ lw_g := lw_g_in (t5_in (List.mem_of_getElem? (i := 42) rfl)) rfl
theorem seX9_crash : Cond.selects mX9_crash.1.cls mX9_crash.1 mX9_crash.1 ∈ lw_g := lw_g_in (t5_in (List.mem_of_getElem? (i := 43) rfl)) rfl
def mX9_abort : MD := (yX9_abort, cX9_abort, 2, (some .boolean), false)
theorem okX9_abort : MOk mX9_abort 1 := ⟨by decide +kernel, lw_g_in (t5_in (List.mem_of_getElem? (i := 48) rfl)) rfl, lw_g_in (t1_in (List.mem_of_getElem? (i := 6) rfl)) rfl, ⟨by decide +kernel, by decide +kernel, by decide +kernel⟩, by decide +kernel, fun h => absurd h (by decide)⟩
theorem inX9_abort : Cond.instanceMethod mX9_abort.1 ∈ lw_g := lw_g_in (t5_in (List.mem_of_getElem? (i := 46) rfl)) rfl
theorem seX9_abort : Cond.selects mX9_abort.1.cls mX9_abort.1 mX9_abort.1 ∈ lw_g := lw_g_in (t5_in (List.mem_of_getElem? (i := 47) rfl)) rfl
def mX9_compact : MD := (yX9_compact, cX9_compact, 1, (some .int), false)
theorem okX9_compact : MOk mX9_compact 0 := ⟨by decide +kernel, lw_g_in (t5_in (List.mem_of_getElem? (i := 55) rfl)) rfl, lw_g_in (t1_in (List.mem_of_getElem? (i := 6) rfl)) rfl, ⟨by decide +kernel, by decide +kernel, by decide +kernel⟩, by decide +kernel, fun h => absurd h (by decide)⟩
theorem inX9_compact : Cond.instanceMethod mX9_compact.1 ∈ lw_g := lw_g_in (t5_in (List.mem_of_getElem? (i := 53) rfl)) rfl
theorem seX9_compact : Cond.selects mX9_compact.1.cls mX9_compact.1 mX9_compact.1 ∈ lw_g := lw_g_in (t5_in (List.mem_of_getElem? (i := 54) rfl)) rfl
def mX9_query : MD := (yX9_query, cX9_query, 5, (some .int), false)
theorem okX9_query : MOk mX9_query 1 := ⟨by decide +kernel, lw_g_in (t5_in (List.mem_of_getElem? (i := 59) rfl)) rfl, lw_g_in (t1_in (List.mem_of_getElem? (i := 6) rfl)) rfl, ⟨by decide +kernel, by decide +kernel, by decide +kernel⟩, by decide +kernel, fun h => absurd h (by decide)⟩
theorem inX9_query : Cond.instanceMethod mX9_query.1 ∈ lw_g := lw_g_in (t5_in (List.mem_of_getElem? (i := 57) rfl)) rfl
theorem seX9_query : Cond.selects mX9_query.1.cls mX9_query.1 mX9_query.1 ∈ lw_g := lw_g_in (t5_in (List.mem_of_getElem? (i := 58) rfl)) rfl
def mX9_conjuncts : MD := (yX9_conjuncts, cX9_conjuncts, 5, none, false)
theorem okX9_conjuncts : MOk mX9_conjuncts 2 := ⟨by decide +kernel, lw_g_in (t5_in (List.mem_of_getElem? (i := 63) rfl)) rfl, lw_g_in (t1_in (List.mem_of_getElem? (i := 6) rfl)) rfl, ⟨by decide +kernel, by decide +kernel, by decide +kernel⟩, by decide +kernel, fun h => absurd h (by decide)⟩
theorem inX9_conjuncts : Cond.instanceMethod mX9_conjuncts.1 ∈ lw_g := lw_g_in (t5_in (List.mem_of_getElem? (i := 62) rfl)) rfl
theorem seX9_conjuncts : Cond.selects mX9_conjuncts.1.cls mX9_conjuncts.1 mX9_conjuncts.1 ∈ lw_g := lw_g_in (sels_in (List.mem_of_getElem? (i := 79) rfl)) rfl
def mX9_from : MD := (yX9_from, cX9_from, 5, (some .int), false)
theorem okX9_from : MOk mX9_from 2 := ⟨by decide +kernel, lw_g_in (t5_in (List.mem_of_getElem? (i := 69) rfl)) rfl, lw_g_in (t1_in (List.mem_of_getElem? (i := 6) rfl)) rfl, ⟨by decide +kernel, by decide +kernel, by decide +kernel⟩, by decide +kernel, fun h => absurd h (by decide)⟩
theorem inX9_from : Cond.instanceMethod mX9_from.1 ∈ lw_g := lw_g_in (t5_in (List.mem_of_getElem? (i := 68) rfl)) rfl
theorem seX9_from : Cond.selects mX9_from.1.cls mX9_from.1 mX9_from.1 ∈ lw_g := lw_g_in (sels_in (List.mem_of_getElem? (i := 80) rfl)) rfl
def mX9_conjunct : MD := (yX9_conjunct, cX9_conjunct, 9, none, false)
theorem okX9_conjunct : MOk mX9_conjunct 3 := ⟨by decide +kernel, lw_g_in (t5_in (List.mem_of_getElem? (i := 73) rfl)) rfl, lw_g_in (t1_in (List.mem_of_getElem? (i := 6) rfl)) rfl, ⟨by decide +kernel, by decide +kernel, by decide +kernel⟩, by decide +kernel, fun h => absurd h (by decide)⟩
theorem inX9_conjunct : Cond.instanceMethod mX9_conjunct.1 ∈ lw_g := lw_g_in (t5_in (List.mem_of_getElem? (i := 72) rfl)) rfl
theorem seX9_conjunct : Cond.selects mX9_conjunct.1.cls mX9_conjunct.1 mX9_conjunct.1 ∈ lw_g := lw_g_in (sels_in (List.mem_of_getElem? (i := 81) rfl)) rfl
def mX9_same : MD := (yX9_same, cX9_same, 8, (some .boolean), false)
theorem okX9_same : MOk mX9_same 4 := ⟨by decide +kernel, lw_g_in (t5_in (List.mem_of_getElem? (i := 77) rfl)) rfl, lw_g_in (t1_in (List.mem_of_getElem? (i := 6) rfl)) rfl, ⟨by decide +kernel, by decide +kernel, by decide +kernel⟩, by decide +kernel, fun h => absurd h (by decide)⟩
theorem inX9_same : Cond.instanceMethod mX9_same.1 ∈ lw_g := lw_g_in (t5_in (List.mem_of_getElem? (i := 76) rfl)) rfl
theorem seX9_same : Cond.selects mX9_same.1.cls mX9_same.1 mX9_same.1 ∈ lw_g := lw_g_in (sels_in (List.mem_of_getElem? (i := 82) rfl)) rfl
def mX9_bound : MD := (yX9_bound, cX9_bound, 5, none, false)
theorem okX9_bound : MOk mX9_bound 2 := ⟨by decide +kernel, lw_g_in (t5_in (List.mem_of_getElem? (i := 81) rfl)) rfl, lw_g_in (t1_in (List.mem_of_getElem? (i := 6) rfl)) rfl, ⟨by decide +kernel, by decide +kernel, by decide +kernel⟩, by decide +kernel, fun h => absurd h (by decide)⟩
theorem inX9_bound : Cond.instanceMethod mX9_bound.1 ∈ lw_g := lw_g_in (t5_in (List.mem_of_getElem? (i := 80) rfl)) rfl
theorem seX9_bound : Cond.selects mX9_bound.1.cls mX9_bound.1 mX9_bound.1 ∈ lw_g := lw_g_in (sels_in (List.mem_of_getElem? (i := 83) rfl)) rfl
def mX9_result : MD := (yX9_result, cX9_result, 2, (some .int), false)
theorem okX9_result : MOk mX9_result 1 := ⟨by decide +kernel, lw_g_in (t5_in (List.mem_of_getElem? (i := 85) rfl)) rfl, lw_g_in (t1_in (List.mem_of_getElem? (i := 6) rfl)) rfl, ⟨by decide +kernel, by decide +kernel, by decide +kernel⟩, by decide +kernel, fun h => absurd h (by decide)⟩
theorem inX9_result : Cond.instanceMethod mX9_result.1 ∈ lw_g := lw_g_in (t5_in (List.mem_of_getElem? (i := 83) rfl)) rfl
theorem seX9_result : Cond.selects mX9_result.1.cls mX9_result.1 mX9_result.1 ∈ lw_g := lw_g_in (t5_in (List.mem_of_getElem? (i := 84) rfl)) rfl
def mX9_plan : MD := (yX9_plan, cX9_plan, 2, (some .long), false)
theorem okX9_plan : MOk mX9_plan 1 := ⟨by decide +kernel, lw_g_in (t5_in (List.mem_of_getElem? (i := 89) rfl)) rfl, lw_g_in (t1_in (List.mem_of_getElem? (i := 6) rfl)) rfl, ⟨by decide +kernel, by decide +kernel, by decide +kernel⟩, by decide +kernel, fun h => absurd h (by decide)⟩
theorem inX9_plan : Cond.instanceMethod mX9_plan.1 ∈ lw_g := lw_g_in (t5_in (List.mem_of_getElem? (i := 87) rfl)) rfl
theorem seX9_plan : Cond.selects mX9_plan.1.cls mX9_plan.1 mX9_plan.1 ∈ lw_g := lw_g_in (t5_in (List.mem_of_getElem? (i := 88) rfl)) rfl
def mX9_state : MD := (yX9_state, cX9_state, 2, (some .int), false)
theorem okX9_state : MOk mX9_state 1 := ⟨by decide +kernel, lw_g_in (t5_in (List.mem_of_getElem? (i := 94) rfl)) rfl, lw_g_in (t1_in (List.mem_of_getElem? (i := 6) rfl)) rfl, ⟨by decide +kernel, by decide +kernel, by decide +kernel⟩, by decide +kernel, fun h => absurd h (by decide)⟩
theorem inX9_state : Cond.instanceMethod mX9_state.1 ∈ lw_g := lw_g_in (t5_in (List.mem_of_getElem? (i := 92) rfl)) rfl
theorem seX9_state : Cond.selects mX9_state.1.cls mX9_state.1 mX9_state.1 ∈ lw_g := lw_g_in (t5_in (List.mem_of_getElem? (i := 93) rfl)) rfl
def mX9_about : MD := (yX9_about, cX9_about, 2, (some .int), false)
theorem okX9_about : MOk mX9_about 1 := ⟨by decide +kernel, lw_g_in (t5_in (List.mem_of_getElem? (i := 98) rfl)) rfl, lw_g_in (t1_in (List.mem_of_getElem? (i := 6) rfl)) rfl, ⟨by decide +kernel, by decide +kernel, by decide +kernel⟩, by decide +kernel, fun h => absurd h (by decide)⟩
theorem inX9_about : Cond.instanceMethod mX9_about.1 ∈ lw_g := lw_g_in (t5_in (List.mem_of_getElem? (i := 96) rfl)) rfl
theorem seX9_about : Cond.selects mX9_about.1.cls mX9_about.1 mX9_about.1 ∈ lw_g := lw_g_in (t5_in (List.mem_of_getElem? (i := 97) rfl)) rfl
def mX9_file : MD := (yX9_file, cX9_file, 6, (some .int), false)
theorem okX9_file : MOk mX9_file 3 := ⟨by decide +kernel, lw_g_in (t5_in (List.mem_of_getElem? (i := 102) rfl)) rfl, lw_g_in (t1_in (List.mem_of_getElem? (i := 6) rfl)) rfl, ⟨by decide +kernel, by decide +kernel, by decide +kernel⟩, by decide +kernel, fun h => absurd h (by decide)⟩
theorem inX9_file : Cond.instanceMethod mX9_file.1 ∈ lw_g := lw_g_in (t5_in (List.mem_of_getElem? (i := 100) rfl)) rfl
theorem seX9_file : Cond.selects mX9_file.1.cls mX9_file.1 mX9_file.1 ∈ lw_g := lw_g_in (t5_in (List.mem_of_getElem? (i := 101) rfl)) rfl
def mX9_aboutFile : MD := (yX9_aboutFile, cX9_aboutFile, 5, (some .int), false)
theorem okX9_aboutFile : MOk mX9_aboutFile 2 := ⟨by decide +kernel, lw_g_in (t5_in (List.mem_of_getElem? (i := 106) rfl)) rfl, lw_g_in (t1_in (List.mem_of_getElem? (i := 6) rfl)) rfl, ⟨by decide +kernel, by decide +kernel, by decide +kernel⟩, by decide +kernel, fun h => absurd h (by decide)⟩
theorem inX9_aboutFile : Cond.instanceMethod mX9_aboutFile.1 ∈ lw_g := lw_g_in (t5_in (List.mem_of_getElem? (i := 105) rfl)) rfl
theorem seX9_aboutFile : Cond.selects mX9_aboutFile.1.cls mX9_aboutFile.1 mX9_aboutFile.1 ∈ lw_g := lw_g_in (sels_in (List.mem_of_getElem? (i := 84) rfl)) rfl
theorem clL_7 : Cond.classLink RL 7 RX8 ∈ lw_g := lw_g_in (t1_in (List.mem_of_getElem? (i := 20) rfl)) rfl
theorem nwL_7 : NewL RL 7 8 := ⟨clL_7, lw_g_in (t1_in (List.mem_of_getElem? (i := 21) rfl)) rfl, lw_g_in (t1_in (List.mem_of_getElem? (i := 1) rfl)) rfl, by decide⟩
theorem mlL_9 : MLk RL 9 mX8_init.1 := Or.inl (lw_g_in (t1_in (List.mem_of_getElem? (i := 22) rfl)) rfl)
theorem oiX8_1 : Cond.methodLink RX8 1 objectInit ∈ lw_g := lw_g_in (t1_in (List.mem_of_getElem? (i := 25) rfl)) rfl
theorem clX8_9 : Cond.classLink RX8 9 RX1 ∈ lw_g := lw_g_in (t1_in (List.mem_of_getElem? (i := 28) rfl)) rfl
theorem nwX8_9 : NewL RX8 9 1 := ⟨clX8_9, lw_g_in (t1_in (List.mem_of_getElem? (i := 141) rfl)) rfl, lw_g_in (t1_in (List.mem_of_getElem? (i := 7) rfl)) rfl, by decide⟩
theorem clX8_18 : Cond.classLink RX8 18 RX7 ∈ lw_g := lw_g_in (t1_in (List.mem_of_getElem? (i := 30) rfl)) rfl
theorem nwX8_18 : NewL RX8 18 7 := ⟨clX8_18, lw_g_in (t1_in (List.mem_of_getElem? (i := 196) rfl)) rfl, lw_g_in (t1_in (List.mem_of_getElem? (i := 8) rfl)) rfl, by decide⟩
theorem clX8_24 : Cond.classLink RX8 24 RX6 ∈ lw_g := lw_g_in (t1_in (List.mem_of_getElem? (i := 32) rfl)) rfl
theorem nwX8_24 : NewL RX8 24 6 := ⟨clX8_24, lw_g_in (t1_in (List.mem_of_getElem? (i := 33) rfl)) rfl, lw_g_in (t1_in (List.mem_of_getElem? (i := 2) rfl)) rfl, by decide⟩
theorem mlX8_26 : MLk RX8 26 mX6_init.1 := Or.inr ⟨"VersionedRows", lw_n_in (t1_in (List.mem_of_getElem? (i := 34) rfl)) rfl⟩
theorem oiX6_3 : Cond.methodLink RX6 3 objectInit ∈ lw_g := lw_g_in (t1_in (List.mem_of_getElem? (i := 37) rfl)) rfl
theorem clX6_9 : Cond.classLink RX6 9 RX0 ∈ lw_g := lw_g_in (t1_in (List.mem_of_getElem? (i := 38) rfl)) rfl
theorem nwX6_9 : NewL RX6 9 0 := ⟨clX6_9, lw_g_in (t2_in (List.mem_of_getElem? (i := 24) rfl)) rfl, lw_g_in (t1_in (List.mem_of_getElem? (i := 9) rfl)) rfl, by decide⟩
theorem clX6_17 : Cond.classLink RX6 17 RJx4a65c ∈ lw_g := lw_g_in (t1_in (List.mem_of_getElem? (i := 40) rfl)) rfl
theorem nwX6_17 : NewL RX6 17 10 := ⟨clX6_17, lw_g_in (t1_in (List.mem_of_getElem? (i := 41) rfl)) rfl, lw_g_in (t1_in (List.mem_of_getElem? (i := 5) rfl)) rfl, by decide⟩
theorem mlX6_19 : MLk RX6 19 mJx4a65c_init_da8c8.1 := Or.inl (lw_g_in (t1_in (List.mem_of_getElem? (i := 42) rfl)) rfl)
theorem mlJx4a65c_1 : MLk RJx4a65c 1 mJxc12de_init_da8c8.1 := Or.inl (lw_g_in (t1_in (List.mem_of_getElem? (i := 45) rfl)) rfl)
theorem mlJxc12de_1 : MLk RJxc12de 1 mJxa1e45_init_da8c8.1 := Or.inl (lw_g_in (t1_in (List.mem_of_getElem? (i := 48) rfl)) rfl)
theorem oiJxa1e45_1 : Cond.methodLink RJxa1e45 1 objectInit ∈ lw_g := lw_g_in (t1_in (List.mem_of_getElem? (i := 51) rfl)) rfl
theorem mlL_13 : MLk RL 13 mX8_say.1 := Or.inl (lw_g_in (t1_in (List.mem_of_getElem? (i := 125) rfl)) rfl)
theorem mlX8_39 : MLk RX8 39 mX8_isName.1 := Or.inl (lw_g_in (t1_in (List.mem_of_getElem? (i := 129) rfl)) rfl)
theorem mlX8_43 : MLk RX8 43 mX8_partsOf.1 := Or.inl (lw_g_in (t1_in (List.mem_of_getElem? (i := 132) rfl)) rfl)
theorem mlX8_50 : MLk RX8 50 mX8_fits.1 := Or.inl (lw_g_in (t1_in (List.mem_of_getElem? (i := 135) rfl)) rfl)
theorem mlX8_68 : MLk RX8 68 mX1_isBool.1 := Or.inr ⟨"VersionedRows", lw_n_in (t1_in (List.mem_of_getElem? (i := 138) rfl)) rfl⟩
theorem mlX8_214 : MLk RX8 214 mX8_takesBools.1 := Or.inl (lw_g_in (t1_in (List.mem_of_getElem? (i := 143) rfl)) rfl)
theorem mlX8_54 : MLk RX8 54 mX1_nodesOf.1 := Or.inr ⟨"VersionedRows", lw_n_in (t1_in (List.mem_of_getElem? (i := 146) rfl)) rfl⟩
theorem mlX8_58 : MLk RX8 58 mX8_countsN.1 := Or.inl (lw_g_in (t1_in (List.mem_of_getElem? (i := 149) rfl)) rfl)
theorem mlX8_61 : MLk RX8 61 mX1_init.1 := Or.inr ⟨"VersionedRows", lw_n_in (t1_in (List.mem_of_getElem? (i := 152) rfl)) rfl⟩
theorem oiX1_3 : Cond.methodLink RX1 3 objectInit ∈ lw_g := lw_g_in (t1_in (List.mem_of_getElem? (i := 155) rfl)) rfl
theorem mlX1_25 : MLk RX1 25 mX1_nodesOf.1 := Or.inl (lw_g_in (t1_in (List.mem_of_getElem? (i := 156) rfl)) rfl)
theorem mlL_18 : MLk RL 18 mX8_index.1 := Or.inl (lw_g_in (t1_in (List.mem_of_getElem? (i := 177) rfl)) rfl)
theorem mlX8_64 : MLk RX8 64 mX8_topOfPile.1 := Or.inl (lw_g_in (t1_in (List.mem_of_getElem? (i := 181) rfl)) rfl)
theorem mlL_23 : MLk RL 23 mX8_begin.1 := Or.inl (lw_g_in (t1_in (List.mem_of_getElem? (i := 185) rfl)) rfl)
theorem mlX8_81 : MLk RX8 81 mX8_countOpen.1 := Or.inl (lw_g_in (t1_in (List.mem_of_getElem? (i := 189) rfl)) rfl)
theorem mlX8_217 : MLk RX8 217 mX7_isOpen.1 := Or.inr ⟨"VersionedRows", lw_n_in (t1_in (List.mem_of_getElem? (i := 193) rfl)) rfl⟩
theorem mlX8_85 : MLk RX8 85 mX7_init.1 := Or.inr ⟨"VersionedRows", lw_n_in (t1_in (List.mem_of_getElem? (i := 198) rfl)) rfl⟩
theorem oiX7_3 : Cond.methodLink RX7 3 objectInit ∈ lw_g := lw_g_in (t1_in (List.mem_of_getElem? (i := 201) rfl)) rfl
theorem clX7_19 : Cond.classLink RX7 19 RX3 ∈ lw_g := lw_g_in (t1_in (List.mem_of_getElem? (i := 202) rfl)) rfl
theorem nwX7_19 : NewL RX7 19 3 := ⟨clX7_19, lw_g_in (t2_in (List.mem_of_getElem? (i := 31) rfl)) rfl, lw_g_in (t1_in (List.mem_of_getElem? (i := 10) rfl)) rfl, by decide⟩
theorem mlL_27 : MLk RL 27 mX8_read.1 := Or.inl (lw_g_in (t1_in (List.mem_of_getElem? (i := 226) rfl)) rfl)
theorem mlX8_88 : MLk RX8 88 mX8_openOne.1 := Or.inl (lw_g_in (t1_in (List.mem_of_getElem? (i := 230) rfl)) rfl)
theorem mlX8_196 : MLk RX8 196 mX8_transactionOf.1 := Or.inl (lw_g_in (t1_in (List.mem_of_getElem? (i := 234) rfl)) rfl)
theorem mlX8_92 : MLk RX8 92 mX8_isKey.1 := Or.inl (lw_g_in (t1_in (List.mem_of_getElem? (i := 238) rfl)) rfl)
theorem mlX8_95 : MLk RX8 95 mX8_rowFor.1 := Or.inl (lw_g_in (t2_in (List.mem_of_getElem? (i := 1) rfl)) rfl)
theorem mlX8_233 : MLk RX8 233 mX6_rowAt.1 := Or.inr ⟨"VersionedRows", lw_n_in (t2_in (List.mem_of_getElem? (i := 5) rfl)) rfl⟩
theorem mlX6_54 : MLk RX6 54 mX6_seenRow.1 := Or.inl (lw_g_in (t2_in (List.mem_of_getElem? (i := 9) rfl)) rfl)
theorem mlX6_50 : MLk RX6 50 mX0_placeOf.1 := Or.inr ⟨"VersionedRows", lw_n_in (t2_in (List.mem_of_getElem? (i := 13) rfl)) rfl⟩
theorem coX0_36 : Cond.constantLong RX0 36 (-2147483648) ∈ lw_g := lw_g_in (t2_in (List.mem_of_getElem? (i := 16) rfl)) rfl
theorem mlX6_39 : MLk RX6 39 mX6_countBefore.1 := Or.inl (lw_g_in (t2_in (List.mem_of_getElem? (i := 17) rfl)) rfl)
theorem mlX6_46 : MLk RX6 46 mX0_isBefore.1 := Or.inr ⟨"VersionedRows", lw_n_in (t2_in (List.mem_of_getElem? (i := 21) rfl)) rfl⟩
theorem mlL_32 : MLk RL 32 mX8_write.1 := Or.inl (lw_g_in (t2_in (List.mem_of_getElem? (i := 26) rfl)) rfl)
theorem clX8_100 : Cond.classLink RX8 100 RX3 ∈ lw_g := lw_g_in (t2_in (List.mem_of_getElem? (i := 30) rfl)) rfl
theorem nwX8_100 : NewL RX8 100 3 := ⟨clX8_100, lw_g_in (t2_in (List.mem_of_getElem? (i := 31) rfl)) rfl, lw_g_in (t1_in (List.mem_of_getElem? (i := 10) rfl)) rfl, by decide⟩
theorem mlX8_110 : MLk RX8 110 mX3_init.1 := Or.inr ⟨"VersionedRows", lw_n_in (t2_in (List.mem_of_getElem? (i := 32) rfl)) rfl⟩
theorem oiX3_3 : Cond.methodLink RX3 3 objectInit ∈ lw_g := lw_g_in (t2_in (List.mem_of_getElem? (i := 35) rfl)) rfl
theorem mlX8_113 : MLk RX8 113 mX7_put.1 := Or.inr ⟨"VersionedRows", lw_n_in (t2_in (List.mem_of_getElem? (i := 52) rfl)) rfl⟩
theorem mlL_37 : MLk RL 37 mX8_remove.1 := Or.inl (lw_g_in (t2_in (List.mem_of_getElem? (i := 56) rfl)) rfl)
theorem mlL_41 : MLk RL 41 mX8_query.1 := Or.inl (lw_g_in (t2_in (List.mem_of_getElem? (i := 60) rfl)) rfl)
theorem mlX8_117 : MLk RX8 117 mX8_choosePlan.1 := Or.inl (lw_g_in (t2_in (List.mem_of_getElem? (i := 64) rfl)) rfl)
theorem clX8_186 : Cond.classLink RX8 186 RX2 ∈ lw_g := lw_g_in (t2_in (List.mem_of_getElem? (i := 68) rfl)) rfl
theorem nwX8_186 : NewL RX8 186 2 := ⟨clX8_186, lw_g_in (t2_in (List.mem_of_getElem? (i := 69) rfl)) rfl, lw_g_in (t1_in (List.mem_of_getElem? (i := 11) rfl)) rfl, by decide⟩
theorem mlX8_273 : MLk RX8 273 mX2_init.1 := Or.inr ⟨"VersionedRows", lw_n_in (t2_in (List.mem_of_getElem? (i := 70) rfl)) rfl⟩
theorem oiX2_3 : Cond.methodLink RX2 3 objectInit ∈ lw_g := lw_g_in (t2_in (List.mem_of_getElem? (i := 73) rfl)) rfl
theorem coX2_11 : Cond.constantLong RX2 11 (-2147483648) ∈ lw_g := lw_g_in (t2_in (List.mem_of_getElem? (i := 74) rfl)) rfl
theorem coX2_19 : Cond.constantLong RX2 19 (2147483647) ∈ lw_g := lw_g_in (t2_in (List.mem_of_getElem? (i := 75) rfl)) rfl
theorem mlX8_275 : MLk RX8 275 mX2_hear.1 := Or.inr ⟨"VersionedRows", lw_n_in (t2_in (List.mem_of_getElem? (i := 92) rfl)) rfl⟩
theorem mlX2_37 : MLk RX2 37 mX2_hear.1 := Or.inl (lw_g_in (t2_in (List.mem_of_getElem? (i := 96) rfl)) rfl)
theorem mlX2_44 : MLk RX2 44 mX2_hearComparison.1 := Or.inl (lw_g_in (t2_in (List.mem_of_getElem? (i := 97) rfl)) rfl)
theorem mlX2_48 : MLk RX2 48 mX1_isConst.1 := Or.inr ⟨"VersionedRows", lw_n_in (t2_in (List.mem_of_getElem? (i := 101) rfl)) rfl⟩
theorem mlX2_52 : MLk RX2 52 mX1_areSame.1 := Or.inr ⟨"VersionedRows", lw_n_in (t2_in (List.mem_of_getElem? (i := 105) rfl)) rfl⟩
theorem mlX1_32 : MLk RX1 32 mX1_areSame.1 := Or.inl (lw_g_in (t2_in (List.mem_of_getElem? (i := 108) rfl)) rfl)
theorem mlX2_59 : MLk RX2 59 mX2_narrow.1 := Or.inl (lw_g_in (t2_in (List.mem_of_getElem? (i := 109) rfl)) rfl)
theorem mlX2_63 : MLk RX2 63 mJ9_max_f86c9.1 := Or.inl (lw_g_in (t2_in (List.mem_of_getElem? (i := 113) rfl)) rfl)
theorem mpX2_63 : Cond.methodLink RX2 63 mJ9_max_f86c9.1 ∈ lw_g := lw_g_in (t2_in (List.mem_of_getElem? (i := 113) rfl)) rfl
theorem mlX2_69 : MLk RX2 69 mJ9_min_f86c9.1 := Or.inl (lw_g_in (t2_in (List.mem_of_getElem? (i := 116) rfl)) rfl)
theorem mpX2_69 : Cond.methodLink RX2 69 mJ9_min_f86c9.1 ∈ lw_g := lw_g_in (t2_in (List.mem_of_getElem? (i := 116) rfl)) rfl
theorem mlX8_281 : MLk RX8 281 mX2_width.1 := Or.inr ⟨"VersionedRows", lw_n_in (t2_in (List.mem_of_getElem? (i := 119) rfl)) rfl⟩
theorem mlX8_124 : MLk RX8 124 mX8_countCandidates.1 := Or.inl (lw_g_in (t2_in (List.mem_of_getElem? (i := 123) rfl)) rfl)
theorem mlX8_285 : MLk RX8 285 mX6_countThere.1 := Or.inr ⟨"VersionedRows", lw_n_in (t2_in (List.mem_of_getElem? (i := 127) rfl)) rfl⟩
theorem mlX6_65 : MLk RX6 65 mX0_isWithin.1 := Or.inr ⟨"VersionedRows", lw_n_in (t2_in (List.mem_of_getElem? (i := 131) rfl)) rfl⟩
theorem mlX8_127 : MLk RX8 127 mX8_fillResult.1 := Or.inl (lw_g_in (t2_in (List.mem_of_getElem? (i := 135) rfl)) rfl)
theorem mlX8_289 : MLk RX8 289 mX1_isTrueOf.1 := Or.inr ⟨"VersionedRows", lw_n_in (t2_in (List.mem_of_getElem? (i := 139) rfl)) rfl⟩
theorem mlX1_47 : MLk RX1 47 mX1_numberOf.1 := Or.inl (lw_g_in (t2_in (List.mem_of_getElem? (i := 142) rfl)) rfl)
theorem mlX1_51 : MLk RX1 51 mX1_isTrueOf.1 := Or.inl (lw_g_in (t2_in (List.mem_of_getElem? (i := 145) rfl)) rfl)
theorem mlX1_55 : MLk RX1 55 mX3_startsWith.1 := Or.inr ⟨"VersionedRows", lw_n_in (t2_in (List.mem_of_getElem? (i := 146) rfl)) rfl⟩
theorem mlL_46 : MLk RL 46 mX8_commit.1 := Or.inl (lw_g_in (t2_in (List.mem_of_getElem? (i := 150) rfl)) rfl)
theorem mlX8_134 : MLk RX8 134 mX8_isTooLate.1 := Or.inl (lw_g_in (t2_in (List.mem_of_getElem? (i := 154) rfl)) rfl)
theorem mlX8_237 : MLk RX8 237 mX6_lastStampOf.1 := Or.inr ⟨"VersionedRows", lw_n_in (t2_in (List.mem_of_getElem? (i := 158) rfl)) rfl⟩
theorem coX6_64 : Cond.constant RX6 64 (2147483647) ∈ lw_g := lw_g_in (t2_in (List.mem_of_getElem? (i := 162) rfl)) rfl
theorem mlX8_145 : MLk RX8 145 mX8_batchSize.1 := Or.inl (lw_g_in (t2_in (List.mem_of_getElem? (i := 163) rfl)) rfl)
theorem mlX8_240 : MLk RX8 240 mX8_countIndexEntries.1 := Or.inl (lw_g_in (t2_in (List.mem_of_getElem? (i := 167) rfl)) rfl)
theorem mlX8_244 : MLk RX8 244 mX8_hasOwnValue.1 := Or.inl (lw_g_in (t2_in (List.mem_of_getElem? (i := 171) rfl)) rfl)
theorem mlX8_248 : MLk RX8 248 mX8_valueIn.1 := Or.inl (lw_g_in (t2_in (List.mem_of_getElem? (i := 175) rfl)) rfl)
theorem mlX8_252 : MLk RX8 252 mX1_numberOf.1 := Or.inr ⟨"VersionedRows", lw_n_in (t2_in (List.mem_of_getElem? (i := 179) rfl)) rfl⟩
theorem mlX8_149 : MLk RX8 149 mX6_hasRoomFor.1 := Or.inr ⟨"VersionedRows", lw_n_in (t2_in (List.mem_of_getElem? (i := 180) rfl)) rfl⟩
theorem mlX8_152 : MLk RX8 152 mX8_takeBatch.1 := Or.inl (lw_g_in (t2_in (List.mem_of_getElem? (i := 184) rfl)) rfl)
theorem clX8_256 : Cond.classLink RX8 256 RX0 ∈ lw_g := lw_g_in (t2_in (List.mem_of_getElem? (i := 188) rfl)) rfl
theorem nwX8_256 : NewL RX8 256 0 := ⟨clX8_256, lw_g_in (t2_in (List.mem_of_getElem? (i := 24) rfl)) rfl, lw_g_in (t1_in (List.mem_of_getElem? (i := 9) rfl)) rfl, by decide⟩
theorem mlX8_258 : MLk RX8 258 mX0_init.1 := Or.inr ⟨"VersionedRows", lw_n_in (t2_in (List.mem_of_getElem? (i := 189) rfl)) rfl⟩
theorem oiX0_1 : Cond.methodLink RX0 1 objectInit ∈ lw_g := lw_g_in (t2_in (List.mem_of_getElem? (i := 192) rfl)) rfl
theorem mlX0_19 : MLk RX0 19 mX0_placeOf.1 := Or.inl (lw_g_in (t2_in (List.mem_of_getElem? (i := 193) rfl)) rfl)
theorem mlX8_261 : MLk RX8 261 mX6_add.1 := Or.inr ⟨"VersionedRows", lw_n_in (t2_in (List.mem_of_getElem? (i := 228) rfl)) rfl⟩
theorem mlX6_28 : MLk RX6 28 mX6_hasRoomFor.1 := Or.inl (lw_g_in (t2_in (List.mem_of_getElem? (i := 232) rfl)) rfl)
theorem mlX8_265 : MLk RX8 265 mX8_addIndexEntries.1 := Or.inl (lw_g_in (t2_in (List.mem_of_getElem? (i := 233) rfl)) rfl)
theorem mlX8_159 : MLk RX8 159 mX8_flushAndMerge.1 := Or.inl (lw_g_in (t2_in (List.mem_of_getElem? (i := 237) rfl)) rfl)
theorem mlX8_165 : MLk RX8 165 mX6_writeMemoryOut.1 := Or.inr ⟨"VersionedRows", lw_n_in (t3_in (List.mem_of_getElem? (i := 1) rfl)) rfl⟩
theorem mlX6_73 : MLk RX6 73 mX6_newFile.1 := Or.inl (lw_g_in (t3_in (List.mem_of_getElem? (i := 5) rfl)) rfl)
theorem clX6_78 : Cond.classLink RX6 78 RX5 ∈ lw_g := lw_g_in (t3_in (List.mem_of_getElem? (i := 9) rfl)) rfl
theorem nwX6_78 : NewL RX6 78 5 := ⟨clX6_78, lw_g_in (t3_in (List.mem_of_getElem? (i := 10) rfl)) rfl, lw_g_in (t1_in (List.mem_of_getElem? (i := 13) rfl)) rfl, by decide⟩
theorem mlX6_86 : MLk RX6 86 mX5_init.1 := Or.inr ⟨"VersionedRows", lw_n_in (t3_in (List.mem_of_getElem? (i := 11) rfl)) rfl⟩
theorem oiX5_3 : Cond.methodLink RX5 3 objectInit ∈ lw_g := lw_g_in (t3_in (List.mem_of_getElem? (i := 14) rfl)) rfl
theorem mlX6_89 : MLk RX6 89 mJx4a65c_add_9ea2d.1 := Or.inl (lw_g_in (t3_in (List.mem_of_getElem? (i := 36) rfl)) rfl)
theorem mlJx4a65c_131 : MLk RJx4a65c 131 mJx4a65c_add_72be8.1 := Or.inl (lw_g_in (t3_in (List.mem_of_getElem? (i := 40) rfl)) rfl)
theorem mlJx4a65c_129 : MLk RJx4a65c 129 mJx4a65c_grow_d5877.1 := Or.inl (lw_g_in (t3_in (List.mem_of_getElem? (i := 44) rfl)) rfl)
theorem mlJx4a65c_69 : MLk RJx4a65c 69 mJx4a65c_grow_92f84.1 := Or.inl (lw_g_in (t3_in (List.mem_of_getElem? (i := 48) rfl)) rfl)
theorem mlJx4a65c_73 : MLk RJx4a65c 73 mJ8_newLength_cabcc.1 := Or.inl (lw_g_in (t3_in (List.mem_of_getElem? (i := 52) rfl)) rfl)
theorem mlJ8_194 : MLk RJ8 194 mJ9_max_7cf53.1 := Or.inl (lw_g_in (t3_in (List.mem_of_getElem? (i := 55) rfl)) rfl)
theorem mpJ8_194 : Cond.methodLink RJ8 194 mJ9_max_7cf53.1 ∈ lw_g := lw_g_in (t3_in (List.mem_of_getElem? (i := 55) rfl)) rfl
theorem coJ8_200 : Cond.constant RJ8 200 (2147483639) ∈ lw_g := lw_g_in (t3_in (List.mem_of_getElem? (i := 58) rfl)) rfl
theorem mlJ8_201 : MLk RJ8 201 mJ8_hugeLength_7cf53.1 := Or.inl (lw_g_in (t3_in (List.mem_of_getElem? (i := 59) rfl)) rfl)
theorem mlJx4a65c_66 : MLk RJx4a65c 66 mJ7_copyOf_1904c.1 := Or.inl (lw_g_in (t3_in (List.mem_of_getElem? (i := 62) rfl)) rfl)
theorem mlJ7_300 : MLk RJ7 300 mJ7_copyOf_6403c.1 := Or.inl (lw_g_in (t3_in (List.mem_of_getElem? (i := 80) rfl)) rfl)
theorem clJ7_110 : Cond.classLink RJ7 110 "[Ljava/lang/Object;" ∈ lw_g := lw_g_in (t3_in (List.mem_of_getElem? (i := 83) rfl)) rfl
theorem clJ7_2 : Cond.classLink RJ7 2 "java/lang/Object" ∈ lw_g := lw_g_in (t3_in (List.mem_of_getElem? (i := 85) rfl)) rfl
theorem mlJ7_304 : MLk RJ7 304 mJ9_min_7cf53.1 := Or.inl (lw_g_in (t3_in (List.mem_of_getElem? (i := 86) rfl)) rfl)
theorem mpJ7_304 : Cond.methodLink RJ7 304 mJ9_min_7cf53.1 ∈ lw_g := lw_g_in (t3_in (List.mem_of_getElem? (i := 86) rfl)) rfl
theorem mlJx4a65c_79 : MLk RJx4a65c 79 mJ9_max_7cf53.1 := Or.inl (lw_g_in (t3_in (List.mem_of_getElem? (i := 92) rfl)) rfl)
theorem mpJx4a65c_79 : Cond.methodLink RJx4a65c 79 mJ9_max_7cf53.1 ∈ lw_g := lw_g_in (t3_in (List.mem_of_getElem? (i := 92) rfl)) rfl
theorem clJx4a65c_7 : Cond.classLink RJx4a65c 7 "java/lang/Object" ∈ lw_g := lw_g_in (t3_in (List.mem_of_getElem? (i := 93) rfl)) rfl
theorem mlX6_77 : MLk RX6 77 mX5_append.1 := Or.inr ⟨"VersionedRows", lw_n_in (t3_in (List.mem_of_getElem? (i := 94) rfl)) rfl⟩
theorem mlX8_171 : MLk RX8 171 mX8_horizon.1 := Or.inl (lw_g_in (t3_in (List.mem_of_getElem? (i := 98) rfl)) rfl)
theorem mlX8_220 : MLk RX8 220 mJ9_min_7cf53.1 := Or.inl (lw_g_in (t3_in (List.mem_of_getElem? (i := 102) rfl)) rfl)
theorem mpX8_220 : Cond.methodLink RX8 220 mJ9_min_7cf53.1 ∈ lw_g := lw_g_in (t3_in (List.mem_of_getElem? (i := 102) rfl)) rfl
theorem coX8_269 : Cond.constant RX8 269 (1000000) ∈ lw_g := lw_g_in (t3_in (List.mem_of_getElem? (i := 103) rfl)) rfl
theorem mlX8_270 : MLk RX8 270 mX6_overfullLevel.1 := Or.inr ⟨"VersionedRows", lw_n_in (t3_in (List.mem_of_getElem? (i := 104) rfl)) rfl⟩
theorem mlX6_104 : MLk RX6 104 mX6_countFiles.1 := Or.inl (lw_g_in (t3_in (List.mem_of_getElem? (i := 108) rfl)) rfl)
theorem mlX6_93 : MLk RX6 93 mJx4a65c_size_8abf5.1 := Or.inl (lw_g_in (t3_in (List.mem_of_getElem? (i := 112) rfl)) rfl)
theorem mlX6_97 : MLk RX6 97 mJx4a65c_get_915e3.1 := Or.inl (lw_g_in (t3_in (List.mem_of_getElem? (i := 116) rfl)) rfl)
theorem mlJx4a65c_118 : MLk RJx4a65c 118 mJ15_checkIndex_7cf53.1 := Or.inl (lw_g_in (t3_in (List.mem_of_getElem? (i := 120) rfl)) rfl)
theorem mlJ15_105 : MLk RJ15 105 mJ3_checkIndex_8e157.1 := Or.inl (lw_g_in (t3_in (List.mem_of_getElem? (i := 123) rfl)) rfl)
theorem mlJx4a65c_123 : MLk RJx4a65c 123 mJx4a65c_elementData_915e3.1 := Or.inl (lw_g_in (t3_in (List.mem_of_getElem? (i := 126) rfl)) rfl)
theorem mlX8_174 : MLk RX8 174 mX6_mergeDown.1 := Or.inr ⟨"VersionedRows", lw_n_in (t3_in (List.mem_of_getElem? (i := 130) rfl)) rfl⟩
theorem mlX6_108 : MLk RX6 108 mX6_fileOn.1 := Or.inl (lw_g_in (t3_in (List.mem_of_getElem? (i := 134) rfl)) rfl)
theorem mlX6_112 : MLk RX6 112 mX6_retire.1 := Or.inl (lw_g_in (t3_in (List.mem_of_getElem? (i := 138) rfl)) rfl)
theorem mlX6_120 : MLk RX6 120 mX5_meets.1 := Or.inr ⟨"VersionedRows", lw_n_in (t3_in (List.mem_of_getElem? (i := 142) rfl)) rfl⟩
theorem mlX6_128 : MLk RX6 128 mJx4a65c_remove_915e3.1 := Or.inl (lw_g_in (t3_in (List.mem_of_getElem? (i := 146) rfl)) rfl)
theorem mlJx4a65c_144 : MLk RJx4a65c 144 mJx4a65c_fastRemove_b59b0.1 := Or.inl (lw_g_in (t3_in (List.mem_of_getElem? (i := 150) rfl)) rfl)
theorem mlX6_116 : MLk RX6 116 mX6_moveRetired.1 := Or.inl (lw_g_in (t3_in (List.mem_of_getElem? (i := 155) rfl)) rfl)
theorem clX6_131 : Cond.classLink RX6 131 RX4 ∈ lw_g := lw_g_in (t3_in (List.mem_of_getElem? (i := 159) rfl)) rfl
theorem nwX6_131 : NewL RX6 131 4 := ⟨clX6_131, lw_g_in (t3_in (List.mem_of_getElem? (i := 160) rfl)) rfl, lw_g_in (t1_in (List.mem_of_getElem? (i := 19) rfl)) rfl, by decide⟩
theorem mlX6_133 : MLk RX6 133 mX4_init.1 := Or.inr ⟨"VersionedRows", lw_n_in (t3_in (List.mem_of_getElem? (i := 161) rfl)) rfl⟩
theorem oiX4_1 : Cond.methodLink RX4 1 objectInit ∈ lw_g := lw_g_in (t3_in (List.mem_of_getElem? (i := 164) rfl)) rfl
theorem mlX6_136 : MLk RX6 136 mX0_isInRetiredFile.1 := Or.inr ⟨"VersionedRows", lw_n_in (t3_in (List.mem_of_getElem? (i := 178) rfl)) rfl⟩
theorem mlX6_140 : MLk RX6 140 mX4_keeps.1 := Or.inr ⟨"VersionedRows", lw_n_in (t3_in (List.mem_of_getElem? (i := 182) rfl)) rfl⟩
theorem mlX6_144 : MLk RX6 144 mX5_isFullBefore.1 := Or.inr ⟨"VersionedRows", lw_n_in (t3_in (List.mem_of_getElem? (i := 186) rfl)) rfl⟩
theorem mlL_50 : MLk RL 50 mX8_tear.1 := Or.inl (lw_g_in (t3_in (List.mem_of_getElem? (i := 190) rfl)) rfl)
theorem mlX8_162 : MLk RX8 162 mX8_loseOpenOnes.1 := Or.inl (lw_g_in (t3_in (List.mem_of_getElem? (i := 194) rfl)) rfl)
theorem mlL_55 : MLk RL 55 mX8_abort.1 := Or.inl (lw_g_in (t3_in (List.mem_of_getElem? (i := 198) rfl)) rfl)
theorem mlL_60 : MLk RL 60 mX8_flush.1 := Or.inl (lw_g_in (t3_in (List.mem_of_getElem? (i := 202) rfl)) rfl)
theorem mlL_64 : MLk RL 64 mX8_compact.1 := Or.inl (lw_g_in (t3_in (List.mem_of_getElem? (i := 206) rfl)) rfl)
theorem mlX8_168 : MLk RX8 168 mX6_countFiles.1 := Or.inr ⟨"VersionedRows", lw_n_in (t3_in (List.mem_of_getElem? (i := 210) rfl)) rfl⟩
theorem mlL_68 : MLk RL 68 mX8_crash.1 := Or.inl (lw_g_in (t3_in (List.mem_of_getElem? (i := 211) rfl)) rfl)
theorem mlL_72 : MLk RL 72 mX8_result.1 := Or.inl (lw_g_in (t3_in (List.mem_of_getElem? (i := 215) rfl)) rfl)
theorem mlL_76 : MLk RL 76 mX8_plan.1 := Or.inl (lw_g_in (t3_in (List.mem_of_getElem? (i := 219) rfl)) rfl)
theorem coX8_194 : Cond.constantLong RX8 194 (-1) ∈ lw_g := lw_g_in (t3_in (List.mem_of_getElem? (i := 223) rfl)) rfl
theorem mlL_81 : MLk RL 81 mX8_state.1 := Or.inl (lw_g_in (t3_in (List.mem_of_getElem? (i := 224) rfl)) rfl)
theorem mlL_85 : MLk RL 85 mX8_about.1 := Or.inl (lw_g_in (t3_in (List.mem_of_getElem? (i := 228) rfl)) rfl)
theorem mlX8_202 : MLk RX8 202 mX8_typeOfTop.1 := Or.inl (lw_g_in (t3_in (List.mem_of_getElem? (i := 232) rfl)) rfl)
theorem mlL_89 : MLk RL 89 mX8_files.1 := Or.inl (lw_g_in (t3_in (List.mem_of_getElem? (i := 236) rfl)) rfl)
theorem mlL_93 : MLk RL 93 mX8_file.1 := Or.inl (lw_g_in (t4_in (List.mem_of_getElem? (i := 0) rfl)) rfl)
theorem mlX8_205 : MLk RX8 205 mX6_fileOn.1 := Or.inr ⟨"VersionedRows", lw_n_in (t4_in (List.mem_of_getElem? (i := 4) rfl)) rfl⟩
theorem mlX8_209 : MLk RX8 209 mX5_tell.1 := Or.inr ⟨"VersionedRows", lw_n_in (t4_in (List.mem_of_getElem? (i := 5) rfl)) rfl⟩
theorem clL_10 : Cond.classLink RL 10 RX9 ∈ lw_g := lw_g_in (t4_in (List.mem_of_getElem? (i := 9) rfl)) rfl
theorem nwL_10 : NewL RL 10 9 := ⟨clL_10, lw_g_in (t4_in (List.mem_of_getElem? (i := 10) rfl)) rfl, lw_g_in (t1_in (List.mem_of_getElem? (i := 6) rfl)) rfl, by decide⟩
theorem mlL_12 : MLk RL 12 mX9_init.1 := Or.inl (lw_g_in (t4_in (List.mem_of_getElem? (i := 11) rfl)) rfl)
theorem oiX9_1 : Cond.methodLink RX9 1 objectInit ∈ lw_g := lw_g_in (t4_in (List.mem_of_getElem? (i := 14) rfl)) rfl
theorem mlL_17 : MLk RL 17 mX9_say.1 := Or.inl (lw_g_in (t4_in (List.mem_of_getElem? (i := 130) rfl)) rfl)
theorem mlX9_81 : MLk RX9 81 mX9_isName.1 := Or.inl (lw_g_in (t4_in (List.mem_of_getElem? (i := 134) rfl)) rfl)
theorem mlX9_88 : MLk RX9 88 mX9_needs.1 := Or.inl (lw_g_in (t4_in (List.mem_of_getElem? (i := 137) rfl)) rfl)
theorem mlL_22 : MLk RL 22 mX9_index.1 := Or.inl (lw_g_in (t4_in (List.mem_of_getElem? (i := 140) rfl)) rfl)
theorem mlL_26 : MLk RL 26 mX9_begin.1 := Or.inl (lw_g_in (t4_in (List.mem_of_getElem? (i := 144) rfl)) rfl)
theorem mlX9_119 : MLk RX9 119 mX9_opens.1 := Or.inl (lw_g_in (t4_in (List.mem_of_getElem? (i := 148) rfl)) rfl)
theorem mlL_31 : MLk RL 31 mX9_read.1 := Or.inl (lw_g_in (t4_in (List.mem_of_getElem? (i := 152) rfl)) rfl)
theorem mlX9_123 : MLk RX9 123 mX9_open.1 := Or.inl (lw_g_in (t4_in (List.mem_of_getElem? (i := 156) rfl)) rfl)
theorem mlX9_126 : MLk RX9 126 mX9_isKey.1 := Or.inl (lw_g_in (t4_in (List.mem_of_getElem? (i := 160) rfl)) rfl)
theorem mlX9_129 : MLk RX9 129 mX9_rowFor.1 := Or.inl (lw_g_in (t4_in (List.mem_of_getElem? (i := 163) rfl)) rfl)
theorem mlX9_113 : MLk RX9 113 mX9_rowAt.1 := Or.inl (lw_g_in (t4_in (List.mem_of_getElem? (i := 167) rfl)) rfl)
theorem mlX9_109 : MLk RX9 109 mX9_seen.1 := Or.inl (lw_g_in (t4_in (List.mem_of_getElem? (i := 171) rfl)) rfl)
theorem mlL_36 : MLk RL 36 mX9_write.1 := Or.inl (lw_g_in (t4_in (List.mem_of_getElem? (i := 175) rfl)) rfl)
theorem mlL_40 : MLk RL 40 mX9_remove.1 := Or.inl (lw_g_in (t4_in (List.mem_of_getElem? (i := 179) rfl)) rfl)
theorem mlL_49 : MLk RL 49 mX9_commit.1 := Or.inl (lw_g_in (t4_in (List.mem_of_getElem? (i := 183) rfl)) rfl)
theorem mlX9_142 : MLk RX9 142 mX9_beaten.1 := Or.inl (lw_g_in (t4_in (List.mem_of_getElem? (i := 187) rfl)) rfl)
theorem mlX9_145 : MLk RX9 145 mX9_reads.1 := Or.inl (lw_g_in (t4_in (List.mem_of_getElem? (i := 191) rfl)) rfl)
theorem mlX9_138 : MLk RX9 138 mX9_batch.1 := Or.inl (lw_g_in (t4_in (List.mem_of_getElem? (i := 195) rfl)) rfl)
theorem mlX9_132 : MLk RX9 132 mX9_value.1 := Or.inl (lw_g_in (t4_in (List.mem_of_getElem? (i := 199) rfl)) rfl)
theorem mlX9_92 : MLk RX9 92 mX9_starts.1 := Or.inl (lw_g_in (t4_in (List.mem_of_getElem? (i := 203) rfl)) rfl)
theorem mlX9_96 : MLk RX9 96 mX9_two.1 := Or.inl (lw_g_in (t4_in (List.mem_of_getElem? (i := 206) rfl)) rfl)
theorem mlX9_134 : MLk RX9 134 mX9_entry.1 := Or.inl (lw_g_in (t4_in (List.mem_of_getElem? (i := 209) rfl)) rfl)
theorem mlX9_148 : MLk RX9 148 mX9_comes.1 := Or.inl (lw_g_in (t4_in (List.mem_of_getElem? (i := 213) rfl)) rfl)
theorem mlX9_152 : MLk RX9 152 mX9_inFile.1 := Or.inl (lw_g_in (t4_in (List.mem_of_getElem? (i := 217) rfl)) rfl)
theorem mlX9_155 : MLk RX9 155 mX9_flush.1 := Or.inl (lw_g_in (t4_in (List.mem_of_getElem? (i := 221) rfl)) rfl)
theorem mlX9_170 : MLk RX9 170 mX9_addFile.1 := Or.inl (lw_g_in (t4_in (List.mem_of_getElem? (i := 225) rfl)) rfl)
theorem mlX9_158 : MLk RX9 158 mX9_settle.1 := Or.inl (lw_g_in (t4_in (List.mem_of_getElem? (i := 229) rfl)) rfl)
theorem mlX9_173 : MLk RX9 173 mX9_files.1 := Or.inl (lw_g_in (t4_in (List.mem_of_getElem? (i := 233) rfl)) rfl)
theorem mlX9_175 : MLk RX9 175 mX9_compacts.1 := Or.inl (lw_g_in (t4_in (List.mem_of_getElem? (i := 237) rfl)) rfl)
theorem mlX9_191 : MLk RX9 191 mX9_meet.1 := Or.inl (lw_g_in (t5_in (List.mem_of_getElem? (i := 1) rfl)) rfl)
theorem mlX9_185 : MLk RX9 185 mX9_end.1 := Or.inl (lw_g_in (t5_in (List.mem_of_getElem? (i := 5) rfl)) rfl)
theorem mlX9_182 : MLk RX9 182 mX9_before.1 := Or.inl (lw_g_in (t5_in (List.mem_of_getElem? (i := 9) rfl)) rfl)
theorem mlX9_178 : MLk RX9 178 mX9_places.1 := Or.inl (lw_g_in (t5_in (List.mem_of_getElem? (i := 13) rfl)) rfl)
theorem mlX9_194 : MLk RX9 194 mX9_dropFile.1 := Or.inl (lw_g_in (t5_in (List.mem_of_getElem? (i := 17) rfl)) rfl)
theorem mlX9_197 : MLk RX9 197 mX9_sort.1 := Or.inl (lw_g_in (t5_in (List.mem_of_getElem? (i := 21) rfl)) rfl)
theorem mlX9_200 : MLk RX9 200 mX9_merge.1 := Or.inl (lw_g_in (t5_in (List.mem_of_getElem? (i := 25) rfl)) rfl)
theorem mlX9_203 : MLk RX9 203 mX9_horizon.1 := Or.inl (lw_g_in (t5_in (List.mem_of_getElem? (i := 29) rfl)) rfl)
theorem mlX9_206 : MLk RX9 206 mX9_clean.1 := Or.inl (lw_g_in (t5_in (List.mem_of_getElem? (i := 33) rfl)) rfl)
theorem mlL_54 : MLk RL 54 mX9_tear.1 := Or.inl (lw_g_in (t5_in (List.mem_of_getElem? (i := 37) rfl)) rfl)
theorem mlX9_161 : MLk RX9 161 mX9_crash.1 := Or.inl (lw_g_in (t5_in (List.mem_of_getElem? (i := 41) rfl)) rfl)
theorem mlL_59 : MLk RL 59 mX9_abort.1 := Or.inl (lw_g_in (t5_in (List.mem_of_getElem? (i := 45) rfl)) rfl)
theorem mlL_71 : MLk RL 71 mX9_crash.1 := Or.inl (lw_g_in (t5_in (List.mem_of_getElem? (i := 49) rfl)) rfl)
theorem mlL_63 : MLk RL 63 mX9_flush.1 := Or.inl (lw_g_in (t5_in (List.mem_of_getElem? (i := 50) rfl)) rfl)
theorem mlL_92 : MLk RL 92 mX9_files.1 := Or.inl (lw_g_in (t5_in (List.mem_of_getElem? (i := 51) rfl)) rfl)
theorem mlL_67 : MLk RL 67 mX9_compact.1 := Or.inl (lw_g_in (t5_in (List.mem_of_getElem? (i := 52) rfl)) rfl)
theorem mlL_45 : MLk RL 45 mX9_query.1 := Or.inl (lw_g_in (t5_in (List.mem_of_getElem? (i := 56) rfl)) rfl)
theorem mlX9_245 : MLk RX9 245 mX9_conjuncts.1 := Or.inl (lw_g_in (t5_in (List.mem_of_getElem? (i := 60) rfl)) rfl)
theorem coX9_227 : Cond.constantLong RX9 227 (-2147483648) ∈ lw_g := lw_g_in (t5_in (List.mem_of_getElem? (i := 64) rfl)) rfl
theorem coX9_233 : Cond.constantLong RX9 233 (2147483647) ∈ lw_g := lw_g_in (t5_in (List.mem_of_getElem? (i := 65) rfl)) rfl
theorem mlX9_220 : MLk RX9 220 mX9_from.1 := Or.inl (lw_g_in (t5_in (List.mem_of_getElem? (i := 66) rfl)) rfl)
theorem mlX9_235 : MLk RX9 235 mX9_conjunct.1 := Or.inl (lw_g_in (t5_in (List.mem_of_getElem? (i := 70) rfl)) rfl)
theorem mlX9_223 : MLk RX9 223 mX9_same.1 := Or.inl (lw_g_in (t5_in (List.mem_of_getElem? (i := 74) rfl)) rfl)
theorem mlX9_229 : MLk RX9 229 mX9_bound.1 := Or.inl (lw_g_in (t5_in (List.mem_of_getElem? (i := 78) rfl)) rfl)
theorem mlL_75 : MLk RL 75 mX9_result.1 := Or.inl (lw_g_in (t5_in (List.mem_of_getElem? (i := 82) rfl)) rfl)
theorem mlL_80 : MLk RL 80 mX9_plan.1 := Or.inl (lw_g_in (t5_in (List.mem_of_getElem? (i := 86) rfl)) rfl)
theorem coX9_255 : Cond.constantLong RX9 255 (-1) ∈ lw_g := lw_g_in (t5_in (List.mem_of_getElem? (i := 90) rfl)) rfl
theorem mlL_84 : MLk RL 84 mX9_state.1 := Or.inl (lw_g_in (t5_in (List.mem_of_getElem? (i := 91) rfl)) rfl)
theorem mlL_88 : MLk RL 88 mX9_about.1 := Or.inl (lw_g_in (t5_in (List.mem_of_getElem? (i := 95) rfl)) rfl)
theorem mlL_96 : MLk RL 96 mX9_file.1 := Or.inl (lw_g_in (t5_in (List.mem_of_getElem? (i := 99) rfl)) rfl)
theorem mlX9_257 : MLk RX9 257 mX9_aboutFile.1 := Or.inl (lw_g_in (t5_in (List.mem_of_getElem? (i := 103) rfl)) rfl)
theorem math_ini : Cond.initialized "java/lang/Math" ∈ lw_g := lw_g_in (t1_in (List.mem_of_getElem? (i := 12) rfl)) rfl
theorem oi_in : Cond.instanceMethod objectInit ∈ lw_g := lw_g_in (t1_in (List.mem_of_getElem? (i := 26) rfl)) rfl
theorem oi_code : Cond.code objectInit ⟨#[0xb1]⟩ 1 none ∈ lw_g := lw_g_in (t1_in (List.mem_of_getElem? (i := 27) rfl)) rfl
end
section
section MATH
variable {X : CX} {M : MD} {d pc pc' : Nat} {L : List (Option LV)} {S S' : List LV} {G : GH} {Q : Option LV → GH → Prop}
theorem Ev.psr (hp : ∀ (p : Program) (e : Env) (R : Room) (s : State) (m : MethodId) (args : Array Value) (below : List Frame) (meth : Method) (c : Code), MCx X M d p R s m args meth c →
    ∀ (H : Heap) (locs : List Loc) (cells slots : Nat) (ls : Array Slot) (Z : State → Prop), va_S (cx_A X) s.heap H locs → lvOK X ls M.2.2.1 L → cells ≤ R.cells → slots ≤ R.slots →
    W p X.1 e R s m args below meth c H locs cells slots Z (F0 m pc' ls (S'.map (cx_v X))) → W p X.1 e R s m args below meth c H locs cells slots Z (F0 m pc ls (S.map (cx_v X))))
    (h : Ev X M d pc' L S' G Q) : Ev X M d pc L S G Q := by
  obtain ⟨r, G', h1, h2, h3, h4⟩ := h
  refine ⟨r, G', h1, h2, ?_, h4⟩
  intro p e R s m args below meth c C H locs cells slots ls Z hR hS hl hc hs k
  exact hp p e R s m args below meth c C H locs cells slots ls Z hS hl (Nat.le_trans (Nat.le_add_right _ _) hc) (Nat.le_trans (Nat.le_add_right _ _) hs) (h3 p e R s m args below meth c C H locs cells slots ls Z hR hS hl hc hs k)
theorem mcat {S : List LV} {R : Room} (h : 64 * (d + 1) ≤ R.locals) (hW : catS X S ≤ 8) : ((S.map (cx_v X)).map fun v => v.category).sum ≤ 8 ∧ 64 ≤ R.locals := by
  have e : ((S.map (cx_v X)).map fun v => v.category).sum = catS X S := by unfold catS; rw [List.map_map]; rfl
  exact ⟨by rw [e]; exact hW, by omega⟩
def MLp (own : String) (idx : Nat) (y : MethodName) : Prop := Cond.methodLink own idx y ∈ lw_g
theorem ev_maxI {idx : Nat} {x y : Int32} (hd : decode M.2.1 pc = .ok (.invokestatic idx, 3)) (hm : MLp M.1.cls idx mJ9_max_7cf53.1) (hW : catS X S ≤ 8) (k : Ev X M (d + 1) (pc + 3) L (iV (if x < y then y else x) :: S) G Q) : Ev X M (d + 1) pc L (iV y :: iV x :: S) G Q := by
  refine Ev.psr ?_ k
  intro p e R s m args below meth c C H locs cells slots ls Z hS hl' hc1 hc2 kk
  obtain ⟨hx, hb, hr, hml, hown, hts, hlk, hin, hK, hfr, hlo⟩ := C
  have hc := mcat hlo hW
  exact va_mmax hx hb (by rw [hml]; exact hl'.1.symm) hown (hts _ hm) (hts _ stJ9_max_7cf53) (hts _ math_ini) (hts _ cdJ9_max_7cf53) (by omega) (by omega) hc1 hc2 hd kk
theorem ev_minI {idx : Nat} {x y : Int32} (hd : decode M.2.1 pc = .ok (.invokestatic idx, 3)) (hm : MLp M.1.cls idx mJ9_min_7cf53.1) (hW : catS X S ≤ 8) (k : Ev X M (d + 1) (pc + 3) L (iV (if y < x then y else x) :: S) G Q) : Ev X M (d + 1) pc L (iV y :: iV x :: S) G Q := by
  refine Ev.psr ?_ k
  intro p e R s m args below meth c C H locs cells slots ls Z hS hl' hc1 hc2 kk
  obtain ⟨hx, hb, hr, hml, hown, hts, hlk, hin, hK, hfr, hlo⟩ := C
  have hc := mcat hlo hW
  exact va_mmin hx hb (by rw [hml]; exact hl'.1.symm) hown (hts _ hm) (hts _ stJ9_min_7cf53) (hts _ math_ini) (hts _ cdJ9_min_7cf53) (by omega) (by omega) hc1 hc2 hd kk
theorem ev_maxL {idx : Nat} {x y : Int64} (hd : decode M.2.1 pc = .ok (.invokestatic idx, 3)) (hm : MLp M.1.cls idx mJ9_max_f86c9.1) (hW : catS X S ≤ 8) (k : Ev X M (d + 1) (pc + 3) L (lV (if y < x then x else y) :: S) G Q) : Ev X M (d + 1) pc L (lV y :: lV x :: S) G Q := by
  refine Ev.psr ?_ k
  intro p e R s m args below meth c C H locs cells slots ls Z hS hl' hc1 hc2 kk
  obtain ⟨hx, hb, hr, hml, hown, hts, hlk, hin, hK, hfr, hlo⟩ := C
  have hc := mcat hlo hW
  exact va_mmax_long hx hb (by rw [hml]; exact hl'.1.symm) hown (hts _ hm) (hts _ stJ9_max_f86c9) (hts _ math_ini) (hts _ cdJ9_max_f86c9) (by omega) (by omega) hc1 hc2 hd kk
theorem ev_minL {idx : Nat} {x y : Int64} (hd : decode M.2.1 pc = .ok (.invokestatic idx, 3)) (hm : MLp M.1.cls idx mJ9_min_f86c9.1) (hW : catS X S ≤ 8) (k : Ev X M (d + 1) (pc + 3) L (lV (if y < x then y else x) :: S) G Q) : Ev X M (d + 1) pc L (lV y :: lV x :: S) G Q := by
  refine Ev.psr ?_ k
  intro p e R s m args below meth c C H locs cells slots ls Z hS hl' hc1 hc2 kk
  obtain ⟨hx, hb, hr, hml, hown, hts, hlk, hin, hK, hfr, hlo⟩ := C
  have hc := mcat hlo hW
  exact va_mmin_long hx hb (by rw [hml]; exact hl'.1.symm) hown (hts _ hm) (hts _ stJ9_min_f86c9) (hts _ math_ini) (hts _ cdJ9_min_f86c9) (by omega) (by omega) hc1 hc2 hd kk
end MATH
end
section
section NAT
variable {X : CX} {M : MD} {d pc : Nat} {L : List (Option LV)} {S : List LV} {G : GH} {Q : Option LV → GH → Prop} {a b : Nat}
theorem ev_iconstN {n : Int} (v : Nat) (hd : decode M.2.1 pc = .ok (.iconst n, 1)) (hv : Int32.ofInt n = nI v) (k : Ev X M d (pc + 1) L (iV (nI v) :: S) G Q) : Ev X M d pc L S G Q := ev_iconst _ hd hv k
theorem ev_bipushN {n : Int} (v : Nat) (hd : decode M.2.1 pc = .ok (.bipush n, 2)) (hv : (Int8.ofInt n).toInt32 = nI v) (k : Ev X M d (pc + 2) L (iV (nI v) :: S) G Q) : Ev X M d pc L S G Q := ev_bipush _ hd hv k
theorem ev_sipushN {n : Int} (v : Nat) (hd : decode M.2.1 pc = .ok (.sipush n, 3)) (hv : (Int16.ofInt n).toInt32 = nI v) (k : Ev X M d (pc + 3) L (iV (nI v) :: S) G Q) : Ev X M d pc L S G Q := ev_sipush _ hd hv k
theorem ev_iaddN (hd : decode M.2.1 pc = .ok (.iadd, 1)) (k : Ev X M d (pc + 1) L (iV (nI (a + b)) :: S) G Q) : Ev X M d pc L (iV (nI b) :: iV (nI a) :: S) G Q := ev_iadd hd (by rw [nI_add]; exact k)
theorem ev_isubN (hd : decode M.2.1 pc = .ok (.isub, 1)) (h : b ≤ a) (k : Ev X M d (pc + 1) L (iV (nI (a - b)) :: S) G Q) : Ev X M d pc L (iV (nI b) :: iV (nI a) :: S) G Q := ev_isub hd (by rw [pk_sub h]; exact k)
theorem ev_imulN (hd : decode M.2.1 pc = .ok (.imul, 1)) (k : Ev X M d (pc + 1) L (iV (nI (a * b)) :: S) G Q) : Ev X M d pc L (iV (nI b) :: iV (nI a) :: S) G Q := ev_imul hd (by rw [pk_mul]; exact k)
theorem ev_idivN (hd : decode M.2.1 pc = .ok (.idiv, 1)) (ha : a < 2147483648) (hb : b < 2147483648) (h0 : 0 < b) (k : Ev X M d (pc + 1) L (iV (nI (a / b)) :: S) G Q) : Ev X M d pc L (iV (nI b) :: iV (nI a) :: S) G Q := ev_idiv hd (nI_ne0 h0 hb) (by rw [pk_div ha h0 hb]; exact k)
theorem ev_iremN (hd : decode M.2.1 pc = .ok (.irem, 1)) (ha : a < 2147483648) (hb : b < 2147483648) (h0 : 0 < b) (k : Ev X M d (pc + 1) L (iV (nI (a % b)) :: S) G Q) : Ev X M d pc L (iV (nI b) :: iV (nI a) :: S) G Q := ev_irem hd (nI_ne0 h0 hb) (by rw [pk_rem ha h0 hb]; exact k)
theorem ev_icmp_eqN {o : Int} (t : Nat) (hd : decode M.2.1 pc = .ok (.if_icmp .eq o, 3)) (ht : (pc : Int) + o = (t : Int)) (ha : a < 2147483648) (hb : b < 2147483648) (kt : a = b → Ev X M d t L S G Q) (kf : ¬ a = b → Ev X M d (pc + 3) L S G Q) : Ev X M d pc L (iV (nI b) :: iV (nI a) :: S) G Q := ev_icmp_eq t hd ht (fun h => kt ((nI_eq ha hb).mp h)) (fun h => kf (fun z => h ((nI_eq ha hb).mpr z)))
theorem ev_icmp_neN {o : Int} (t : Nat) (hd : decode M.2.1 pc = .ok (.if_icmp .ne o, 3)) (ht : (pc : Int) + o = (t : Int)) (ha : a < 2147483648) (hb : b < 2147483648) (kt : ¬ a = b → Ev X M d t L S G Q) (kf : a = b → Ev X M d (pc + 3) L S G Q) : Ev X M d pc L (iV (nI b) :: iV (nI a) :: S) G Q := ev_icmp_ne t hd ht (fun h => kt (fun z => h ((nI_eq ha hb).mpr z))) (fun h => kf ((nI_eq ha hb).mp h))
theorem ev_icmp_ltN {o : Int} (t : Nat) (hd : decode M.2.1 pc = .ok (.if_icmp .lt o, 3)) (ht : (pc : Int) + o = (t : Int)) (ha : a < 2147483648) (hb : b < 2147483648) (kt : a < b → Ev X M d t L S G Q) (kf : b ≤ a → Ev X M d (pc + 3) L S G Q) : Ev X M d pc L (iV (nI b) :: iV (nI a) :: S) G Q := ev_icmp_lt t hd ht (fun h => kt ((nI_ltI ha hb).mp h)) (fun h => kf (Nat.not_lt.mp (fun z => h ((nI_ltI ha hb).mpr z))))
theorem ev_icmp_geN {o : Int} (t : Nat) (hd : decode M.2.1 pc = .ok (.if_icmp .ge o, 3)) (ht : (pc : Int) + o = (t : Int)) (ha : a < 2147483648) (hb : b < 2147483648) (kt : b ≤ a → Ev X M d t L S G Q) (kf : a < b → Ev X M d (pc + 3) L S G Q) : Ev X M d pc L (iV (nI b) :: iV (nI a) :: S) G Q := ev_icmp_ge t hd ht (fun h => kt ((nI_leI hb ha).mp h)) (fun h => kf (Nat.not_le.mp (fun z => h ((nI_leI hb ha).mpr z))))
theorem ev_icmp_gtN {o : Int} (t : Nat) (hd : decode M.2.1 pc = .ok (.if_icmp .gt o, 3)) (ht : (pc : Int) + o = (t : Int)) (ha : a < 2147483648) (hb : b < 2147483648) (kt : b < a → Ev X M d t L S G Q) (kf : a ≤ b → Ev X M d (pc + 3) L S G Q) : Ev X M d pc L (iV (nI b) :: iV (nI a) :: S) G Q := ev_icmp_gt t hd ht (fun h => kt ((nI_ltI hb ha).mp h)) (fun h => kf (Nat.not_lt.mp (fun z => h ((nI_ltI hb ha).mpr z))))
theorem ev_icmp_leN {o : Int} (t : Nat) (hd : decode M.2.1 pc = .ok (.if_icmp .le o, 3)) (ht : (pc : Int) + o = (t : Int)) (ha : a < 2147483648) (hb : b < 2147483648) (kt : a ≤ b → Ev X M d t L S G Q) (kf : b < a → Ev X M d (pc + 3) L S G Q) : Ev X M d pc L (iV (nI b) :: iV (nI a) :: S) G Q := ev_icmp_le t hd ht (fun h => kt ((nI_leI ha hb).mp h)) (fun h => kf (Nat.not_le.mp (fun z => h ((nI_leI ha hb).mpr z))))
theorem ev_if_eqN {o : Int} (t : Nat) (hd : decode M.2.1 pc = .ok (.ifCond .eq o, 3)) (ht : (pc : Int) + o = (t : Int)) (ha : a < 2147483648) (kt : a = 0 → Ev X M d t L S G Q) (kf : 0 < a → Ev X M d (pc + 3) L S G Q) : Ev X M d pc L (iV (nI a) :: S) G Q := ev_if_eq t hd ht (fun h => kt ((nI_eq (b := 0) ha (by decide)).mp h)) (fun h => kf (Nat.pos_of_ne_zero (fun z => h ((nI_eq (b := 0) ha (by decide)).mpr z))))
theorem ev_if_neN {o : Int} (t : Nat) (hd : decode M.2.1 pc = .ok (.ifCond .ne o, 3)) (ht : (pc : Int) + o = (t : Int)) (ha : a < 2147483648) (kt : 0 < a → Ev X M d t L S G Q) (kf : a = 0 → Ev X M d (pc + 3) L S G Q) : Ev X M d pc L (iV (nI a) :: S) G Q := ev_if_ne t hd ht (fun h => kt (Nat.pos_of_ne_zero (fun z => h ((nI_eq (b := 0) ha (by decide)).mpr z)))) (fun h => kf ((nI_eq (b := 0) ha (by decide)).mp h))
theorem ev_if_ltN {o : Int} (t : Nat) (hd : decode M.2.1 pc = .ok (.ifCond .lt o, 3)) (ht : (pc : Int) + o = (t : Int)) (ha : a < 2147483648) (k : Ev X M d (pc + 3) L S G Q) : Ev X M d pc L (iV (nI a) :: S) G Q := ev_if_lt t hd ht (fun h => absurd h (nI_pos ha)) (fun _ => k)
theorem ev_if_geN {o : Int} (t : Nat) (hd : decode M.2.1 pc = .ok (.ifCond .ge o, 3)) (ht : (pc : Int) + o = (t : Int)) (ha : a < 2147483648) (k : Ev X M d t L S G Q) : Ev X M d pc L (iV (nI a) :: S) G Q := ev_if_ge t hd ht (fun _ => k) (fun h => absurd (nI_pos' ha) h)
theorem ev_if_gtN {o : Int} (t : Nat) (hd : decode M.2.1 pc = .ok (.ifCond .gt o, 3)) (ht : (pc : Int) + o = (t : Int)) (ha : a < 2147483648) (kt : 0 < a → Ev X M d t L S G Q) (kf : a = 0 → Ev X M d (pc + 3) L S G Q) : Ev X M d pc L (iV (nI a) :: S) G Q := ev_if_gt t hd ht (fun h => kt ((nI_ltI (a := 0) (by decide) ha).mp h)) (fun h => kf (Nat.eq_zero_of_not_pos (fun z => h ((nI_ltI (a := 0) (by decide) ha).mpr z))))
theorem ev_if_leN {o : Int} (t : Nat) (hd : decode M.2.1 pc = .ok (.ifCond .le o, 3)) (ht : (pc : Int) + o = (t : Int)) (ha : a < 2147483648) (kt : a = 0 → Ev X M d t L S G Q) (kf : 0 < a → Ev X M d (pc + 3) L S G Q) : Ev X M d pc L (iV (nI a) :: S) G Q := ev_if_le t hd ht (fun h => kt (Nat.eq_zero_of_not_pos (fun z => nI_nle z ha h))) (fun h => kf (Nat.pos_of_ne_zero (fun z => h (by rw [z]; exact nI_leI (a := 0) (b := 0) (by decide) (by decide) |>.mpr (Nat.le_refl 0)))))
theorem ev_iincN {j : Nat} {n : Int} (L' : List (Option LV)) (hd : decode M.2.1 pc = .ok (.iinc j n, 3)) (hx : L[j]? = some (some (iV (nI a)))) (hv : Int32.ofInt n = nI b) (hn : j < M.2.2.1) (hL : stL L j (iV (nI (a + b))) = L') (k : Ev X M d (pc + 3) L' S G Q) : Ev X M d pc L S G Q := ev_iinc (nI (a + b)) L' hd hx (by rw [hv, nI_add]) hn hL k
theorem ev_iincM {j : Nat} {n : Int} (L' : List (Option LV)) (hd : decode M.2.1 pc = .ok (.iinc j n, 3)) (hx : L[j]? = some (some (iV (nI (a + 1))))) (hv : Int32.ofInt n = -1) (hn : j < M.2.2.1) (hL : stL L j (iV (nI a)) = L') (k : Ev X M d (pc + 3) L' S G Q) : Ev X M d pc L S G Q := ev_iinc (nI a) L' hd hx (by rw [hv, pk_m1]) hn hL k
end NAT
section GETV
variable {X : CX} {M : MD} {d pc : Nat} {L : List (Option LV)} {S : List LV} {Q : Option LV → GH → Prop} {K : Nat → Nat} {I : Nat → Nat → Int32} {J : Nat → Nat → Int64} {R : Nat → Nat → Option Nat} {A : Nat → Nat → Int32} {B : Nat → Nat → Option Nat} {Ln : Nat → Nat} {n sl : Nat}
theorem ev_getIv {i f idx : Nat} {v : Int32} (hd : decode M.2.1 pc = .ok (.getfield idx, 3)) (hf : FLi M.1.cls idx f) (hk : K i = f / 64) (hv : I f i = v) (k : Ev X M d (pc + 3) L (iV v :: S) (K, I, J, R, A, B, Ln, n, sl) Q) : Ev X M d pc L (rV (some i) :: S) (K, I, J, R, A, B, Ln, n, sl) Q := by
  subst hv
  exact ev_getI hd hf hk k
theorem ev_getJv {i f idx : Nat} {v : Int64} (hd : decode M.2.1 pc = .ok (.getfield idx, 3)) (hf : FLj M.1.cls idx f) (hk : K i = f / 64) (hv : J f i = v) (k : Ev X M d (pc + 3) L (lV v :: S) (K, I, J, R, A, B, Ln, n, sl) Q) : Ev X M d pc L (rV (some i) :: S) (K, I, J, R, A, B, Ln, n, sl) Q := by
  subst hv
  exact ev_getJ hd hf hk k
theorem ev_ialdv {i j m : Nat} {v : Int32} (hd : decode M.2.1 pc = .ok (.iaload, 1)) (hk : K i = 100) (hm : Ln i = m) (hb : m < 2147483648) (hj : j < m) (hv : A i j = v) (k : Ev X M d (pc + 1) L (iV v :: S) (K, I, J, R, A, B, Ln, n, sl) Q) : Ev X M d pc L (iV (nI j) :: rV (some i) :: S) (K, I, J, R, A, B, Ln, n, sl) Q := by
  subst hv
  exact ev_iald hd hk hm hb hj k
theorem ev_zaldv {i j m : Nat} {v : Int32} (hd : decode M.2.1 pc = .ok (.baload, 1)) (hk : K i = 101) (hm : Ln i = m) (hb : m < 2147483648) (hj : j < m) (hv : A i j = v) (k : Ev X M d (pc + 1) L (iV v :: S) (K, I, J, R, A, B, Ln, n, sl) Q) : Ev X M d pc L (iV (nI j) :: rV (some i) :: S) (K, I, J, R, A, B, Ln, n, sl) Q := by
  subst hv
  exact ev_zald hd hk hm hb hj k
end GETV
end
