theorem goodIn_r {big : List Cond} (ws : List Cond) (ps : List Nat) (hp : ws = ps.filterMap (fun i => big[i]?)) (h : ws.all goodWord = true) : GoodIn big ws := by
  intro w hw
  have h1 := List.all_eq_true.mp h w hw
  rw [hp] at hw
  obtain ⟨i, -, hi⟩ := List.mem_filterMap.mp hw
  have hm : w ∈ big := by first | exact List.mem_of_getElem? hi | exact List.getElem?_mem hi
  exact ⟨hm, good_of_word h1⟩
def RX0 : String := "VersionedRows$Entry"
def TX0 : u_T := fun k => match k with
  | 0 => ("VersionedRows$Entry", "space", "I", true)
  | 1 => ("VersionedRows$Entry", "value", "I", true)
  | 2 => ("VersionedRows$Entry", "key", "I", true)
  | 3 => ("VersionedRows$Entry", "place", "J", true)
  | 4 => ("VersionedRows$Entry", "stamp", "I", true)
  | 5 => ("VersionedRows$Entry", "row", "LVersionedRows$Row;", true)
  | _ => ("VersionedRows$Entry", "home", "LVersionedRows$SortedFile;", false)
def tyX0 : Nat → FieldType := fun k => match k with
  | 0 => .int
  | 1 => .int
  | 2 => .int
  | 3 => .long
  | 4 => .int
  | 5 => .object "VersionedRows$Row"
  | _ => .object "VersionedRows$SortedFile"
abbrev wsX00 : List Cond := u_ws RX0 TX0 7
theorem nmX0 : ∀ a, a < 7 → ∀ b, b < 7 → a ≠ b → (TX0 a).2.1 ≠ (TX0 b).2.1 := by decide +kernel
theorem tyX0_ok : ∀ k, k < 7 → parseFieldDescriptor (TX0 k).2.2.1 = some (tyX0 k) := by decide +kernel
abbrev cX0_init : ByteArray := prog_2_method_1_code
def yX0_init : MethodName := ⟨RX0, "<init>", "(IIIILVersionedRows$Row;)V"⟩
abbrev cX0_placeOf : ByteArray := prog_2_method_2_code
def yX0_placeOf : MethodName := ⟨RX0, "placeOf", "(III)J"⟩
abbrev cX0_isBefore : ByteArray := prog_2_method_3_code
def yX0_isBefore : MethodName := ⟨RX0, "isBefore", "(JI)Z"⟩
abbrev cX0_isWithin : ByteArray := prog_2_method_4_code
def yX0_isWithin : MethodName := ⟨RX0, "isWithin", "(IJJ)Z"⟩
abbrev cX0_isInRetiredFile : ByteArray := prog_2_method_5_code
def yX0_isInRetiredFile : MethodName := ⟨RX0, "isInRetiredFile", "()Z"⟩
def RX1 : String := "VersionedRows$Expression"
def TX1 : u_T := fun k => match k with
  | 0 => ("VersionedRows$Expression", "op", "I", true)
  | 1 => ("VersionedRows$Expression", "n", "I", true)
  | 2 => ("VersionedRows$Expression", "first", "LVersionedRows$Expression;", true)
  | 3 => ("VersionedRows$Expression", "second", "LVersionedRows$Expression;", true)
  | _ => ("VersionedRows$Expression", "nodes", "I", true)
def tyX1 : Nat → FieldType := fun k => match k with
  | 0 => .int
  | 1 => .int
  | 2 => .object "VersionedRows$Expression"
  | 3 => .object "VersionedRows$Expression"
  | _ => .int
abbrev wsX10 : List Cond := u_ws RX1 TX1 5
theorem nmX1 : ∀ a, a < 5 → ∀ b, b < 5 → a ≠ b → (TX1 a).2.1 ≠ (TX1 b).2.1 := by decide +kernel
theorem tyX1_ok : ∀ k, k < 5 → parseFieldDescriptor (TX1 k).2.2.1 = some (tyX1 k) := by decide +kernel
abbrev cX1_init : ByteArray := prog_3_method_1_code
def yX1_init : MethodName := ⟨RX1, "<init>", "(IILVersionedRows$Expression;LVersionedRows$Expression;)V"⟩
abbrev cX1_nodesOf : ByteArray := prog_3_method_2_code
def yX1_nodesOf : MethodName := ⟨RX1, "nodesOf", "(LVersionedRows$Expression;)I"⟩
abbrev cX1_isBool : ByteArray := prog_3_method_3_code
def yX1_isBool : MethodName := ⟨RX1, "isBool", "()Z"⟩
abbrev cX1_isConst : ByteArray := prog_3_method_4_code
def yX1_isConst : MethodName := ⟨RX1, "isConst", "()Z"⟩
abbrev cX1_areSame : ByteArray := prog_3_method_5_code
def yX1_areSame : MethodName := ⟨RX1, "areSame", "(LVersionedRows$Expression;LVersionedRows$Expression;)Z"⟩
abbrev cX1_numberOf : ByteArray := prog_3_method_6_code
def yX1_numberOf : MethodName := ⟨RX1, "numberOf", "(LVersionedRows$Expression;LVersionedRows$Row;)I"⟩
abbrev cX1_isTrueOf : ByteArray := prog_3_method_7_code
def yX1_isTrueOf : MethodName := ⟨RX1, "isTrueOf", "(LVersionedRows$Expression;LVersionedRows$Row;)Z"⟩
def RX2 : String := "VersionedRows$Range"
def TX2 : u_T := fun k => match k with
  | 0 => ("VersionedRows$Range", "subject", "LVersionedRows$Expression;", true)
  | 1 => ("VersionedRows$Range", "low", "J", false)
  | 2 => ("VersionedRows$Range", "high", "J", false)
  | _ => ("VersionedRows$Range", "isSaid", "Z", false)
def tyX2 : Nat → FieldType := fun k => match k with
  | 0 => .object "VersionedRows$Expression"
  | 1 => .long
  | 2 => .long
  | _ => .boolean
abbrev wsX20 : List Cond := u_ws RX2 TX2 4
theorem nmX2 : ∀ a, a < 4 → ∀ b, b < 4 → a ≠ b → (TX2 a).2.1 ≠ (TX2 b).2.1 := by decide +kernel
theorem tyX2_ok : ∀ k, k < 4 → parseFieldDescriptor (TX2 k).2.2.1 = some (tyX2 k) := by decide +kernel
abbrev cX2_init : ByteArray := prog_4_method_1_code
def yX2_init : MethodName := ⟨RX2, "<init>", "(LVersionedRows$Expression;)V"⟩
abbrev cX2_width : ByteArray := prog_4_method_2_code
def yX2_width : MethodName := ⟨RX2, "width", "()J"⟩
abbrev cX2_tellConjuncts : ByteArray := prog_4_method_3_code
def yX2_tellConjuncts : MethodName := ⟨RX2, "tellConjuncts", "(LVersionedRows$Expression;LVersionedRows$Range;)V"⟩
abbrev cX2_hear : ByteArray := prog_4_method_4_code
def yX2_hear : MethodName := ⟨RX2, "hear", "(ZLVersionedRows$Expression;LVersionedRows$Expression;)V"⟩
abbrev cX2_narrow : ByteArray := prog_4_method_5_code
def yX2_narrow : MethodName := ⟨RX2, "narrow", "(JJ)V"⟩
def RX3 : String := "VersionedRows$Row"
def TX3 : u_T := fun k => match k with
  | 0 => ("VersionedRows$Row", "number", "I", true)
  | 1 => ("VersionedRows$Row", "flag", "I", true)
  | _ => ("VersionedRows$Row", "name", "I", true)
def tyX3 : Nat → FieldType := fun k => match k with
  | 0 => .int
  | 1 => .int
  | _ => .int
abbrev wsX30 : List Cond := u_ws RX3 TX3 3
theorem nmX3 : ∀ a, a < 3 → ∀ b, b < 3 → a ≠ b → (TX3 a).2.1 ≠ (TX3 b).2.1 := by decide +kernel
theorem tyX3_ok : ∀ k, k < 3 → parseFieldDescriptor (TX3 k).2.2.1 = some (tyX3 k) := by decide +kernel
abbrev cX3_init : ByteArray := prog_5_method_1_code
def yX3_init : MethodName := ⟨RX3, "<init>", "(III)V"⟩
abbrev cX3_startsWith : ByteArray := prog_5_method_2_code
def yX3_startsWith : MethodName := ⟨RX3, "startsWith", "(I)Z"⟩
def RX4 : String := "VersionedRows$Sieve"
def TX4 : u_T := fun k => match k with
  | 0 => ("VersionedRows$Sieve", "horizon", "I", true)
  | 1 => ("VersionedRows$Sieve", "dropsDead", "Z", true)
  | 2 => ("VersionedRows$Sieve", "before", "LVersionedRows$Entry;", false)
  | _ => ("VersionedRows$Sieve", "isCovered", "Z", false)
def tyX4 : Nat → FieldType := fun k => match k with
  | 0 => .int
  | 1 => .boolean
  | 2 => .object "VersionedRows$Entry"
  | _ => .boolean
abbrev wsX40 : List Cond := u_ws RX4 TX4 4
theorem nmX4 : ∀ a, a < 4 → ∀ b, b < 4 → a ≠ b → (TX4 a).2.1 ≠ (TX4 b).2.1 := by decide +kernel
theorem tyX4_ok : ∀ k, k < 4 → parseFieldDescriptor (TX4 k).2.2.1 = some (tyX4 k) := by decide +kernel
abbrev cX4_init : ByteArray := prog_6_method_1_code
def yX4_init : MethodName := ⟨RX4, "<init>", "(IZ)V"⟩
abbrev cX4_keeps : ByteArray := prog_6_method_2_code
def yX4_keeps : MethodName := ⟨RX4, "keeps", "(LVersionedRows$Entry;)Z"⟩
def RX5 : String := "VersionedRows$SortedFile"
def TX5 : u_T := fun k => match k with
  | 0 => ("VersionedRows$SortedFile", "number", "I", true)
  | 1 => ("VersionedRows$SortedFile", "level", "I", true)
  | 2 => ("VersionedRows$SortedFile", "first", "LVersionedRows$Entry;", true)
  | 3 => ("VersionedRows$SortedFile", "last", "LVersionedRows$Entry;", false)
  | 4 => ("VersionedRows$SortedFile", "size", "I", false)
  | _ => ("VersionedRows$SortedFile", "isRetired", "Z", false)
def tyX5 : Nat → FieldType := fun k => match k with
  | 0 => .int
  | 1 => .int
  | 2 => .object "VersionedRows$Entry"
  | 3 => .object "VersionedRows$Entry"
  | 4 => .int
  | _ => .boolean
abbrev wsX50 : List Cond := u_ws RX5 TX5 6
theorem nmX5 : ∀ a, a < 6 → ∀ b, b < 6 → a ≠ b → (TX5 a).2.1 ≠ (TX5 b).2.1 := by decide +kernel
theorem tyX5_ok : ∀ k, k < 6 → parseFieldDescriptor (TX5 k).2.2.1 = some (tyX5 k) := by decide +kernel
abbrev cX5_init : ByteArray := prog_7_method_1_code
def yX5_init : MethodName := ⟨RX5, "<init>", "(IILVersionedRows$Entry;)V"⟩
abbrev cX5_append : ByteArray := prog_7_method_2_code
def yX5_append : MethodName := ⟨RX5, "append", "(LVersionedRows$Entry;)V"⟩
abbrev cX5_isFullBefore : ByteArray := prog_7_method_3_code
def yX5_isFullBefore : MethodName := ⟨RX5, "isFullBefore", "(LVersionedRows$Entry;)Z"⟩
abbrev cX5_meets : ByteArray := prog_7_method_4_code
def yX5_meets : MethodName := ⟨RX5, "meets", "(LVersionedRows$SortedFile;)Z"⟩
abbrev cX5_tell : ByteArray := prog_7_method_5_code
def yX5_tell : MethodName := ⟨RX5, "tell", "(I)I"⟩
def RX6 : String := "VersionedRows$Store"
def TX6 : u_T := fun k => match k with
  | 0 => ("VersionedRows$Store", "entries", "[LVersionedRows$Entry;", true)
  | 1 => ("VersionedRows$Store", "count", "I", false)
  | 2 => ("VersionedRows$Store", "inMemory", "I", false)
  | 3 => ("VersionedRows$Store", "sortedFiles", "Ljava/util/ArrayList;", true)
  | _ => ("VersionedRows$Store", "filesMade", "I", false)
def tyX6 : Nat → FieldType := fun k => match k with
  | 0 => .array (.object "VersionedRows$Entry")
  | 1 => .int
  | 2 => .int
  | 3 => .object "java/util/ArrayList"
  | _ => .int
abbrev wsX60 : List Cond := u_ws RX6 TX6 5
theorem nmX6 : ∀ a, a < 5 → ∀ b, b < 5 → a ≠ b → (TX6 a).2.1 ≠ (TX6 b).2.1 := by decide +kernel
theorem tyX6_ok : ∀ k, k < 5 → parseFieldDescriptor (TX6 k).2.2.1 = some (tyX6 k) := by decide +kernel
abbrev cX6_init : ByteArray := prog_8_method_1_code
def yX6_init : MethodName := ⟨RX6, "<init>", "()V"⟩
abbrev cX6_hasRoomFor : ByteArray := prog_8_method_2_code
def yX6_hasRoomFor : MethodName := ⟨RX6, "hasRoomFor", "(I)Z"⟩
abbrev cX6_add : ByteArray := prog_8_method_3_code
def yX6_add : MethodName := ⟨RX6, "add", "(LVersionedRows$Entry;)V"⟩
abbrev cX6_countBefore : ByteArray := prog_8_method_4_code
def yX6_countBefore : MethodName := ⟨RX6, "countBefore", "(JI)I"⟩
abbrev cX6_seenRow : ByteArray := prog_8_method_5_code
def yX6_seenRow : MethodName := ⟨RX6, "seenRow", "(II)LVersionedRows$Entry;"⟩
abbrev cX6_rowAt : ByteArray := prog_8_method_6_code
def yX6_rowAt : MethodName := ⟨RX6, "rowAt", "(II)LVersionedRows$Row;"⟩
abbrev cX6_lastStampOf : ByteArray := prog_8_method_7_code
def yX6_lastStampOf : MethodName := ⟨RX6, "lastStampOf", "(I)I"⟩
abbrev cX6_countThere : ByteArray := prog_8_method_8_code
def yX6_countThere : MethodName := ⟨RX6, "countThere", "(IJJI)I"⟩
abbrev cX6_writeMemoryOut : ByteArray := prog_8_method_9_code
def yX6_writeMemoryOut : MethodName := ⟨RX6, "writeMemoryOut", "()I"⟩
abbrev cX6_newFile : ByteArray := prog_8_method_10_code
def yX6_newFile : MethodName := ⟨RX6, "newFile", "(ILVersionedRows$Entry;)LVersionedRows$SortedFile;"⟩
abbrev cX6_countFiles : ByteArray := prog_8_method_11_code
def yX6_countFiles : MethodName := ⟨RX6, "countFiles", "(I)I"⟩
abbrev cX6_fileOn : ByteArray := prog_8_method_12_code
def yX6_fileOn : MethodName := ⟨RX6, "fileOn", "(II)LVersionedRows$SortedFile;"⟩
abbrev cX6_overfullLevel : ByteArray := prog_8_method_13_code
def yX6_overfullLevel : MethodName := ⟨RX6, "overfullLevel", "()I"⟩
abbrev cX6_mergeDown : ByteArray := prog_8_method_14_code
def yX6_mergeDown : MethodName := ⟨RX6, "mergeDown", "(II)I"⟩
abbrev cX6_retire : ByteArray := prog_8_method_15_code
def yX6_retire : MethodName := ⟨RX6, "retire", "(LVersionedRows$SortedFile;)V"⟩
abbrev cX6_moveRetired : ByteArray := prog_8_method_16_code
def yX6_moveRetired : MethodName := ⟨RX6, "moveRetired", "(II)I"⟩
def RX7 : String := "VersionedRows$Transaction"
def TX7 : u_T := fun k => match k with
  | 0 => ("VersionedRows$Transaction", "begin", "I", true)
  | 1 => ("VersionedRows$Transaction", "state", "I", false)
  | 2 => ("VersionedRows$Transaction", "hasWrites", "Z", false)
  | 3 => ("VersionedRows$Transaction", "written", "[Z", true)
  | _ => ("VersionedRows$Transaction", "rows", "[LVersionedRows$Row;", true)
def tyX7 : Nat → FieldType := fun k => match k with
  | 0 => .int
  | 1 => .int
  | 2 => .boolean
  | 3 => .array .boolean
  | _ => .array (.object "VersionedRows$Row")
abbrev wsX70 : List Cond := u_ws RX7 TX7 5
theorem nmX7 : ∀ a, a < 5 → ∀ b, b < 5 → a ≠ b → (TX7 a).2.1 ≠ (TX7 b).2.1 := by decide +kernel
theorem tyX7_ok : ∀ k, k < 5 → parseFieldDescriptor (TX7 k).2.2.1 = some (tyX7 k) := by decide +kernel
abbrev cX7_init : ByteArray := prog_9_method_1_code
def yX7_init : MethodName := ⟨RX7, "<init>", "(I)V"⟩
abbrev cX7_isOpen : ByteArray := prog_9_method_2_code
def yX7_isOpen : MethodName := ⟨RX7, "isOpen", "()Z"⟩
abbrev cX7_put : ByteArray := prog_9_method_3_code
def yX7_put : MethodName := ⟨RX7, "put", "(ILVersionedRows$Row;)V"⟩
def RX8 : String := "VersionedRows"
def TX8 : u_T := fun k => match k with
  | 0 => ("VersionedRows", "pile", "[LVersionedRows$Expression;", true)
  | 1 => ("VersionedRows", "pileSize", "I", false)
  | 2 => ("VersionedRows", "indexes", "[LVersionedRows$Expression;", true)
  | 3 => ("VersionedRows", "indexCount", "I", false)
  | 4 => ("VersionedRows", "transactions", "[LVersionedRows$Transaction;", true)
  | 5 => ("VersionedRows", "transactionCount", "I", false)
  | 6 => ("VersionedRows", "store", "LVersionedRows$Store;", true)
  | 7 => ("VersionedRows", "lastStamp", "I", false)
  | 8 => ("VersionedRows", "resultKeys", "[I", true)
  | 9 => ("VersionedRows", "resultSize", "I", false)
  | 10 => ("VersionedRows", "planIndex", "I", false)
  | 11 => ("VersionedRows", "planRange", "LVersionedRows$Range;", false)
  | _ => ("VersionedRows", "planCandidates", "I", false)
def tyX8 : Nat → FieldType := fun k => match k with
  | 0 => .array (.object "VersionedRows$Expression")
  | 1 => .int
  | 2 => .array (.object "VersionedRows$Expression")
  | 3 => .int
  | 4 => .array (.object "VersionedRows$Transaction")
  | 5 => .int
  | 6 => .object "VersionedRows$Store"
  | 7 => .int
  | 8 => .array .int
  | 9 => .int
  | 10 => .int
  | 11 => .object "VersionedRows$Range"
  | _ => .int
abbrev wsX80 : List Cond := u_ws RX8 TX8 13
theorem nmX8 : ∀ a, a < 13 → ∀ b, b < 13 → a ≠ b → (TX8 a).2.1 ≠ (TX8 b).2.1 := by decide +kernel
theorem tyX8_ok : ∀ k, k < 13 → parseFieldDescriptor (TX8 k).2.2.1 = some (tyX8 k) := by decide +kernel
abbrev cX8_init : ByteArray := prog_1_method_1_code
def yX8_init : MethodName := ⟨RX8, "<init>", "()V"⟩
abbrev cX8_say : ByteArray := prog_1_method_2_code
def yX8_say : MethodName := ⟨RX8, "say", "(II)Z"⟩
abbrev cX8_index : ByteArray := prog_1_method_3_code
def yX8_index : MethodName := ⟨RX8, "index", "()I"⟩
abbrev cX8_begin : ByteArray := prog_1_method_4_code
def yX8_begin : MethodName := ⟨RX8, "begin", "()I"⟩
abbrev cX8_read : ByteArray := prog_1_method_5_code
def yX8_read : MethodName := ⟨RX8, "read", "(III)I"⟩
abbrev cX8_write : ByteArray := prog_1_method_6_code
def yX8_write : MethodName := ⟨RX8, "write", "(IIIII)Z"⟩
abbrev cX8_remove : ByteArray := prog_1_method_7_code
def yX8_remove : MethodName := ⟨RX8, "remove", "(II)Z"⟩
abbrev cX8_query : ByteArray := prog_1_method_8_code
def yX8_query : MethodName := ⟨RX8, "query", "(I)I"⟩
abbrev cX8_commit : ByteArray := prog_1_method_9_code
def yX8_commit : MethodName := ⟨RX8, "commit", "(I)I"⟩
abbrev cX8_tear : ByteArray := prog_1_method_10_code
def yX8_tear : MethodName := ⟨RX8, "tear", "(II)I"⟩
abbrev cX8_abort : ByteArray := prog_1_method_11_code
def yX8_abort : MethodName := ⟨RX8, "abort", "(I)Z"⟩
abbrev cX8_flush : ByteArray := prog_1_method_12_code
def yX8_flush : MethodName := ⟨RX8, "flush", "()I"⟩
abbrev cX8_compact : ByteArray := prog_1_method_13_code
def yX8_compact : MethodName := ⟨RX8, "compact", "()I"⟩
abbrev cX8_crash : ByteArray := prog_1_method_14_code
def yX8_crash : MethodName := ⟨RX8, "crash", "()I"⟩
abbrev cX8_result : ByteArray := prog_1_method_15_code
def yX8_result : MethodName := ⟨RX8, "result", "(I)I"⟩
abbrev cX8_plan : ByteArray := prog_1_method_16_code
def yX8_plan : MethodName := ⟨RX8, "plan", "(I)J"⟩
abbrev cX8_state : ByteArray := prog_1_method_17_code
def yX8_state : MethodName := ⟨RX8, "state", "(I)I"⟩
abbrev cX8_about : ByteArray := prog_1_method_18_code
def yX8_about : MethodName := ⟨RX8, "about", "(I)I"⟩
abbrev cX8_files : ByteArray := prog_1_method_19_code
def yX8_files : MethodName := ⟨RX8, "files", "(I)I"⟩
abbrev cX8_file : ByteArray := prog_1_method_20_code
def yX8_file : MethodName := ⟨RX8, "file", "(III)I"⟩
abbrev cX8_isKey : ByteArray := prog_1_method_21_code
def yX8_isKey : MethodName := ⟨RX8, "isKey", "(I)Z"⟩
abbrev cX8_isName : ByteArray := prog_1_method_22_code
def yX8_isName : MethodName := ⟨RX8, "isName", "(I)Z"⟩
abbrev cX8_partsOf : ByteArray := prog_1_method_23_code
def yX8_partsOf : MethodName := ⟨RX8, "partsOf", "(I)I"⟩
abbrev cX8_countsN : ByteArray := prog_1_method_24_code
def yX8_countsN : MethodName := ⟨RX8, "countsN", "(I)Z"⟩
abbrev cX8_takesBools : ByteArray := prog_1_method_25_code
def yX8_takesBools : MethodName := ⟨RX8, "takesBools", "(I)Z"⟩
abbrev cX8_fits : ByteArray := prog_1_method_26_code
def yX8_fits : MethodName := ⟨RX8, "fits", "(ILVersionedRows$Expression;)Z"⟩
abbrev cX8_topOfPile : ByteArray := prog_1_method_27_code
def yX8_topOfPile : MethodName := ⟨RX8, "topOfPile", "()LVersionedRows$Expression;"⟩
abbrev cX8_typeOfTop : ByteArray := prog_1_method_28_code
def yX8_typeOfTop : MethodName := ⟨RX8, "typeOfTop", "()I"⟩
abbrev cX8_transactionOf : ByteArray := prog_1_method_29_code
def yX8_transactionOf : MethodName := ⟨RX8, "transactionOf", "(I)LVersionedRows$Transaction;"⟩
abbrev cX8_openOne : ByteArray := prog_1_method_30_code
def yX8_openOne : MethodName := ⟨RX8, "openOne", "(I)LVersionedRows$Transaction;"⟩
abbrev cX8_countOpen : ByteArray := prog_1_method_31_code
def yX8_countOpen : MethodName := ⟨RX8, "countOpen", "()I"⟩
abbrev cX8_loseOpenOnes : ByteArray := prog_1_method_32_code
def yX8_loseOpenOnes : MethodName := ⟨RX8, "loseOpenOnes", "()I"⟩
abbrev cX8_horizon : ByteArray := prog_1_method_33_code
def yX8_horizon : MethodName := ⟨RX8, "horizon", "()I"⟩
abbrev cX8_rowFor : ByteArray := prog_1_method_34_code
def yX8_rowFor : MethodName := ⟨RX8, "rowFor", "(LVersionedRows$Transaction;I)LVersionedRows$Row;"⟩
abbrev cX8_isTooLate : ByteArray := prog_1_method_35_code
def yX8_isTooLate : MethodName := ⟨RX8, "isTooLate", "(LVersionedRows$Transaction;)Z"⟩
abbrev cX8_batchSize : ByteArray := prog_1_method_36_code
def yX8_batchSize : MethodName := ⟨RX8, "batchSize", "(LVersionedRows$Transaction;)I"⟩
abbrev cX8_countIndexEntries : ByteArray := prog_1_method_37_code
def yX8_countIndexEntries : MethodName := ⟨RX8, "countIndexEntries", "(LVersionedRows$Row;LVersionedRows$Row;)I"⟩
abbrev cX8_hasOwnValue : ByteArray := prog_1_method_38_code
def yX8_hasOwnValue : MethodName := ⟨RX8, "hasOwnValue", "(ILVersionedRows$Row;LVersionedRows$Row;)Z"⟩
abbrev cX8_valueIn : ByteArray := prog_1_method_39_code
def yX8_valueIn : MethodName := ⟨RX8, "valueIn", "(ILVersionedRows$Row;)I"⟩
abbrev cX8_takeBatch : ByteArray := prog_1_method_40_code
def yX8_takeBatch : MethodName := ⟨RX8, "takeBatch", "(LVersionedRows$Transaction;)V"⟩
abbrev cX8_addIndexEntries : ByteArray := prog_1_method_41_code
def yX8_addIndexEntries : MethodName := ⟨RX8, "addIndexEntries", "(IILVersionedRows$Row;LVersionedRows$Row;)V"⟩
abbrev cX8_flushAndMerge : ByteArray := prog_1_method_42_code
def yX8_flushAndMerge : MethodName := ⟨RX8, "flushAndMerge", "()V"⟩
abbrev cX8_choosePlan : ByteArray := prog_1_method_43_code
def yX8_choosePlan : MethodName := ⟨RX8, "choosePlan", "(LVersionedRows$Expression;)V"⟩
abbrev cX8_countCandidates : ByteArray := prog_1_method_44_code
def yX8_countCandidates : MethodName := ⟨RX8, "countCandidates", "(I)V"⟩
abbrev cX8_fillResult : ByteArray := prog_1_method_45_code
def yX8_fillResult : MethodName := ⟨RX8, "fillResult", "(LVersionedRows$Expression;LVersionedRows$Transaction;)V"⟩
def RX9 : String := "VersionedRowsModel"
def TX9 : u_T := fun k => match k with
  | 0 => ("VersionedRowsModel", "pile", "I", false)
  | 1 => ("VersionedRowsModel", "indexes", "I", false)
  | 2 => ("VersionedRowsModel", "nodes", "[I", true)
  | 3 => ("VersionedRowsModel", "op", "[I", true)
  | 4 => ("VersionedRowsModel", "with", "[I", true)
  | 5 => ("VersionedRowsModel", "bool", "[Z", true)
  | 6 => ("VersionedRowsModel", "many", "I", false)
  | 7 => ("VersionedRowsModel", "space", "[I", true)
  | 8 => ("VersionedRowsModel", "value", "[I", true)
  | 9 => ("VersionedRowsModel", "key", "[I", true)
  | 10 => ("VersionedRowsModel", "stamp", "[I", true)
  | 11 => ("VersionedRowsModel", "live", "[Z", true)
  | 12 => ("VersionedRowsModel", "fields", "[I", true)
  | 13 => ("VersionedRowsModel", "file", "[I", true)
  | 14 => ("VersionedRowsModel", "files", "I", false)
  | 15 => ("VersionedRowsModel", "number", "[I", true)
  | 16 => ("VersionedRowsModel", "level", "[I", true)
  | 17 => ("VersionedRowsModel", "made", "I", false)
  | 18 => ("VersionedRowsModel", "last", "I", false)
  | 19 => ("VersionedRowsModel", "transactions", "I", false)
  | 20 => ("VersionedRowsModel", "state", "[I", true)
  | 21 => ("VersionedRowsModel", "began", "[I", true)
  | 22 => ("VersionedRowsModel", "writes", "[I", true)
  | 23 => ("VersionedRowsModel", "rows", "[I", true)
  | 24 => ("VersionedRowsModel", "row", "[I", true)
  | 25 => ("VersionedRowsModel", "numbers", "[I", true)
  | 26 => ("VersionedRowsModel", "results", "[I", true)
  | 27 => ("VersionedRowsModel", "found", "I", false)
  | 28 => ("VersionedRowsModel", "used", "I", false)
  | 29 => ("VersionedRowsModel", "candidates", "I", false)
  | 30 => ("VersionedRowsModel", "low", "J", false)
  | 31 => ("VersionedRowsModel", "high", "J", false)
  | 32 => ("VersionedRowsModel", "says", "Z", false)
  | 33 => ("VersionedRowsModel", "least", "J", false)
  | 34 => ("VersionedRowsModel", "greatest", "J", false)
  | 35 => ("VersionedRowsModel", "order", "[I", true)
  | 36 => ("VersionedRowsModel", "sorted", "I", false)
  | _ => ("VersionedRowsModel", "taken", "[Z", true)
def tyX9 : Nat → FieldType := fun k => match k with
  | 0 => .int
  | 1 => .int
  | 2 => .array .int
  | 3 => .array .int
  | 4 => .array .int
  | 5 => .array .boolean
  | 6 => .int
  | 7 => .array .int
  | 8 => .array .int
  | 9 => .array .int
  | 10 => .array .int
  | 11 => .array .boolean
  | 12 => .array .int
  | 13 => .array .int
  | 14 => .int
  | 15 => .array .int
  | 16 => .array .int
  | 17 => .int
  | 18 => .int
  | 19 => .int
  | 20 => .array .int
  | 21 => .array .int
  | 22 => .array .int
  | 23 => .array .int
  | 24 => .array .int
  | 25 => .array .int
  | 26 => .array .int
  | 27 => .int
  | 28 => .int
  | 29 => .int
  | 30 => .long
  | 31 => .long
  | 32 => .boolean
  | 33 => .long
  | 34 => .long
  | 35 => .array .int
  | 36 => .int
  | _ => .array .boolean
abbrev wsX90 : List Cond := u_ws RX9 TX9 38
theorem nmX9 : ∀ a, a < 38 → ∀ b, b < 38 → a ≠ b → (TX9 a).2.1 ≠ (TX9 b).2.1 := by decide +kernel
theorem tyX9_ok : ∀ k, k < 38 → parseFieldDescriptor (TX9 k).2.2.1 = some (tyX9 k) := by decide +kernel
abbrev cX9_init : ByteArray := prog_11_method_1_code
def yX9_init : MethodName := ⟨RX9, "<init>", "()V"⟩
abbrev cX9_isKey : ByteArray := prog_11_method_2_code
def yX9_isKey : MethodName := ⟨RX9, "isKey", "(I)Z"⟩
abbrev cX9_isName : ByteArray := prog_11_method_3_code
def yX9_isName : MethodName := ⟨RX9, "isName", "(I)Z"⟩
abbrev cX9_needs : ByteArray := prog_11_method_4_code
def yX9_needs : MethodName := ⟨RX9, "needs", "(I)I"⟩
abbrev cX9_say : ByteArray := prog_11_method_5_code
def yX9_say : MethodName := ⟨RX9, "say", "(II)Z"⟩
abbrev cX9_starts : ByteArray := prog_11_method_6_code
def yX9_starts : MethodName := ⟨RX9, "starts", "(II)Z"⟩
abbrev cX9_two : ByteArray := prog_11_method_7_code
def yX9_two : MethodName := ⟨RX9, "two", "(III)I"⟩
abbrev cX9_value : ByteArray := prog_11_method_8_code
def yX9_value : MethodName := ⟨RX9, "value", "(I)I"⟩
abbrev cX9_index : ByteArray := prog_11_method_9_code
def yX9_index : MethodName := ⟨RX9, "index", "()I"⟩
abbrev cX9_seen : ByteArray := prog_11_method_10_code
def yX9_seen : MethodName := ⟨RX9, "seen", "(IIII)I"⟩
abbrev cX9_rowAt : ByteArray := prog_11_method_11_code
def yX9_rowAt : MethodName := ⟨RX9, "rowAt", "(II)Z"⟩
abbrev cX9_rowFor : ByteArray := prog_11_method_12_code
def yX9_rowFor : MethodName := ⟨RX9, "rowFor", "(II)Z"⟩
abbrev cX9_open : ByteArray := prog_11_method_13_code
def yX9_open : MethodName := ⟨RX9, "open", "(I)Z"⟩
abbrev cX9_opens : ByteArray := prog_11_method_14_code
def yX9_opens : MethodName := ⟨RX9, "opens", "()I"⟩
abbrev cX9_horizon : ByteArray := prog_11_method_15_code
def yX9_horizon : MethodName := ⟨RX9, "horizon", "()I"⟩
abbrev cX9_inFile : ByteArray := prog_11_method_16_code
def yX9_inFile : MethodName := ⟨RX9, "inFile", "(I)I"⟩
abbrev cX9_begin : ByteArray := prog_11_method_17_code
def yX9_begin : MethodName := ⟨RX9, "begin", "()I"⟩
abbrev cX9_read : ByteArray := prog_11_method_18_code
def yX9_read : MethodName := ⟨RX9, "read", "(III)I"⟩
abbrev cX9_write : ByteArray := prog_11_method_19_code
def yX9_write : MethodName := ⟨RX9, "write", "(IIIII)Z"⟩
abbrev cX9_remove : ByteArray := prog_11_method_20_code
def yX9_remove : MethodName := ⟨RX9, "remove", "(II)Z"⟩
abbrev cX9_beaten : ByteArray := prog_11_method_21_code
def yX9_beaten : MethodName := ⟨RX9, "beaten", "(I)Z"⟩
abbrev cX9_reads : ByteArray := prog_11_method_22_code
def yX9_reads : MethodName := ⟨RX9, "reads", "(I)Z"⟩
abbrev cX9_entry : ByteArray := prog_11_method_23_code
def yX9_entry : MethodName := ⟨RX9, "entry", "(IIIZ)V"⟩
abbrev cX9_batch : ByteArray := prog_11_method_24_code
def yX9_batch : MethodName := ⟨RX9, "batch", "(IZ)I"⟩
abbrev cX9_comes : ByteArray := prog_11_method_25_code
def yX9_comes : MethodName := ⟨RX9, "comes", "(I)V"⟩
abbrev cX9_commit : ByteArray := prog_11_method_26_code
def yX9_commit : MethodName := ⟨RX9, "commit", "(I)I"⟩
abbrev cX9_tear : ByteArray := prog_11_method_27_code
def yX9_tear : MethodName := ⟨RX9, "tear", "(II)I"⟩
abbrev cX9_abort : ByteArray := prog_11_method_28_code
def yX9_abort : MethodName := ⟨RX9, "abort", "(I)Z"⟩
abbrev cX9_crash : ByteArray := prog_11_method_29_code
def yX9_crash : MethodName := ⟨RX9, "crash", "()I"⟩
abbrev cX9_addFile : ByteArray := prog_11_method_30_code
def yX9_addFile : MethodName := ⟨RX9, "addFile", "(I)V"⟩
abbrev cX9_dropFile : ByteArray := prog_11_method_31_code
def yX9_dropFile : MethodName := ⟨RX9, "dropFile", "(I)V"⟩
abbrev cX9_flush : ByteArray := prog_11_method_32_code
def yX9_flush : MethodName := ⟨RX9, "flush", "()I"⟩
abbrev cX9_files : ByteArray := prog_11_method_33_code
def yX9_files : MethodName := ⟨RX9, "files", "(I)I"⟩
abbrev cX9_settle : ByteArray := prog_11_method_34_code
def yX9_settle : MethodName := ⟨RX9, "settle", "()V"⟩
abbrev cX9_compact : ByteArray := prog_11_method_35_code
def yX9_compact : MethodName := ⟨RX9, "compact", "()I"⟩
abbrev cX9_places : ByteArray := prog_11_method_36_code
def yX9_places : MethodName := ⟨RX9, "places", "(II)I"⟩
abbrev cX9_before : ByteArray := prog_11_method_37_code
def yX9_before : MethodName := ⟨RX9, "before", "(II)Z"⟩
abbrev cX9_end : ByteArray := prog_11_method_38_code
def yX9_end : MethodName := ⟨RX9, "end", "(IZ)I"⟩
abbrev cX9_meet : ByteArray := prog_11_method_39_code
def yX9_meet : MethodName := ⟨RX9, "meet", "(II)Z"⟩
abbrev cX9_sort : ByteArray := prog_11_method_40_code
def yX9_sort : MethodName := ⟨RX9, "sort", "()V"⟩
abbrev cX9_compacts : ByteArray := prog_11_method_41_code
def yX9_compacts : MethodName := ⟨RX9, "compacts", "(I)I"⟩
abbrev cX9_merge : ByteArray := prog_11_method_42_code
def yX9_merge : MethodName := ⟨RX9, "merge", "(I)I"⟩
abbrev cX9_clean : ByteArray := prog_11_method_43_code
def yX9_clean : MethodName := ⟨RX9, "clean", "()V"⟩
abbrev cX9_from : ByteArray := prog_11_method_44_code
def yX9_from : MethodName := ⟨RX9, "from", "(II)I"⟩
abbrev cX9_same : ByteArray := prog_11_method_45_code
def yX9_same : MethodName := ⟨RX9, "same", "(IIII)Z"⟩
abbrev cX9_bound : ByteArray := prog_11_method_46_code
def yX9_bound : MethodName := ⟨RX9, "bound", "(JJ)V"⟩
abbrev cX9_conjunct : ByteArray := prog_11_method_47_code
def yX9_conjunct : MethodName := ⟨RX9, "conjunct", "(III)V"⟩
abbrev cX9_conjuncts : ByteArray := prog_11_method_48_code
def yX9_conjuncts : MethodName := ⟨RX9, "conjuncts", "(II)V"⟩
abbrev cX9_query : ByteArray := prog_11_method_49_code
def yX9_query : MethodName := ⟨RX9, "query", "(I)I"⟩
abbrev cX9_result : ByteArray := prog_11_method_50_code
def yX9_result : MethodName := ⟨RX9, "result", "(I)I"⟩
abbrev cX9_plan : ByteArray := prog_11_method_51_code
def yX9_plan : MethodName := ⟨RX9, "plan", "(I)J"⟩
abbrev cX9_state : ByteArray := prog_11_method_52_code
def yX9_state : MethodName := ⟨RX9, "state", "(I)I"⟩
abbrev cX9_about : ByteArray := prog_11_method_53_code
def yX9_about : MethodName := ⟨RX9, "about", "(I)I"⟩
abbrev cX9_file : ByteArray := prog_11_method_54_code
def yX9_file : MethodName := ⟨RX9, "file", "(III)I"⟩
abbrev cX9_aboutFile : ByteArray := prog_11_method_55_code
def yX9_aboutFile : MethodName := ⟨RX9, "aboutFile", "(II)I"⟩
def RJx145de : String := "java/io/Serializable"
def TJx145de : u_T := fun k => match k with
  | _ => ("", "", "", false)
def tyJx145de : Nat → FieldType := fun k => match k with
  | _ => .int
abbrev wsJx145de0 : List Cond := u_ws RJx145de TJx145de 0
theorem nmJx145de : ∀ a, a < 0 → ∀ b, b < 0 → a ≠ b → (TJx145de a).2.1 ≠ (TJx145de b).2.1 := by decide +kernel
theorem tyJx145de_ok : ∀ k, k < 0 → parseFieldDescriptor (TJx145de k).2.2.1 = some (tyJx145de k) := by decide +kernel
def RJx8e188 : String := "java/lang/Cloneable"
def TJx8e188 : u_T := fun k => match k with
  | _ => ("", "", "", false)
def tyJx8e188 : Nat → FieldType := fun k => match k with
  | _ => .int
abbrev wsJx8e1880 : List Cond := u_ws RJx8e188 TJx8e188 0
theorem nmJx8e188 : ∀ a, a < 0 → ∀ b, b < 0 → a ≠ b → (TJx8e188 a).2.1 ≠ (TJx8e188 b).2.1 := by decide +kernel
theorem tyJx8e188_ok : ∀ k, k < 0 → parseFieldDescriptor (TJx8e188 k).2.2.1 = some (tyJx8e188 k) := by decide +kernel
def RJxab1ab : String := "java/lang/Iterable"
def TJxab1ab : u_T := fun k => match k with
  | _ => ("", "", "", false)
def tyJxab1ab : Nat → FieldType := fun k => match k with
  | _ => .int
abbrev wsJxab1ab0 : List Cond := u_ws RJxab1ab TJxab1ab 0
theorem nmJxab1ab : ∀ a, a < 0 → ∀ b, b < 0 → a ≠ b → (TJxab1ab a).2.1 ≠ (TJxab1ab b).2.1 := by decide +kernel
theorem tyJxab1ab_ok : ∀ k, k < 0 → parseFieldDescriptor (TJxab1ab k).2.2.1 = some (tyJxab1ab k) := by decide +kernel
def RJ9 : String := "java/lang/Math"
def TJ9 : u_T := fun k => match k with
  | _ => ("", "", "", false)
def tyJ9 : Nat → FieldType := fun k => match k with
  | _ => .int
abbrev wsJ90 : List Cond := u_ws RJ9 TJ9 0
theorem nmJ9 : ∀ a, a < 0 → ∀ b, b < 0 → a ≠ b → (TJ9 a).2.1 ≠ (TJ9 b).2.1 := by decide +kernel
theorem tyJ9_ok : ∀ k, k < 0 → parseFieldDescriptor (TJ9 k).2.2.1 = some (tyJ9 k) := by decide +kernel
abbrev cJ9_max_7cf53 : ByteArray := prog_15_method_65_code
def yJ9_max_7cf53 : MethodName := ⟨RJ9, "max", "(II)I"⟩
abbrev cJ9_max_f86c9 : ByteArray := prog_15_method_66_code
def yJ9_max_f86c9 : MethodName := ⟨RJ9, "max", "(JJ)J"⟩
abbrev cJ9_min_7cf53 : ByteArray := prog_15_method_69_code
def yJ9_min_7cf53 : MethodName := ⟨RJ9, "min", "(II)I"⟩
abbrev cJ9_min_f86c9 : ByteArray := prog_15_method_70_code
def yJ9_min_f86c9 : MethodName := ⟨RJ9, "min", "(JJ)J"⟩
def RJ10 : String := "java/lang/System"
def TJ10 : u_T := fun k => match k with
  | _ => ("", "", "", false)
def tyJ10 : Nat → FieldType := fun k => match k with
  | _ => .int
abbrev wsJ100 : List Cond := u_ws RJ10 TJ10 0
theorem nmJ10 : ∀ a, a < 0 → ∀ b, b < 0 → a ≠ b → (TJ10 a).2.1 ≠ (TJ10 b).2.1 := by decide +kernel
theorem tyJ10_ok : ∀ k, k < 0 → parseFieldDescriptor (TJ10 k).2.2.1 = some (tyJ10 k) := by decide +kernel
def RJxa1e45 : String := "java/util/AbstractCollection"
def TJxa1e45 : u_T := fun k => match k with
  | _ => ("", "", "", false)
def tyJxa1e45 : Nat → FieldType := fun k => match k with
  | _ => .int
abbrev wsJxa1e450 : List Cond := u_ws RJxa1e45 TJxa1e45 0
theorem nmJxa1e45 : ∀ a, a < 0 → ∀ b, b < 0 → a ≠ b → (TJxa1e45 a).2.1 ≠ (TJxa1e45 b).2.1 := by decide +kernel
theorem tyJxa1e45_ok : ∀ k, k < 0 → parseFieldDescriptor (TJxa1e45 k).2.2.1 = some (tyJxa1e45 k) := by decide +kernel
abbrev cJxa1e45_init_da8c8 : ByteArray := prog_17_method_1_code
def yJxa1e45_init_da8c8 : MethodName := ⟨RJxa1e45, "<init>", "()V"⟩
def RJxc12de : String := "java/util/AbstractList"
def TJxc12de : u_T := fun k => match k with
  | _ => ("", "", "", false)
def tyJxc12de : Nat → FieldType := fun k => match k with
  | _ => .int
abbrev wsJxc12de0 : List Cond := u_ws RJxc12de TJxc12de 0
theorem nmJxc12de : ∀ a, a < 0 → ∀ b, b < 0 → a ≠ b → (TJxc12de a).2.1 ≠ (TJxc12de b).2.1 := by decide +kernel
theorem tyJxc12de_ok : ∀ k, k < 0 → parseFieldDescriptor (TJxc12de k).2.2.1 = some (tyJxc12de k) := by decide +kernel
abbrev cJxc12de_init_da8c8 : ByteArray := prog_18_method_1_code
def yJxc12de_init_da8c8 : MethodName := ⟨RJxc12de, "<init>", "()V"⟩
def RJx4a65c : String := "java/util/ArrayList"
def TJx4a65c : u_T := fun k => match k with
  | 0 => ("java/util/AbstractList", "modCount", "I", false)
  | 1 => ("java/util/ArrayList", "elementData", "[Ljava/lang/Object;", false)
  | _ => ("java/util/ArrayList", "size", "I", false)
def tyJx4a65c : Nat → FieldType := fun k => match k with
  | 0 => .int
  | 1 => .array (.object "java/lang/Object")
  | _ => .int
abbrev wsJx4a65c0 : List Cond := u_ws RJx4a65c TJx4a65c 3
theorem nmJx4a65c : ∀ a, a < 3 → ∀ b, b < 3 → a ≠ b → (TJx4a65c a).2.1 ≠ (TJx4a65c b).2.1 := by decide +kernel
theorem tyJx4a65c_ok : ∀ k, k < 3 → parseFieldDescriptor (TJx4a65c k).2.2.1 = some (tyJx4a65c k) := by decide +kernel
abbrev cJx4a65c_init_da8c8 : ByteArray := prog_19_method_2_code
def yJx4a65c_init_da8c8 : MethodName := ⟨RJx4a65c, "<init>", "()V"⟩
abbrev cJx4a65c_grow_92f84 : ByteArray := prog_19_method_6_code
def yJx4a65c_grow_92f84 : MethodName := ⟨RJx4a65c, "grow", "(I)[Ljava/lang/Object;"⟩
abbrev cJx4a65c_grow_d5877 : ByteArray := prog_19_method_7_code
def yJx4a65c_grow_d5877 : MethodName := ⟨RJx4a65c, "grow", "()[Ljava/lang/Object;"⟩
abbrev cJx4a65c_size_8abf5 : ByteArray := prog_19_method_8_code
def yJx4a65c_size_8abf5 : MethodName := ⟨RJx4a65c, "size", "()I"⟩
abbrev cJx4a65c_elementData_915e3 : ByteArray := prog_19_method_18_code
def yJx4a65c_elementData_915e3 : MethodName := ⟨RJx4a65c, "elementData", "(I)Ljava/lang/Object;"⟩
abbrev cJx4a65c_get_915e3 : ByteArray := prog_19_method_20_code
def yJx4a65c_get_915e3 : MethodName := ⟨RJx4a65c, "get", "(I)Ljava/lang/Object;"⟩
abbrev cJx4a65c_add_72be8 : ByteArray := prog_19_method_24_code
def yJx4a65c_add_72be8 : MethodName := ⟨RJx4a65c, "add", "(Ljava/lang/Object;[Ljava/lang/Object;I)V"⟩
abbrev cJx4a65c_add_9ea2d : ByteArray := prog_19_method_25_code
def yJx4a65c_add_9ea2d : MethodName := ⟨RJx4a65c, "add", "(Ljava/lang/Object;)Z"⟩
abbrev cJx4a65c_remove_915e3 : ByteArray := prog_19_method_29_code
def yJx4a65c_remove_915e3 : MethodName := ⟨RJx4a65c, "remove", "(I)Ljava/lang/Object;"⟩
abbrev cJx4a65c_fastRemove_b59b0 : ByteArray := prog_19_method_39_code
def yJx4a65c_fastRemove_b59b0 : MethodName := ⟨RJx4a65c, "fastRemove", "([Ljava/lang/Object;I)V"⟩
def RJ7 : String := "java/util/Arrays"
def TJ7 : u_T := fun k => match k with
  | _ => ("", "", "", false)
def tyJ7 : Nat → FieldType := fun k => match k with
  | _ => .int
abbrev wsJ70 : List Cond := u_ws RJ7 TJ7 0
theorem nmJ7 : ∀ a, a < 0 → ∀ b, b < 0 → a ≠ b → (TJ7 a).2.1 ≠ (TJ7 b).2.1 := by decide +kernel
theorem tyJ7_ok : ∀ k, k < 0 → parseFieldDescriptor (TJ7 k).2.2.1 = some (tyJ7 k) := by decide +kernel
abbrev cJ7_copyOf_1904c : ByteArray := prog_20_method_119_code
def yJ7_copyOf_1904c : MethodName := ⟨RJ7, "copyOf", "([Ljava/lang/Object;I)[Ljava/lang/Object;"⟩
abbrev cJ7_copyOf_6403c : ByteArray := prog_20_method_120_code
def yJ7_copyOf_6403c : MethodName := ⟨RJ7, "copyOf", "([Ljava/lang/Object;ILjava/lang/Class;)[Ljava/lang/Object;"⟩
def RJx5ef63 : String := "java/util/Collection"
def TJx5ef63 : u_T := fun k => match k with
  | _ => ("", "", "", false)
def tyJx5ef63 : Nat → FieldType := fun k => match k with
  | _ => .int
abbrev wsJx5ef630 : List Cond := u_ws RJx5ef63 TJx5ef63 0
theorem nmJx5ef63 : ∀ a, a < 0 → ∀ b, b < 0 → a ≠ b → (TJx5ef63 a).2.1 ≠ (TJx5ef63 b).2.1 := by decide +kernel
theorem tyJx5ef63_ok : ∀ k, k < 0 → parseFieldDescriptor (TJx5ef63 k).2.2.1 = some (tyJx5ef63 k) := by decide +kernel
def RJxbd725 : String := "java/util/List"
def TJxbd725 : u_T := fun k => match k with
  | _ => ("", "", "", false)
def tyJxbd725 : Nat → FieldType := fun k => match k with
  | _ => .int
abbrev wsJxbd7250 : List Cond := u_ws RJxbd725 TJxbd725 0
theorem nmJxbd725 : ∀ a, a < 0 → ∀ b, b < 0 → a ≠ b → (TJxbd725 a).2.1 ≠ (TJxbd725 b).2.1 := by decide +kernel
theorem tyJxbd725_ok : ∀ k, k < 0 → parseFieldDescriptor (TJxbd725 k).2.2.1 = some (tyJxbd725 k) := by decide +kernel
def RJ15 : String := "java/util/Objects"
def TJ15 : u_T := fun k => match k with
  | _ => ("", "", "", false)
def tyJ15 : Nat → FieldType := fun k => match k with
  | _ => .int
abbrev wsJ150 : List Cond := u_ws RJ15 TJ15 0
theorem nmJ15 : ∀ a, a < 0 → ∀ b, b < 0 → a ≠ b → (TJ15 a).2.1 ≠ (TJ15 b).2.1 := by decide +kernel
theorem tyJ15_ok : ∀ k, k < 0 → parseFieldDescriptor (TJ15 k).2.2.1 = some (tyJ15 k) := by decide +kernel
abbrev cJ15_checkIndex_7cf53 : ByteArray := prog_23_method_17_code
def yJ15_checkIndex_7cf53 : MethodName := ⟨RJ15, "checkIndex", "(II)I"⟩
def RJxf0a74 : String := "java/util/RandomAccess"
def TJxf0a74 : u_T := fun k => match k with
  | _ => ("", "", "", false)
def tyJxf0a74 : Nat → FieldType := fun k => match k with
  | _ => .int
abbrev wsJxf0a740 : List Cond := u_ws RJxf0a74 TJxf0a74 0
theorem nmJxf0a74 : ∀ a, a < 0 → ∀ b, b < 0 → a ≠ b → (TJxf0a74 a).2.1 ≠ (TJxf0a74 b).2.1 := by decide +kernel
theorem tyJxf0a74_ok : ∀ k, k < 0 → parseFieldDescriptor (TJxf0a74 k).2.2.1 = some (tyJxf0a74 k) := by decide +kernel
def RJxa66e6 : String := "java/util/SequencedCollection"
def TJxa66e6 : u_T := fun k => match k with
  | _ => ("", "", "", false)
def tyJxa66e6 : Nat → FieldType := fun k => match k with
  | _ => .int
abbrev wsJxa66e60 : List Cond := u_ws RJxa66e6 TJxa66e6 0
theorem nmJxa66e6 : ∀ a, a < 0 → ∀ b, b < 0 → a ≠ b → (TJxa66e6 a).2.1 ≠ (TJxa66e6 b).2.1 := by decide +kernel
theorem tyJxa66e6_ok : ∀ k, k < 0 → parseFieldDescriptor (TJxa66e6 k).2.2.1 = some (tyJxa66e6 k) := by decide +kernel
def RJ8 : String := "jdk/internal/util/ArraysSupport"
def TJ8 : u_T := fun k => match k with
  | _ => ("", "", "", false)
def tyJ8 : Nat → FieldType := fun k => match k with
  | _ => .int
abbrev wsJ80 : List Cond := u_ws RJ8 TJ8 0
theorem nmJ8 : ∀ a, a < 0 → ∀ b, b < 0 → a ≠ b → (TJ8 a).2.1 ≠ (TJ8 b).2.1 := by decide +kernel
theorem tyJ8_ok : ∀ k, k < 0 → parseFieldDescriptor (TJ8 k).2.2.1 = some (tyJ8 k) := by decide +kernel
abbrev cJ8_newLength_cabcc : ByteArray := prog_26_method_27_code
def yJ8_newLength_cabcc : MethodName := ⟨RJ8, "newLength", "(III)I"⟩
abbrev cJ8_hugeLength_7cf53 : ByteArray := prog_26_method_28_code
def yJ8_hugeLength_7cf53 : MethodName := ⟨RJ8, "hugeLength", "(II)I"⟩
def RJ3 : String := "jdk/internal/util/Preconditions"
def TJ3 : u_T := fun k => match k with
  | _ => ("", "", "", false)
def tyJ3 : Nat → FieldType := fun k => match k with
  | _ => .int
abbrev wsJ30 : List Cond := u_ws RJ3 TJ3 0
theorem nmJ3 : ∀ a, a < 0 → ∀ b, b < 0 → a ≠ b → (TJ3 a).2.1 ≠ (TJ3 b).2.1 := by decide +kernel
theorem tyJ3_ok : ∀ k, k < 0 → parseFieldDescriptor (TJ3 k).2.2.1 = some (tyJ3 k) := by decide +kernel
abbrev cJ3_checkIndex_8e157 : ByteArray := prog_27_method_11_code
def yJ3_checkIndex_8e157 : MethodName := ⟨RJ3, "checkIndex", "(IILjava/util/function/BiFunction;)I"⟩
def RL : String := "VersionedRowsLaw"
abbrev cL_law : ByteArray := code
def yL_law : MethodName := ⟨RL, "law", "([I)Z"⟩
