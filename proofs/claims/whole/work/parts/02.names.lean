/-! ===== BEGIN words of one list among another's, by their places ===== -/
theorem goodIn_r {big : List Cond} (ws : List Cond) (ps : List Nat) (hp : ws = ps.filterMap (fun i => big[i]?)) (h : ws.all goodWord = true) : GoodIn big ws := by
  intro w hw
  have h1 := List.all_eq_true.mp h w hw
  rw [hp] at hw
  obtain ⟨i, -, hi⟩ := List.mem_filterMap.mp hw
  have hm : w ∈ big := by first | exact List.mem_of_getElem? hi | exact List.getElem?_mem hi
  exact ⟨hm, good_of_word h1⟩
theorem goodIn_app {big a b : List Cond} (ha : GoodIn big a) (hb : GoodIn big b) : GoodIn big (a ++ b) := fun w h => (List.mem_append.mp h).elim (ha w) (hb w)
theorem goodIn_ca {big a b : List Cond} {c : Cond} (ha : GoodIn big (c :: a)) (hb : GoodIn big b) : GoodIn big (c :: (a ++ b)) := fun w h => (List.mem_cons.mp h).elim (fun e => ha w (List.mem_cons.mpr (Or.inl e))) (fun h => (List.mem_append.mp h).elim (fun h => ha w (List.mem_cons.mpr (Or.inr h))) (hb w))
theorem goodIn_sub {big ws : List Cond} (hm : ∀ w ∈ ws, w ∈ big) (h : ws.all goodWord = true) : GoodIn big ws := fun w hw => ⟨hm w hw, good_of_word (List.all_eq_true.mp h w hw)⟩
/-! ===== END ===== -/

/-! ===== BEGIN printed: names, fields, word lists, decode rows ===== -/
def RX0 : String := "MirrorLog$GroupForm"
def TX0 : u_T := fun k => match k with
  | _ => ("", "", "", false)
def tyX0 : Nat → FieldType := fun k => match k with
  | _ => .int
abbrev wsX00 : List Cond := u_ws RX0 TX0 0
theorem nmX0 : ∀ a, a < 0 → ∀ b, b < 0 → a ≠ b → (TX0 a).2.1 ≠ (TX0 b).2.1 := by decide +kernel
theorem tyX0_ok : ∀ k, k < 0 → parseFieldDescriptor (TX0 k).2.2.1 = some (tyX0 k) := by decide +kernel
abbrev cX0_write : ByteArray := prog_2_method_2_code
def yX0_write : MethodName := ⟨RX0, "write", "(LMirrorLog$LogFile;LMirrorLog$RowTable;I)V"⟩
abbrev cX0_writeRow : ByteArray := prog_2_method_3_code
def yX0_writeRow : MethodName := ⟨RX0, "writeRow", "(LMirrorLog$LogFile;LMirrorLog$RowTable;I)I"⟩
abbrev cX0_endOfGood : ByteArray := prog_2_method_4_code
def yX0_endOfGood : MethodName := ⟨RX0, "endOfGood", "(LMirrorLog$LogFile;ILMirrorLog$RowTable;)I"⟩
abbrev cX0_isRowGood : ByteArray := prog_2_method_5_code
def yX0_isRowGood : MethodName := ⟨RX0, "isRowGood", "(LMirrorLog$LogFile;III)Z"⟩
abbrev cX0_isEndGood : ByteArray := prog_2_method_6_code
def yX0_isEndGood : MethodName := ⟨RX0, "isEndGood", "(LMirrorLog$LogFile;II)Z"⟩
abbrev cX0_read : ByteArray := prog_2_method_7_code
def yX0_read : MethodName := ⟨RX0, "read", "(LMirrorLog$LogFile;IILMirrorLog$RowTable;)V"⟩
def RX1 : String := "MirrorLog$LogFile"
def TX1 : u_T := fun k => match k with
  | 0 => ("MirrorLog$LogFile", "bytes", "[B", true)
  | _ => ("MirrorLog$LogFile", "size", "I", false)
def tyX1 : Nat → FieldType := fun k => match k with
  | 0 => .array .byte
  | _ => .int
abbrev wsX10 : List Cond := u_ws RX1 TX1 2
theorem nmX1 : ∀ a, a < 2 → ∀ b, b < 2 → a ≠ b → (TX1 a).2.1 ≠ (TX1 b).2.1 := by decide +kernel
theorem tyX1_ok : ∀ k, k < 2 → parseFieldDescriptor (TX1 k).2.2.1 = some (tyX1 k) := by decide +kernel
abbrev cX1_init : ByteArray := prog_3_method_1_code
def yX1_init : MethodName := ⟨RX1, "<init>", "()V"⟩
abbrev cX1_size : ByteArray := prog_3_method_2_code
def yX1_size : MethodName := ⟨RX1, "size", "()I"⟩
abbrev cX1_hasRoomFor : ByteArray := prog_3_method_3_code
def yX1_hasRoomFor : MethodName := ⟨RX1, "hasRoomFor", "(I)Z"⟩
abbrev cX1_get : ByteArray := prog_3_method_4_code
def yX1_get : MethodName := ⟨RX1, "get", "(I)I"⟩
abbrev cX1_add : ByteArray := prog_3_method_5_code
def yX1_add : MethodName := ⟨RX1, "add", "(I)V"⟩
abbrev cX1_addNumber : ByteArray := prog_3_method_6_code
def yX1_addNumber : MethodName := ⟨RX1, "addNumber", "(II)V"⟩
abbrev cX1_number : ByteArray := prog_3_method_7_code
def yX1_number : MethodName := ⟨RX1, "number", "(II)I"⟩
abbrev cX1_sumOf : ByteArray := prog_3_method_8_code
def yX1_sumOf : MethodName := ⟨RX1, "sumOf", "(III)I"⟩
abbrev cX1_alter : ByteArray := prog_3_method_9_code
def yX1_alter : MethodName := ⟨RX1, "alter", "(II)V"⟩
abbrev cX1_cutTo : ByteArray := prog_3_method_10_code
def yX1_cutTo : MethodName := ⟨RX1, "cutTo", "(I)V"⟩
abbrev cX1_dropFirst : ByteArray := prog_3_method_11_code
def yX1_dropFirst : MethodName := ⟨RX1, "dropFirst", "(I)V"⟩
abbrev cX1_agrees : ByteArray := prog_3_method_12_code
def yX1_agrees : MethodName := ⟨RX1, "agrees", "(LMirrorLog$LogFile;II)Z"⟩
abbrev cX1_copyFrom : ByteArray := prog_3_method_13_code
def yX1_copyFrom : MethodName := ⟨RX1, "copyFrom", "(LMirrorLog$LogFile;II)V"⟩
def RX2 : String := "MirrorLog$RowTable"
def TX2 : u_T := fun k => match k with
  | 0 => ("MirrorLog$RowTable", "seconds", "[I", true)
  | 1 => ("MirrorLog$RowTable", "lengths", "[I", true)
  | 2 => ("MirrorLog$RowTable", "groupEnds", "[Z", true)
  | 3 => ("MirrorLog$RowTable", "contents", "[B", true)
  | _ => ("MirrorLog$RowTable", "count", "I", false)
def tyX2 : Nat → FieldType := fun k => match k with
  | 0 => .array .int
  | 1 => .array .int
  | 2 => .array .boolean
  | 3 => .array .byte
  | _ => .int
abbrev wsX20 : List Cond := u_ws RX2 TX2 5
theorem nmX2 : ∀ a, a < 5 → ∀ b, b < 5 → a ≠ b → (TX2 a).2.1 ≠ (TX2 b).2.1 := by decide +kernel
theorem tyX2_ok : ∀ k, k < 5 → parseFieldDescriptor (TX2 k).2.2.1 = some (tyX2 k) := by decide +kernel
abbrev cX2_init : ByteArray := prog_4_method_1_code
def yX2_init : MethodName := ⟨RX2, "<init>", "()V"⟩
abbrev cX2_count : ByteArray := prog_4_method_2_code
def yX2_count : MethodName := ⟨RX2, "count", "()I"⟩
abbrev cX2_cutTo : ByteArray := prog_4_method_3_code
def yX2_cutTo : MethodName := ⟨RX2, "cutTo", "(I)V"⟩
abbrev cX2_begin : ByteArray := prog_4_method_4_code
def yX2_begin : MethodName := ⟨RX2, "begin", "(I)V"⟩
abbrev cX2_push : ByteArray := prog_4_method_5_code
def yX2_push : MethodName := ⟨RX2, "push", "(I)V"⟩
abbrev cX2_endGroupHere : ByteArray := prog_4_method_6_code
def yX2_endGroupHere : MethodName := ⟨RX2, "endGroupHere", "()V"⟩
abbrev cX2_has : ByteArray := prog_4_method_7_code
def yX2_has : MethodName := ⟨RX2, "has", "(I)Z"⟩
abbrev cX2_endsGroup : ByteArray := prog_4_method_8_code
def yX2_endsGroup : MethodName := ⟨RX2, "endsGroup", "(I)Z"⟩
abbrev cX2_secondOf : ByteArray := prog_4_method_9_code
def yX2_secondOf : MethodName := ⟨RX2, "secondOf", "(I)I"⟩
abbrev cX2_lastSecond : ByteArray := prog_4_method_10_code
def yX2_lastSecond : MethodName := ⟨RX2, "lastSecond", "()I"⟩
abbrev cX2_monthOf : ByteArray := prog_4_method_11_code
def yX2_monthOf : MethodName := ⟨RX2, "monthOf", "(I)I"⟩
abbrev cX2_lengthOf : ByteArray := prog_4_method_12_code
def yX2_lengthOf : MethodName := ⟨RX2, "lengthOf", "(I)I"⟩
abbrev cX2_contentAt : ByteArray := prog_4_method_13_code
def yX2_contentAt : MethodName := ⟨RX2, "contentAt", "(II)I"⟩
abbrev cX2_bytesInFile : ByteArray := prog_4_method_14_code
def yX2_bytesInFile : MethodName := ⟨RX2, "bytesInFile", "(II)I"⟩
def RX3 : String := "MirrorLog"
def TX3 : u_T := fun k => match k with
  | 0 => ("MirrorLog", "file0", "LMirrorLog$LogFile;", true)
  | 1 => ("MirrorLog", "file1", "LMirrorLog$LogFile;", true)
  | 2 => ("MirrorLog", "table", "LMirrorLog$RowTable;", true)
  | 3 => ("MirrorLog", "fed", "[B", true)
  | 4 => ("MirrorLog", "fedCount", "I", false)
  | 5 => ("MirrorLog", "moved", "I", false)
  | 6 => ("MirrorLog", "known", "I", false)
  | 7 => ("MirrorLog", "shut", "Z", false)
  | 8 => ("MirrorLog", "repairedGroups", "I", false)
  | _ => ("MirrorLog", "badPlace", "I", false)
def tyX3 : Nat → FieldType := fun k => match k with
  | 0 => .object "MirrorLog$LogFile"
  | 1 => .object "MirrorLog$LogFile"
  | 2 => .object "MirrorLog$RowTable"
  | 3 => .array .byte
  | 4 => .int
  | 5 => .int
  | 6 => .int
  | 7 => .boolean
  | 8 => .int
  | _ => .int
abbrev wsX30 : List Cond := u_ws RX3 TX3 10
theorem nmX3 : ∀ a, a < 10 → ∀ b, b < 10 → a ≠ b → (TX3 a).2.1 ≠ (TX3 b).2.1 := by decide +kernel
theorem tyX3_ok : ∀ k, k < 10 → parseFieldDescriptor (TX3 k).2.2.1 = some (tyX3 k) := by decide +kernel
abbrev cX3_init : ByteArray := prog_1_method_1_code
def yX3_init : MethodName := ⟨RX3, "<init>", "()V"⟩
abbrev cX3_feed : ByteArray := prog_1_method_2_code
def yX3_feed : MethodName := ⟨RX3, "feed", "(I)Z"⟩
abbrev cX3_row : ByteArray := prog_1_method_3_code
def yX3_row : MethodName := ⟨RX3, "row", "(I)I"⟩
abbrev cX3_endGroup : ByteArray := prog_1_method_4_code
def yX3_endGroup : MethodName := ⟨RX3, "endGroup", "()Z"⟩
abbrev cX3_crash : ByteArray := prog_1_method_5_code
def yX3_crash : MethodName := ⟨RX3, "crash", "(II)Z"⟩
abbrev cX3_reopen : ByteArray := prog_1_method_6_code
def yX3_reopen : MethodName := ⟨RX3, "reopen", "()I"⟩
abbrev cX3_byteAt : ByteArray := prog_1_method_7_code
def yX3_byteAt : MethodName := ⟨RX3, "byteAt", "(II)I"⟩
abbrev cX3_poke : ByteArray := prog_1_method_8_code
def yX3_poke : MethodName := ⟨RX3, "poke", "(III)Z"⟩
abbrev cX3_repaired : ByteArray := prog_1_method_9_code
def yX3_repaired : MethodName := ⟨RX3, "repaired", "()I"⟩
abbrev cX3_badAt : ByteArray := prog_1_method_10_code
def yX3_badAt : MethodName := ⟨RX3, "badAt", "()I"⟩
abbrev cX3_move : ByteArray := prog_1_method_11_code
def yX3_move : MethodName := ⟨RX3, "move", "(I)Z"⟩
abbrev cX3_rows : ByteArray := prog_1_method_12_code
def yX3_rows : MethodName := ⟨RX3, "rows", "(I)I"⟩
abbrev cX3_same : ByteArray := prog_1_method_13_code
def yX3_same : MethodName := ⟨RX3, "same", "()Z"⟩
abbrev cX3_isFile : ByteArray := prog_1_method_14_code
def yX3_isFile : MethodName := ⟨RX3, "isFile", "(I)Z"⟩
abbrev cX3_fileOf : ByteArray := prog_1_method_15_code
def yX3_fileOf : MethodName := ⟨RX3, "fileOf", "(I)LMirrorLog$LogFile;"⟩
abbrev cX3_forgetAllButMoved : ByteArray := prog_1_method_16_code
def yX3_forgetAllButMoved : MethodName := ⟨RX3, "forgetAllButMoved", "()V"⟩
abbrev cX3_takeGoodGroups : ByteArray := prog_1_method_17_code
def yX3_takeGoodGroups : MethodName := ⟨RX3, "takeGoodGroups", "()I"⟩
abbrev cX3_takeGroup : ByteArray := prog_1_method_18_code
def yX3_takeGroup : MethodName := ⟨RX3, "takeGroup", "(LMirrorLog$LogFile;LMirrorLog$LogFile;I)I"⟩
abbrev cX3_endOfGroupsUpTo : ByteArray := prog_1_method_19_code
def yX3_endOfGroupsUpTo : MethodName := ⟨RX3, "endOfGroupsUpTo", "(I)I"⟩
def RX4 : String := "MirrorLogModel"
def TX4 : u_T := fun k => match k with
  | 0 => ("MirrorLogModel", "bytes", "[I", true)
  | 1 => ("MirrorLogModel", "sizes", "[I", true)
  | 2 => ("MirrorLogModel", "seconds", "[I", true)
  | 3 => ("MirrorLogModel", "lengths", "[I", true)
  | 4 => ("MirrorLogModel", "contents", "[I", true)
  | 5 => ("MirrorLogModel", "known", "I", false)
  | 6 => ("MirrorLogModel", "moved", "I", false)
  | 7 => ("MirrorLogModel", "groupRows", "[I", true)
  | 8 => ("MirrorLogModel", "groupBytes", "[I", true)
  | 9 => ("MirrorLogModel", "groups", "I", false)
  | 10 => ("MirrorLogModel", "newSeconds", "[I", true)
  | 11 => ("MirrorLogModel", "newLengths", "[I", true)
  | 12 => ("MirrorLogModel", "newContents", "[I", true)
  | 13 => ("MirrorLogModel", "newRows", "I", false)
  | 14 => ("MirrorLogModel", "fed", "[I", true)
  | 15 => ("MirrorLogModel", "feeding", "I", false)
  | 16 => ("MirrorLogModel", "shut", "Z", false)
  | 17 => ("MirrorLogModel", "repaired", "I", false)
  | 18 => ("MirrorLogModel", "badAt", "I", false)
  | 19 => ("MirrorLogModel", "thrown", "I", false)
  | 20 => ("MirrorLogModel", "seenRows", "I", false)
  | 21 => ("MirrorLogModel", "seenBytes", "I", false)
  | _ => ("MirrorLogModel", "at", "I", false)
def tyX4 : Nat → FieldType := fun k => match k with
  | 0 => .array .int
  | 1 => .array .int
  | 2 => .array .int
  | 3 => .array .int
  | 4 => .array .int
  | 5 => .int
  | 6 => .int
  | 7 => .array .int
  | 8 => .array .int
  | 9 => .int
  | 10 => .array .int
  | 11 => .array .int
  | 12 => .array .int
  | 13 => .int
  | 14 => .array .int
  | 15 => .int
  | 16 => .boolean
  | 17 => .int
  | 18 => .int
  | 19 => .int
  | 20 => .int
  | 21 => .int
  | _ => .int
abbrev wsX40 : List Cond := u_ws RX4 TX4 23
theorem nmX4 : ∀ a, a < 23 → ∀ b, b < 23 → a ≠ b → (TX4 a).2.1 ≠ (TX4 b).2.1 := by decide +kernel
theorem tyX4_ok : ∀ k, k < 23 → parseFieldDescriptor (TX4 k).2.2.1 = some (tyX4 k) := by decide +kernel
abbrev cX4_init : ByteArray := prog_6_method_1_code
def yX4_init : MethodName := ⟨RX4, "<init>", "()V"⟩
abbrev cX4_thrown : ByteArray := prog_6_method_2_code
def yX4_thrown : MethodName := ⟨RX4, "thrown", "()I"⟩
abbrev cX4_summed : ByteArray := prog_6_method_3_code
def yX4_summed : MethodName := ⟨RX4, "summed", "(II)I"⟩
abbrev cX4_feed : ByteArray := prog_6_method_4_code
def yX4_feed : MethodName := ⟨RX4, "feed", "(I)Z"⟩
abbrev cX4_lastSecond : ByteArray := prog_6_method_5_code
def yX4_lastSecond : MethodName := ⟨RX4, "lastSecond", "()I"⟩
abbrev cX4_row : ByteArray := prog_6_method_6_code
def yX4_row : MethodName := ⟨RX4, "row", "(I)I"⟩
abbrev cX4_write : ByteArray := prog_6_method_7_code
def yX4_write : MethodName := ⟨RX4, "write", "(II)I"⟩
abbrev cX4_four : ByteArray := prog_6_method_8_code
def yX4_four : MethodName := ⟨RX4, "four", "(I)V"⟩
abbrev cX4_endGroup : ByteArray := prog_6_method_9_code
def yX4_endGroup : MethodName := ⟨RX4, "endGroup", "()Z"⟩
abbrev cX4_forget : ByteArray := prog_6_method_10_code
def yX4_forget : MethodName := ⟨RX4, "forget", "()V"⟩
abbrev cX4_crash : ByteArray := prog_6_method_11_code
def yX4_crash : MethodName := ⟨RX4, "crash", "(II)Z"⟩
abbrev cX4_poke : ByteArray := prog_6_method_12_code
def yX4_poke : MethodName := ⟨RX4, "poke", "(III)Z"⟩
abbrev cX4_same : ByteArray := prog_6_method_13_code
def yX4_same : MethodName := ⟨RX4, "same", "()Z"⟩
abbrev cX4_areSame : ByteArray := prog_6_method_14_code
def yX4_areSame : MethodName := ⟨RX4, "areSame", "(II)Z"⟩
abbrev cX4_number : ByteArray := prog_6_method_15_code
def yX4_number : MethodName := ⟨RX4, "number", "(III)I"⟩
abbrev cX4_sumOf : ByteArray := prog_6_method_16_code
def yX4_sumOf : MethodName := ⟨RX4, "sumOf", "(IIII)I"⟩
abbrev cX4_isGood : ByteArray := prog_6_method_17_code
def yX4_isGood : MethodName := ⟨RX4, "isGood", "(II)Z"⟩
abbrev cX4_take : ByteArray := prog_6_method_18_code
def yX4_take : MethodName := ⟨RX4, "take", "(II)V"⟩
abbrev cX4_reopen : ByteArray := prog_6_method_19_code
def yX4_reopen : MethodName := ⟨RX4, "reopen", "()I"⟩
abbrev cX4_repaired : ByteArray := prog_6_method_20_code
def yX4_repaired : MethodName := ⟨RX4, "repaired", "()I"⟩
abbrev cX4_badAt : ByteArray := prog_6_method_21_code
def yX4_badAt : MethodName := ⟨RX4, "badAt", "()I"⟩
abbrev cX4_byteAt : ByteArray := prog_6_method_22_code
def yX4_byteAt : MethodName := ⟨RX4, "byteAt", "(II)I"⟩
abbrev cX4_rows : ByteArray := prog_6_method_23_code
def yX4_rows : MethodName := ⟨RX4, "rows", "(I)I"⟩
abbrev cX4_move : ByteArray := prog_6_method_24_code
def yX4_move : MethodName := ⟨RX4, "move", "(I)Z"⟩
def RJx00060 : String := "java/lang/ArrayIndexOutOfBoundsException"
def TJx00060 : u_T := fun k => match k with
  | 0 => ("java/lang/Throwable", "cause", "Ljava/lang/Throwable;", false)
  | 1 => ("java/lang/Throwable", "stackTrace", "[Ljava/lang/StackTraceElement;", false)
  | 2 => ("java/lang/Throwable", "suppressedExceptions", "Ljava/util/List;", false)
  | 3 => ("java/lang/Throwable", "detailMessage", "Ljava/lang/String;", false)
  | 4 => ("java/lang/Throwable", "backtrace", "Ljava/lang/Object;", false)
  | _ => ("java/lang/Throwable", "depth", "I", false)
def tyJx00060 : Nat → FieldType := fun k => match k with
  | 0 => .object "java/lang/Throwable"
  | 1 => .array (.object "java/lang/StackTraceElement")
  | 2 => .object "java/util/List"
  | 3 => .object "java/lang/String"
  | 4 => .object "java/lang/Object"
  | _ => .int
abbrev wsJx000600 : List Cond := u_ws RJx00060 TJx00060 6
theorem nmJx00060 : ∀ a, a < 6 → ∀ b, b < 6 → a ≠ b → (TJx00060 a).2.1 ≠ (TJx00060 b).2.1 := by decide +kernel
theorem tyJx00060_ok : ∀ k, k < 6 → parseFieldDescriptor (TJx00060 k).2.2.1 = some (tyJx00060 k) := by decide +kernel
abbrev cJx00060_init_a7421 : ByteArray := prog_7_method_2_code
def yJx00060_init_a7421 : MethodName := ⟨RJx00060, "<init>", "(Ljava/lang/String;)V"⟩
def RJ6 : String := "java/lang/Integer"
def TJ6 : u_T := fun k => match k with
  | _ => ("", "", "", false)
def tyJ6 : Nat → FieldType := fun k => match k with
  | _ => .int
abbrev wsJ60 : List Cond := u_ws RJ6 TJ6 0
theorem nmJ6 : ∀ a, a < 0 → ∀ b, b < 0 → a ≠ b → (TJ6 a).2.1 ≠ (TJ6 b).2.1 := by decide +kernel
theorem tyJ6_ok : ∀ k, k < 0 → parseFieldDescriptor (TJ6 k).2.2.1 = some (tyJ6 k) := by decide +kernel
abbrev cJ6_rotateLeft_7cf53 : ByteArray := prog_10_method_50_code
def yJ6_rotateLeft_7cf53 : MethodName := ⟨RJ6, "rotateLeft", "(II)I"⟩
def RJ0 : String := "java/lang/String"
def TJ0 : u_T := fun k => match k with
  | _ => ("", "", "", false)
def tyJ0 : Nat → FieldType := fun k => match k with
  | _ => .int
abbrev wsJ00 : List Cond := u_ws RJ0 TJ0 0
theorem nmJ0 : ∀ a, a < 0 → ∀ b, b < 0 → a ≠ b → (TJ0 a).2.1 ≠ (TJ0 b).2.1 := by decide +kernel
theorem tyJ0_ok : ∀ k, k < 0 → parseFieldDescriptor (TJ0 k).2.2.1 = some (tyJ0 k) := by decide +kernel
def RJ10 : String := "java/lang/System"
def TJ10 : u_T := fun k => match k with
  | _ => ("", "", "", false)
def tyJ10 : Nat → FieldType := fun k => match k with
  | _ => .int
abbrev wsJ100 : List Cond := u_ws RJ10 TJ10 0
theorem nmJ10 : ∀ a, a < 0 → ∀ b, b < 0 → a ≠ b → (TJ10 a).2.1 ≠ (TJ10 b).2.1 := by decide +kernel
theorem tyJ10_ok : ∀ k, k < 0 → parseFieldDescriptor (TJ10 k).2.2.1 = some (tyJ10 k) := by decide +kernel
def RL : String := "MirrorLogLaw"
abbrev cL_byteAt : ByteArray := method_3_code
def yL_byteAt : MethodName := ⟨RL, "byteAt", "(LMirrorLog;II[J)I"⟩
abbrev cL_law : ByteArray := code
def yL_law : MethodName := ⟨RL, "law", "([I)Z"⟩
def wsX2_count : List Cond := .code yX2_count cX2_count 1 (some .int) :: ([.fieldLink RX2 27 "MirrorLog$RowTable" "count" "I"] ++ wsX20)
def wsX1_size : List Cond := .code yX1_size cX1_size 1 (some .int) :: ([.fieldLink RX1 15 "MirrorLog$LogFile" "size" "I"] ++ wsX10)
def wsX2_has : List Cond := .code yX2_has cX2_has 2 (some .boolean) :: ([.fieldLink RX2 27 "MirrorLog$RowTable" "count" "I"] ++ wsX20)
def wsX2_lengthOf : List Cond := .code yX2_lengthOf cX2_lengthOf 2 (some .int) :: ([.fieldLink RX2 15 "MirrorLog$RowTable" "lengths" "[I", .methodLink RX2 31 yX2_has, .instanceMethod yX2_has, .selects RX2 yX2_has yX2_has, .initialized RX2, .code yX2_has cX2_has 2 (some .boolean), .fieldLink RX2 27 "MirrorLog$RowTable" "count" "I"] ++ wsX20)
def wsX1_add : List Cond := .code yX1_add cX1_add 2 none :: ([.fieldLink RX1 15 "MirrorLog$LogFile" "size" "I", .fieldLink RX1 9 "MirrorLog$LogFile" "bytes" "[B"] ++ wsX10)
def wsX2_secondOf : List Cond := .code yX2_secondOf cX2_secondOf 2 (some .int) :: ([.fieldLink RX2 9 "MirrorLog$RowTable" "seconds" "[I", .methodLink RX2 31 yX2_has, .instanceMethod yX2_has, .selects RX2 yX2_has yX2_has, .initialized RX2, .code yX2_has cX2_has 2 (some .boolean), .fieldLink RX2 27 "MirrorLog$RowTable" "count" "I"] ++ wsX20)
def wsX1_addNumber : List Cond := .code yX1_addNumber cX1_addNumber 4 none :: ([.methodLink RX1 19 yX1_add, .instanceMethod yX1_add, .selects RX1 yX1_add yX1_add, .initialized RX1, .code yX1_add cX1_add 2 none, .fieldLink RX1 15 "MirrorLog$LogFile" "size" "I", .fieldLink RX1 9 "MirrorLog$LogFile" "bytes" "[B"] ++ wsX10)
def wsX2_contentAt : List Cond := .code yX2_contentAt cX2_contentAt 3 (some .int) :: ([.fieldLink RX2 23 "MirrorLog$RowTable" "contents" "[B", .methodLink RX2 40 yX2_lengthOf, .instanceMethod yX2_lengthOf, .selects RX2 yX2_lengthOf yX2_lengthOf, .initialized RX2, .code yX2_lengthOf cX2_lengthOf 2 (some .int), .fieldLink RX2 15 "MirrorLog$RowTable" "lengths" "[I", .methodLink RX2 31 yX2_has, .instanceMethod yX2_has, .selects RX2 yX2_has yX2_has, .code yX2_has cX2_has 2 (some .boolean), .fieldLink RX2 27 "MirrorLog$RowTable" "count" "I"] ++ wsX20)
def wsX1_get : List Cond := .code yX1_get cX1_get 2 (some .int) :: ([.fieldLink RX1 15 "MirrorLog$LogFile" "size" "I", .fieldLink RX1 9 "MirrorLog$LogFile" "bytes" "[B"] ++ wsX10)
def wsJ6_rotateLeft_7cf53 : List Cond := .code yJ6_rotateLeft_7cf53 cJ6_rotateLeft_7cf53 2 (some .int) :: ([])
def wsX1_sumOf : List Cond := .code yX1_sumOf cX1_sumOf 6 (some .int) :: ([.constant RX1 33 (668265263), .methodLink RX1 23 yX1_get, .instanceMethod yX1_get, .selects RX1 yX1_get yX1_get, .initialized RX1, .code yX1_get cX1_get 2 (some .int), .fieldLink RX1 15 "MirrorLog$LogFile" "size" "I", .fieldLink RX1 9 "MirrorLog$LogFile" "bytes" "[B", .methodLink RX1 27 yJ6_rotateLeft_7cf53, .static yJ6_rotateLeft_7cf53, .initialized RJ6, .code yJ6_rotateLeft_7cf53 cJ6_rotateLeft_7cf53 2 (some .int)] ++ wsX10)
def wsX0_writeRow_r1 : List Cond := [Cond.methodLink RX0 21 yX1_size, Cond.instanceMethod yX1_size, Cond.selects RX1 yX1_size yX1_size, Cond.initialized RX1, Cond.code yX1_size cX1_size 1 (some .int), Cond.fieldLink RX1 15 "MirrorLog$LogFile" "size" "I", Cond.methodLink RX0 38 yX2_lengthOf, Cond.instanceMethod yX2_lengthOf, Cond.selects RX2 yX2_lengthOf yX2_lengthOf, Cond.initialized RX2, Cond.code yX2_lengthOf cX2_lengthOf 2 (some .int), Cond.fieldLink RX2 15 "MirrorLog$RowTable" "lengths" "[I", Cond.methodLink RX2 31 yX2_has, Cond.instanceMethod yX2_has, Cond.selects RX2 yX2_has yX2_has, Cond.code yX2_has cX2_has 2 (some .boolean), Cond.fieldLink RX2 27 "MirrorLog$RowTable" "count" "I", Cond.methodLink RX0 26 yX1_add, Cond.instanceMethod yX1_add, Cond.selects RX1 yX1_add yX1_add, Cond.code yX1_add cX1_add 2 none, Cond.fieldLink RX1 9 "MirrorLog$LogFile" "bytes" "[B", Cond.methodLink RX0 42 yX2_secondOf, Cond.instanceMethod yX2_secondOf]
def wsX0_writeRow_r2 : List Cond := [Cond.selects RX2 yX2_secondOf yX2_secondOf, Cond.code yX2_secondOf cX2_secondOf 2 (some .int), Cond.fieldLink RX2 9 "MirrorLog$RowTable" "seconds" "[I", Cond.methodLink RX0 34 yX1_addNumber, Cond.instanceMethod yX1_addNumber, Cond.selects RX1 yX1_addNumber yX1_addNumber, Cond.code yX1_addNumber cX1_addNumber 4 none, Cond.methodLink RX1 19 yX1_add, Cond.methodLink RX0 45 yX2_contentAt, Cond.instanceMethod yX2_contentAt, Cond.selects RX2 yX2_contentAt yX2_contentAt, Cond.code yX2_contentAt cX2_contentAt 3 (some .int), Cond.fieldLink RX2 23 "MirrorLog$RowTable" "contents" "[B", Cond.methodLink RX2 40 yX2_lengthOf, Cond.methodLink RX0 30 yX1_sumOf, Cond.instanceMethod yX1_sumOf, Cond.selects RX1 yX1_sumOf yX1_sumOf, Cond.code yX1_sumOf cX1_sumOf 6 (some .int), Cond.constant RX1 33 (668265263), Cond.methodLink RX1 23 yX1_get, Cond.instanceMethod yX1_get, Cond.selects RX1 yX1_get yX1_get, Cond.code yX1_get cX1_get 2 (some .int), Cond.methodLink RX1 27 yJ6_rotateLeft_7cf53]
def wsX0_writeRow_r3 : List Cond := [Cond.static yJ6_rotateLeft_7cf53, Cond.initialized RJ6, Cond.code yJ6_rotateLeft_7cf53 cJ6_rotateLeft_7cf53 2 (some .int)]
def wsX0_writeRow : List Cond := .code yX0_writeRow cX0_writeRow 6 (some .int) :: ((wsX0_writeRow_r1 ++ (wsX0_writeRow_r2 ++ wsX0_writeRow_r3)) ++ wsX10 ++ wsX20)
def wsX0_write_r1 : List Cond := [Cond.methodLink RX0 9 yX2_count, Cond.instanceMethod yX2_count, Cond.selects RX2 yX2_count yX2_count, Cond.initialized RX2, Cond.code yX2_count cX2_count 1 (some .int), Cond.fieldLink RX2 27 "MirrorLog$RowTable" "count" "I", Cond.methodLink RX0 15 yX0_writeRow, Cond.static yX0_writeRow, Cond.initialized RX0, Cond.code yX0_writeRow cX0_writeRow 6 (some .int), Cond.methodLink RX0 21 yX1_size, Cond.instanceMethod yX1_size, Cond.selects RX1 yX1_size yX1_size, Cond.initialized RX1, Cond.code yX1_size cX1_size 1 (some .int), Cond.fieldLink RX1 15 "MirrorLog$LogFile" "size" "I", Cond.methodLink RX0 38 yX2_lengthOf, Cond.instanceMethod yX2_lengthOf, Cond.selects RX2 yX2_lengthOf yX2_lengthOf, Cond.code yX2_lengthOf cX2_lengthOf 2 (some .int), Cond.fieldLink RX2 15 "MirrorLog$RowTable" "lengths" "[I", Cond.methodLink RX2 31 yX2_has, Cond.instanceMethod yX2_has, Cond.selects RX2 yX2_has yX2_has]
def wsX0_write_r2 : List Cond := [Cond.code yX2_has cX2_has 2 (some .boolean), Cond.methodLink RX0 26 yX1_add, Cond.instanceMethod yX1_add, Cond.selects RX1 yX1_add yX1_add, Cond.code yX1_add cX1_add 2 none, Cond.fieldLink RX1 9 "MirrorLog$LogFile" "bytes" "[B", Cond.methodLink RX0 42 yX2_secondOf, Cond.instanceMethod yX2_secondOf, Cond.selects RX2 yX2_secondOf yX2_secondOf, Cond.code yX2_secondOf cX2_secondOf 2 (some .int), Cond.fieldLink RX2 9 "MirrorLog$RowTable" "seconds" "[I", Cond.methodLink RX0 34 yX1_addNumber, Cond.instanceMethod yX1_addNumber, Cond.selects RX1 yX1_addNumber yX1_addNumber, Cond.code yX1_addNumber cX1_addNumber 4 none, Cond.methodLink RX1 19 yX1_add, Cond.methodLink RX0 45 yX2_contentAt, Cond.instanceMethod yX2_contentAt, Cond.selects RX2 yX2_contentAt yX2_contentAt, Cond.code yX2_contentAt cX2_contentAt 3 (some .int), Cond.fieldLink RX2 23 "MirrorLog$RowTable" "contents" "[B", Cond.methodLink RX2 40 yX2_lengthOf, Cond.methodLink RX0 30 yX1_sumOf, Cond.instanceMethod yX1_sumOf]
def wsX0_write_r3 : List Cond := [Cond.selects RX1 yX1_sumOf yX1_sumOf, Cond.code yX1_sumOf cX1_sumOf 6 (some .int), Cond.constant RX1 33 (668265263), Cond.methodLink RX1 23 yX1_get, Cond.instanceMethod yX1_get, Cond.selects RX1 yX1_get yX1_get, Cond.code yX1_get cX1_get 2 (some .int), Cond.methodLink RX1 27 yJ6_rotateLeft_7cf53, Cond.static yJ6_rotateLeft_7cf53, Cond.initialized RJ6, Cond.code yJ6_rotateLeft_7cf53 cJ6_rotateLeft_7cf53 2 (some .int)]
def wsX0_write : List Cond := .code yX0_write cX0_write 5 none :: ((wsX0_write_r1 ++ (wsX0_write_r2 ++ wsX0_write_r3)) ++ wsX20 ++ wsX10)
def wsX2_lastSecond : List Cond := .code yX2_lastSecond cX2_lastSecond 1 (some .int) :: ([.fieldLink RX2 27 "MirrorLog$RowTable" "count" "I", .methodLink RX2 35 yX2_secondOf, .instanceMethod yX2_secondOf, .selects RX2 yX2_secondOf yX2_secondOf, .initialized RX2, .code yX2_secondOf cX2_secondOf 2 (some .int), .fieldLink RX2 9 "MirrorLog$RowTable" "seconds" "[I", .methodLink RX2 31 yX2_has, .instanceMethod yX2_has, .selects RX2 yX2_has yX2_has, .code yX2_has cX2_has 2 (some .boolean)] ++ wsX20)
def wsX1_number : List Cond := .code yX1_number cX1_number 5 (some .int) :: ([.methodLink RX1 23 yX1_get, .instanceMethod yX1_get, .selects RX1 yX1_get yX1_get, .initialized RX1, .code yX1_get cX1_get 2 (some .int), .fieldLink RX1 15 "MirrorLog$LogFile" "size" "I", .fieldLink RX1 9 "MirrorLog$LogFile" "bytes" "[B"] ++ wsX10)
def wsX0_isRowGood_r1 : List Cond := [Cond.constant RX0 66 (1000000000), Cond.methodLink RX0 52 yX1_get, Cond.instanceMethod yX1_get, Cond.selects RX1 yX1_get yX1_get, Cond.initialized RX1, Cond.code yX1_get cX1_get 2 (some .int), Cond.fieldLink RX1 15 "MirrorLog$LogFile" "size" "I", Cond.fieldLink RX1 9 "MirrorLog$LogFile" "bytes" "[B", Cond.methodLink RX0 21 yX1_size, Cond.instanceMethod yX1_size, Cond.selects RX1 yX1_size yX1_size, Cond.code yX1_size cX1_size 1 (some .int), Cond.methodLink RX0 59 yX1_number, Cond.instanceMethod yX1_number, Cond.selects RX1 yX1_number yX1_number, Cond.code yX1_number cX1_number 5 (some .int), Cond.methodLink RX1 23 yX1_get, Cond.methodLink RX0 30 yX1_sumOf, Cond.instanceMethod yX1_sumOf, Cond.selects RX1 yX1_sumOf yX1_sumOf, Cond.code yX1_sumOf cX1_sumOf 6 (some .int), Cond.constant RX1 33 (668265263), Cond.methodLink RX1 27 yJ6_rotateLeft_7cf53, Cond.static yJ6_rotateLeft_7cf53]
def wsX0_isRowGood_r2 : List Cond := [Cond.initialized RJ6, Cond.code yJ6_rotateLeft_7cf53 cJ6_rotateLeft_7cf53 2 (some .int)]
def wsX0_isRowGood : List Cond := .code yX0_isRowGood cX0_isRowGood 8 (some .boolean) :: ((wsX0_isRowGood_r1 ++ wsX0_isRowGood_r2) ++ wsX10)
def wsX0_isEndGood_r1 : List Cond := [Cond.methodLink RX0 21 yX1_size, Cond.instanceMethod yX1_size, Cond.selects RX1 yX1_size yX1_size, Cond.initialized RX1, Cond.code yX1_size cX1_size 1 (some .int), Cond.fieldLink RX1 15 "MirrorLog$LogFile" "size" "I", Cond.methodLink RX0 52 yX1_get, Cond.instanceMethod yX1_get, Cond.selects RX1 yX1_get yX1_get, Cond.code yX1_get cX1_get 2 (some .int), Cond.fieldLink RX1 9 "MirrorLog$LogFile" "bytes" "[B", Cond.methodLink RX0 59 yX1_number, Cond.instanceMethod yX1_number, Cond.selects RX1 yX1_number yX1_number, Cond.code yX1_number cX1_number 5 (some .int), Cond.methodLink RX1 23 yX1_get, Cond.methodLink RX0 30 yX1_sumOf, Cond.instanceMethod yX1_sumOf, Cond.selects RX1 yX1_sumOf yX1_sumOf, Cond.code yX1_sumOf cX1_sumOf 6 (some .int), Cond.constant RX1 33 (668265263), Cond.methodLink RX1 27 yJ6_rotateLeft_7cf53, Cond.static yJ6_rotateLeft_7cf53, Cond.initialized RJ6]
def wsX0_isEndGood_r2 : List Cond := [Cond.code yJ6_rotateLeft_7cf53 cJ6_rotateLeft_7cf53 2 (some .int)]
def wsX0_isEndGood : List Cond := .code yX0_isEndGood cX0_isEndGood 4 (some .boolean) :: ((wsX0_isEndGood_r1 ++ wsX0_isEndGood_r2) ++ wsX10)
def wsX0_endOfGood_r1 : List Cond := [Cond.methodLink RX0 49 yX2_lastSecond, Cond.instanceMethod yX2_lastSecond, Cond.selects RX2 yX2_lastSecond yX2_lastSecond, Cond.initialized RX2, Cond.code yX2_lastSecond cX2_lastSecond 1 (some .int), Cond.fieldLink RX2 27 "MirrorLog$RowTable" "count" "I", Cond.methodLink RX2 35 yX2_secondOf, Cond.instanceMethod yX2_secondOf, Cond.selects RX2 yX2_secondOf yX2_secondOf, Cond.code yX2_secondOf cX2_secondOf 2 (some .int), Cond.fieldLink RX2 9 "MirrorLog$RowTable" "seconds" "[I", Cond.methodLink RX2 31 yX2_has, Cond.instanceMethod yX2_has, Cond.selects RX2 yX2_has yX2_has, Cond.code yX2_has cX2_has 2 (some .boolean), Cond.methodLink RX0 52 yX1_get, Cond.instanceMethod yX1_get, Cond.selects RX1 yX1_get yX1_get, Cond.initialized RX1, Cond.code yX1_get cX1_get 2 (some .int), Cond.fieldLink RX1 15 "MirrorLog$LogFile" "size" "I", Cond.fieldLink RX1 9 "MirrorLog$LogFile" "bytes" "[B", Cond.methodLink RX0 9 yX2_count, Cond.instanceMethod yX2_count]
def wsX0_endOfGood_r2 : List Cond := [Cond.selects RX2 yX2_count yX2_count, Cond.code yX2_count cX2_count 1 (some .int), Cond.methodLink RX0 55 yX0_isRowGood, Cond.static yX0_isRowGood, Cond.initialized RX0, Cond.code yX0_isRowGood cX0_isRowGood 8 (some .boolean), Cond.constant RX0 66 (1000000000), Cond.methodLink RX0 21 yX1_size, Cond.instanceMethod yX1_size, Cond.selects RX1 yX1_size yX1_size, Cond.code yX1_size cX1_size 1 (some .int), Cond.methodLink RX0 59 yX1_number, Cond.instanceMethod yX1_number, Cond.selects RX1 yX1_number yX1_number, Cond.code yX1_number cX1_number 5 (some .int), Cond.methodLink RX1 23 yX1_get, Cond.methodLink RX0 30 yX1_sumOf, Cond.instanceMethod yX1_sumOf, Cond.selects RX1 yX1_sumOf yX1_sumOf, Cond.code yX1_sumOf cX1_sumOf 6 (some .int), Cond.constant RX1 33 (668265263), Cond.methodLink RX1 27 yJ6_rotateLeft_7cf53, Cond.static yJ6_rotateLeft_7cf53, Cond.initialized RJ6]
def wsX0_endOfGood_r3 : List Cond := [Cond.code yJ6_rotateLeft_7cf53 cJ6_rotateLeft_7cf53 2 (some .int), Cond.methodLink RX0 62 yX0_isEndGood, Cond.static yX0_isEndGood, Cond.code yX0_isEndGood cX0_isEndGood 4 (some .boolean)]
def wsX0_endOfGood : List Cond := .code yX0_endOfGood cX0_endOfGood 6 (some .int) :: ((wsX0_endOfGood_r1 ++ (wsX0_endOfGood_r2 ++ wsX0_endOfGood_r3)) ++ wsX20 ++ wsX10)
def wsX2_begin : List Cond := .code yX2_begin cX2_begin 2 none :: ([.fieldLink RX2 27 "MirrorLog$RowTable" "count" "I", .fieldLink RX2 9 "MirrorLog$RowTable" "seconds" "[I", .fieldLink RX2 15 "MirrorLog$RowTable" "lengths" "[I", .fieldLink RX2 18 "MirrorLog$RowTable" "groupEnds" "[Z"] ++ wsX20)
def wsX2_push : List Cond := .code yX2_push cX2_push 4 none :: ([.fieldLink RX2 27 "MirrorLog$RowTable" "count" "I", .fieldLink RX2 15 "MirrorLog$RowTable" "lengths" "[I", .fieldLink RX2 23 "MirrorLog$RowTable" "contents" "[B", .methodLink RX2 31 yX2_has, .instanceMethod yX2_has, .selects RX2 yX2_has yX2_has, .initialized RX2, .code yX2_has cX2_has 2 (some .boolean)] ++ wsX20)
def wsX2_endGroupHere : List Cond := .code yX2_endGroupHere cX2_endGroupHere 1 none :: ([.fieldLink RX2 27 "MirrorLog$RowTable" "count" "I", .fieldLink RX2 18 "MirrorLog$RowTable" "groupEnds" "[Z", .methodLink RX2 31 yX2_has, .instanceMethod yX2_has, .selects RX2 yX2_has yX2_has, .initialized RX2, .code yX2_has cX2_has 2 (some .boolean)] ++ wsX20)
def wsX0_read_r1 : List Cond := [Cond.methodLink RX0 52 yX1_get, Cond.instanceMethod yX1_get, Cond.selects RX1 yX1_get yX1_get, Cond.initialized RX1, Cond.code yX1_get cX1_get 2 (some .int), Cond.fieldLink RX1 15 "MirrorLog$LogFile" "size" "I", Cond.fieldLink RX1 9 "MirrorLog$LogFile" "bytes" "[B", Cond.methodLink RX0 59 yX1_number, Cond.instanceMethod yX1_number, Cond.selects RX1 yX1_number yX1_number, Cond.code yX1_number cX1_number 5 (some .int), Cond.methodLink RX1 23 yX1_get, Cond.methodLink RX0 67 yX2_begin, Cond.instanceMethod yX2_begin, Cond.selects RX2 yX2_begin yX2_begin, Cond.initialized RX2, Cond.code yX2_begin cX2_begin 2 none, Cond.fieldLink RX2 27 "MirrorLog$RowTable" "count" "I", Cond.fieldLink RX2 9 "MirrorLog$RowTable" "seconds" "[I", Cond.fieldLink RX2 15 "MirrorLog$RowTable" "lengths" "[I", Cond.fieldLink RX2 18 "MirrorLog$RowTable" "groupEnds" "[Z", Cond.methodLink RX0 70 yX2_push, Cond.instanceMethod yX2_push, Cond.selects RX2 yX2_push yX2_push]
def wsX0_read_r2 : List Cond := [Cond.code yX2_push cX2_push 4 none, Cond.fieldLink RX2 23 "MirrorLog$RowTable" "contents" "[B", Cond.methodLink RX2 31 yX2_has, Cond.instanceMethod yX2_has, Cond.selects RX2 yX2_has yX2_has, Cond.code yX2_has cX2_has 2 (some .boolean), Cond.methodLink RX0 73 yX2_endGroupHere, Cond.instanceMethod yX2_endGroupHere, Cond.selects RX2 yX2_endGroupHere yX2_endGroupHere, Cond.code yX2_endGroupHere cX2_endGroupHere 1 none]
def wsX0_read : List Cond := .code yX0_read cX0_read 10 none :: ((wsX0_read_r1 ++ wsX0_read_r2) ++ wsX10 ++ wsX20)
def wsX1_init : List Cond := .code yX1_init cX1_init 1 none :: ([.methodLink RX1 3 objectInit, .instanceMethod objectInit, .code objectInit ⟨#[0xb1]⟩ 1 none, .arrayClass .byte, .fieldLink RX1 9 "MirrorLog$LogFile" "bytes" "[B"] ++ wsX10)
def wsX1_hasRoomFor : List Cond := .code yX1_hasRoomFor cX1_hasRoomFor 2 (some .boolean) :: ([.fieldLink RX1 9 "MirrorLog$LogFile" "bytes" "[B", .fieldLink RX1 15 "MirrorLog$LogFile" "size" "I"] ++ wsX10)
def wsX1_alter : List Cond := .code yX1_alter cX1_alter 3 none :: ([.fieldLink RX1 15 "MirrorLog$LogFile" "size" "I", .fieldLink RX1 9 "MirrorLog$LogFile" "bytes" "[B"] ++ wsX10)
def wsX1_cutTo : List Cond := .code yX1_cutTo cX1_cutTo 2 none :: ([.fieldLink RX1 15 "MirrorLog$LogFile" "size" "I"] ++ wsX10)
def wsX1_dropFirst : List Cond := .code yX1_dropFirst cX1_dropFirst 2 none :: ([.fieldLink RX1 15 "MirrorLog$LogFile" "size" "I", .fieldLink RX1 9 "MirrorLog$LogFile" "bytes" "[B", .methodLink RX1 34 arraycopyName, .native arraycopyName, .static arraycopyName, .initialized "java/lang/System"] ++ wsX10)
def wsX1_agrees : List Cond := .code yX1_agrees cX1_agrees 5 (some .boolean) :: ([.methodLink RX1 23 yX1_get, .instanceMethod yX1_get, .selects RX1 yX1_get yX1_get, .initialized RX1, .code yX1_get cX1_get 2 (some .int), .fieldLink RX1 15 "MirrorLog$LogFile" "size" "I", .fieldLink RX1 9 "MirrorLog$LogFile" "bytes" "[B"] ++ wsX10)
def wsX1_copyFrom : List Cond := .code yX1_copyFrom cX1_copyFrom 5 none :: ([.fieldLink RX1 15 "MirrorLog$LogFile" "size" "I", .fieldLink RX1 9 "MirrorLog$LogFile" "bytes" "[B", .methodLink RX1 23 yX1_get, .instanceMethod yX1_get, .selects RX1 yX1_get yX1_get, .initialized RX1, .code yX1_get cX1_get 2 (some .int), .methodLink RX1 19 yX1_add, .instanceMethod yX1_add, .selects RX1 yX1_add yX1_add, .code yX1_add cX1_add 2 none] ++ wsX10)
def wsX2_init : List Cond := .code yX2_init cX2_init 1 none :: ([.methodLink RX2 3 objectInit, .instanceMethod objectInit, .code objectInit ⟨#[0xb1]⟩ 1 none, .arrayClass .int, .fieldLink RX2 9 "MirrorLog$RowTable" "seconds" "[I", .fieldLink RX2 15 "MirrorLog$RowTable" "lengths" "[I", .arrayClass .boolean, .fieldLink RX2 18 "MirrorLog$RowTable" "groupEnds" "[Z", .constant RX2 22 (38400), .arrayClass .byte, .fieldLink RX2 23 "MirrorLog$RowTable" "contents" "[B"] ++ wsX20)
def wsX2_cutTo : List Cond := .code yX2_cutTo cX2_cutTo 2 none :: ([.fieldLink RX2 27 "MirrorLog$RowTable" "count" "I"] ++ wsX20)
def wsX2_endsGroup : List Cond := .code yX2_endsGroup cX2_endsGroup 2 (some .boolean) :: ([.fieldLink RX2 18 "MirrorLog$RowTable" "groupEnds" "[Z", .methodLink RX2 31 yX2_has, .instanceMethod yX2_has, .selects RX2 yX2_has yX2_has, .initialized RX2, .code yX2_has cX2_has 2 (some .boolean), .fieldLink RX2 27 "MirrorLog$RowTable" "count" "I"] ++ wsX20)
def wsX2_monthOf : List Cond := .code yX2_monthOf cX2_monthOf 2 (some .int) :: ([.constant RX2 39 (2592000), .methodLink RX2 35 yX2_secondOf, .instanceMethod yX2_secondOf, .selects RX2 yX2_secondOf yX2_secondOf, .initialized RX2, .code yX2_secondOf cX2_secondOf 2 (some .int), .fieldLink RX2 9 "MirrorLog$RowTable" "seconds" "[I", .methodLink RX2 31 yX2_has, .instanceMethod yX2_has, .selects RX2 yX2_has yX2_has, .code yX2_has cX2_has 2 (some .boolean), .fieldLink RX2 27 "MirrorLog$RowTable" "count" "I"] ++ wsX20)
def wsX2_bytesInFile : List Cond := .code yX2_bytesInFile cX2_bytesInFile 5 (some .int) :: ([.methodLink RX2 40 yX2_lengthOf, .instanceMethod yX2_lengthOf, .selects RX2 yX2_lengthOf yX2_lengthOf, .initialized RX2, .code yX2_lengthOf cX2_lengthOf 2 (some .int), .fieldLink RX2 15 "MirrorLog$RowTable" "lengths" "[I", .methodLink RX2 31 yX2_has, .instanceMethod yX2_has, .selects RX2 yX2_has yX2_has, .code yX2_has cX2_has 2 (some .boolean), .fieldLink RX2 27 "MirrorLog$RowTable" "count" "I", .methodLink RX2 43 yX2_endsGroup, .instanceMethod yX2_endsGroup, .selects RX2 yX2_endsGroup yX2_endsGroup, .code yX2_endsGroup cX2_endsGroup 2 (some .boolean), .fieldLink RX2 18 "MirrorLog$RowTable" "groupEnds" "[Z"] ++ wsX20)
def wsX3_init_r1 : List Cond := [Cond.methodLink RX3 3 objectInit, Cond.instanceMethod objectInit, Cond.code objectInit ⟨#[0xb1]⟩ 1 none, Cond.classLink RX3 9 RX1, Cond.instantiable RX1 2, Cond.initialized RX1, Cond.fieldLink RX3 12 "MirrorLog" "file0" "LMirrorLog$LogFile;", Cond.fieldLink RX3 16 "MirrorLog" "file1" "LMirrorLog$LogFile;", Cond.classLink RX3 19 RX2, Cond.instantiable RX2 5, Cond.initialized RX2, Cond.fieldLink RX3 22 "MirrorLog" "table" "LMirrorLog$RowTable;", Cond.arrayClass .byte, Cond.fieldLink RX3 26 "MirrorLog" "fed" "[B", Cond.fieldLink RX3 30 "MirrorLog" "badPlace" "I", Cond.instanceMethod yX1_init, Cond.code yX1_init cX1_init 1 none, Cond.methodLink RX1 3 objectInit, Cond.fieldLink RX1 9 "MirrorLog$LogFile" "bytes" "[B", Cond.instanceMethod yX2_init, Cond.code yX2_init cX2_init 1 none, Cond.methodLink RX2 3 objectInit, Cond.arrayClass .int, Cond.fieldLink RX2 9 "MirrorLog$RowTable" "seconds" "[I"]
def wsX3_init_r2 : List Cond := [Cond.fieldLink RX2 15 "MirrorLog$RowTable" "lengths" "[I", Cond.arrayClass .boolean, Cond.fieldLink RX2 18 "MirrorLog$RowTable" "groupEnds" "[Z", Cond.constant RX2 22 (38400), Cond.fieldLink RX2 23 "MirrorLog$RowTable" "contents" "[B"]
def wsX3_init : List Cond := .code yX3_init cX3_init 1 none :: ((wsX3_init_r1 ++ wsX3_init_r2) ++ wsX10 ++ wsX30 ++ wsX20)
def wsX3_feed : List Cond := .code yX3_feed cX3_feed 2 (some .boolean) :: ([.fieldLink RX3 34 "MirrorLog" "shut" "Z", .fieldLink RX3 38 "MirrorLog" "fedCount" "I", .fieldLink RX3 26 "MirrorLog" "fed" "[B"] ++ wsX30)
def wsX3_row_r1 : List Cond := [Cond.fieldLink RX3 34 "MirrorLog" "shut" "Z", Cond.fieldLink RX3 38 "MirrorLog" "fedCount" "I", Cond.constant RX3 41 (1000000000), Cond.fieldLink RX3 22 "MirrorLog" "table" "LMirrorLog$RowTable;", Cond.fieldLink RX3 49 "MirrorLog" "known" "I", Cond.fieldLink RX3 26 "MirrorLog" "fed" "[B", Cond.methodLink RX3 42 yX2_lastSecond, Cond.instanceMethod yX2_lastSecond, Cond.selects RX2 yX2_lastSecond yX2_lastSecond, Cond.initialized RX2, Cond.code yX2_lastSecond cX2_lastSecond 1 (some .int), Cond.fieldLink RX2 27 "MirrorLog$RowTable" "count" "I", Cond.methodLink RX2 35 yX2_secondOf, Cond.instanceMethod yX2_secondOf, Cond.selects RX2 yX2_secondOf yX2_secondOf, Cond.code yX2_secondOf cX2_secondOf 2 (some .int), Cond.fieldLink RX2 9 "MirrorLog$RowTable" "seconds" "[I", Cond.methodLink RX2 31 yX2_has, Cond.instanceMethod yX2_has, Cond.selects RX2 yX2_has yX2_has, Cond.code yX2_has cX2_has 2 (some .boolean), Cond.methodLink RX3 46 yX2_count, Cond.instanceMethod yX2_count, Cond.selects RX2 yX2_count yX2_count]
def wsX3_row_r2 : List Cond := [Cond.code yX2_count cX2_count 1 (some .int), Cond.methodLink RX3 52 yX2_begin, Cond.instanceMethod yX2_begin, Cond.selects RX2 yX2_begin yX2_begin, Cond.code yX2_begin cX2_begin 2 none, Cond.fieldLink RX2 15 "MirrorLog$RowTable" "lengths" "[I", Cond.fieldLink RX2 18 "MirrorLog$RowTable" "groupEnds" "[Z", Cond.methodLink RX3 56 yX2_push, Cond.instanceMethod yX2_push, Cond.selects RX2 yX2_push yX2_push, Cond.code yX2_push cX2_push 4 none, Cond.fieldLink RX2 23 "MirrorLog$RowTable" "contents" "[B"]
def wsX3_row : List Cond := .code yX3_row cX3_row 4 (some .int) :: ((wsX3_row_r1 ++ wsX3_row_r2) ++ wsX30 ++ wsX20)
def wsX3_endGroup_r1 : List Cond := [Cond.fieldLink RX3 34 "MirrorLog" "shut" "Z", Cond.fieldLink RX3 22 "MirrorLog" "table" "LMirrorLog$RowTable;", Cond.fieldLink RX3 49 "MirrorLog" "known" "I", Cond.fieldLink RX3 12 "MirrorLog" "file0" "LMirrorLog$LogFile;", Cond.fieldLink RX3 16 "MirrorLog" "file1" "LMirrorLog$LogFile;", Cond.methodLink RX3 46 yX2_count, Cond.instanceMethod yX2_count, Cond.selects RX2 yX2_count yX2_count, Cond.initialized RX2, Cond.code yX2_count cX2_count 1 (some .int), Cond.fieldLink RX2 27 "MirrorLog$RowTable" "count" "I", Cond.methodLink RX3 59 yX2_bytesInFile, Cond.instanceMethod yX2_bytesInFile, Cond.selects RX2 yX2_bytesInFile yX2_bytesInFile, Cond.code yX2_bytesInFile cX2_bytesInFile 5 (some .int), Cond.methodLink RX2 40 yX2_lengthOf, Cond.instanceMethod yX2_lengthOf, Cond.selects RX2 yX2_lengthOf yX2_lengthOf, Cond.code yX2_lengthOf cX2_lengthOf 2 (some .int), Cond.fieldLink RX2 15 "MirrorLog$RowTable" "lengths" "[I", Cond.methodLink RX2 31 yX2_has, Cond.instanceMethod yX2_has, Cond.selects RX2 yX2_has yX2_has, Cond.code yX2_has cX2_has 2 (some .boolean)]
def wsX3_endGroup_r2 : List Cond := [Cond.methodLink RX2 43 yX2_endsGroup, Cond.instanceMethod yX2_endsGroup, Cond.selects RX2 yX2_endsGroup yX2_endsGroup, Cond.code yX2_endsGroup cX2_endsGroup 2 (some .boolean), Cond.fieldLink RX2 18 "MirrorLog$RowTable" "groupEnds" "[Z", Cond.methodLink RX3 63 yX1_hasRoomFor, Cond.instanceMethod yX1_hasRoomFor, Cond.selects RX1 yX1_hasRoomFor yX1_hasRoomFor, Cond.initialized RX1, Cond.code yX1_hasRoomFor cX1_hasRoomFor 2 (some .boolean), Cond.fieldLink RX1 9 "MirrorLog$LogFile" "bytes" "[B", Cond.fieldLink RX1 15 "MirrorLog$LogFile" "size" "I", Cond.methodLink RX3 67 yX0_write, Cond.static yX0_write, Cond.initialized RX0, Cond.code yX0_write cX0_write 5 none, Cond.methodLink RX0 9 yX2_count, Cond.methodLink RX0 15 yX0_writeRow, Cond.static yX0_writeRow, Cond.code yX0_writeRow cX0_writeRow 6 (some .int), Cond.methodLink RX0 21 yX1_size, Cond.instanceMethod yX1_size, Cond.selects RX1 yX1_size yX1_size, Cond.code yX1_size cX1_size 1 (some .int)]
def wsX3_endGroup_r3 : List Cond := [Cond.methodLink RX0 38 yX2_lengthOf, Cond.methodLink RX0 26 yX1_add, Cond.instanceMethod yX1_add, Cond.selects RX1 yX1_add yX1_add, Cond.code yX1_add cX1_add 2 none, Cond.methodLink RX0 42 yX2_secondOf, Cond.instanceMethod yX2_secondOf, Cond.selects RX2 yX2_secondOf yX2_secondOf, Cond.code yX2_secondOf cX2_secondOf 2 (some .int), Cond.fieldLink RX2 9 "MirrorLog$RowTable" "seconds" "[I", Cond.methodLink RX0 34 yX1_addNumber, Cond.instanceMethod yX1_addNumber, Cond.selects RX1 yX1_addNumber yX1_addNumber, Cond.code yX1_addNumber cX1_addNumber 4 none, Cond.methodLink RX1 19 yX1_add, Cond.methodLink RX0 45 yX2_contentAt, Cond.instanceMethod yX2_contentAt, Cond.selects RX2 yX2_contentAt yX2_contentAt, Cond.code yX2_contentAt cX2_contentAt 3 (some .int), Cond.fieldLink RX2 23 "MirrorLog$RowTable" "contents" "[B", Cond.methodLink RX0 30 yX1_sumOf, Cond.instanceMethod yX1_sumOf, Cond.selects RX1 yX1_sumOf yX1_sumOf, Cond.code yX1_sumOf cX1_sumOf 6 (some .int)]
def wsX3_endGroup_r4 : List Cond := [Cond.constant RX1 33 (668265263), Cond.methodLink RX1 23 yX1_get, Cond.instanceMethod yX1_get, Cond.selects RX1 yX1_get yX1_get, Cond.code yX1_get cX1_get 2 (some .int), Cond.methodLink RX1 27 yJ6_rotateLeft_7cf53, Cond.static yJ6_rotateLeft_7cf53, Cond.initialized RJ6, Cond.code yJ6_rotateLeft_7cf53 cJ6_rotateLeft_7cf53 2 (some .int), Cond.methodLink RX3 73 yX2_endGroupHere, Cond.instanceMethod yX2_endGroupHere, Cond.selects RX2 yX2_endGroupHere yX2_endGroupHere, Cond.code yX2_endGroupHere cX2_endGroupHere 1 none]
def wsX3_endGroup : List Cond := .code yX3_endGroup cX3_endGroup 2 (some .boolean) :: ((wsX3_endGroup_r1 ++ (wsX3_endGroup_r2 ++ (wsX3_endGroup_r3 ++ wsX3_endGroup_r4))) ++ wsX30 ++ wsX20 ++ wsX10)
def wsX3_isFile : List Cond := .code yX3_isFile cX3_isFile 1 (some .boolean) :: ([])
def wsX3_fileOf : List Cond := .code yX3_fileOf cX3_fileOf 2 (some (.object "MirrorLog$LogFile")) :: ([.fieldLink RX3 12 "MirrorLog" "file0" "LMirrorLog$LogFile;", .fieldLink RX3 16 "MirrorLog" "file1" "LMirrorLog$LogFile;"] ++ wsX30)
def wsX3_forgetAllButMoved : List Cond := .code yX3_forgetAllButMoved cX3_forgetAllButMoved 1 none :: ([.fieldLink RX3 22 "MirrorLog" "table" "LMirrorLog$RowTable;", .fieldLink RX3 120 "MirrorLog" "moved" "I", .fieldLink RX3 49 "MirrorLog" "known" "I", .fieldLink RX3 38 "MirrorLog" "fedCount" "I", .methodLink RX3 133 yX2_cutTo, .instanceMethod yX2_cutTo, .selects RX2 yX2_cutTo yX2_cutTo, .initialized RX2, .code yX2_cutTo cX2_cutTo 2 none, .fieldLink RX2 27 "MirrorLog$RowTable" "count" "I"] ++ wsX30 ++ wsX20)
def wsX3_crash_r1 : List Cond := [Cond.fieldLink RX3 34 "MirrorLog" "shut" "Z", Cond.methodLink RX3 76 yX3_isFile, Cond.static yX3_isFile, Cond.initialized RX3, Cond.code yX3_isFile cX3_isFile 1 (some .boolean), Cond.methodLink RX3 79 yX3_fileOf, Cond.instanceMethod yX3_fileOf, Cond.selects RX3 yX3_fileOf yX3_fileOf, Cond.code yX3_fileOf cX3_fileOf 2 (some (.object "MirrorLog$LogFile")), Cond.fieldLink RX3 12 "MirrorLog" "file0" "LMirrorLog$LogFile;", Cond.fieldLink RX3 16 "MirrorLog" "file1" "LMirrorLog$LogFile;", Cond.methodLink RX3 83 yX1_size, Cond.instanceMethod yX1_size, Cond.selects RX1 yX1_size yX1_size, Cond.initialized RX1, Cond.code yX1_size cX1_size 1 (some .int), Cond.fieldLink RX1 15 "MirrorLog$LogFile" "size" "I", Cond.methodLink RX3 86 yX1_cutTo, Cond.instanceMethod yX1_cutTo, Cond.selects RX1 yX1_cutTo yX1_cutTo, Cond.code yX1_cutTo cX1_cutTo 2 none, Cond.methodLink RX3 89 yX3_forgetAllButMoved, Cond.instanceMethod yX3_forgetAllButMoved, Cond.selects RX3 yX3_forgetAllButMoved yX3_forgetAllButMoved]
def wsX3_crash_r2 : List Cond := [Cond.code yX3_forgetAllButMoved cX3_forgetAllButMoved 1 none, Cond.fieldLink RX3 22 "MirrorLog" "table" "LMirrorLog$RowTable;", Cond.fieldLink RX3 120 "MirrorLog" "moved" "I", Cond.fieldLink RX3 49 "MirrorLog" "known" "I", Cond.fieldLink RX3 38 "MirrorLog" "fedCount" "I", Cond.methodLink RX3 133 yX2_cutTo, Cond.instanceMethod yX2_cutTo, Cond.selects RX2 yX2_cutTo yX2_cutTo, Cond.initialized RX2, Cond.code yX2_cutTo cX2_cutTo 2 none, Cond.fieldLink RX2 27 "MirrorLog$RowTable" "count" "I"]
def wsX3_crash : List Cond := .code yX3_crash cX3_crash 3 (some .boolean) :: ((wsX3_crash_r1 ++ wsX3_crash_r2) ++ wsX30 ++ wsX10 ++ wsX20)
def wsX3_takeGroup_r1 : List Cond := [Cond.fieldLink RX3 22 "MirrorLog" "table" "LMirrorLog$RowTable;", Cond.fieldLink RX3 92 "MirrorLog" "repairedGroups" "I", Cond.methodLink RX3 138 yX0_endOfGood, Cond.static yX0_endOfGood, Cond.initialized RX0, Cond.code yX0_endOfGood cX0_endOfGood 6 (some .int), Cond.methodLink RX0 49 yX2_lastSecond, Cond.instanceMethod yX2_lastSecond, Cond.selects RX2 yX2_lastSecond yX2_lastSecond, Cond.initialized RX2, Cond.code yX2_lastSecond cX2_lastSecond 1 (some .int), Cond.fieldLink RX2 27 "MirrorLog$RowTable" "count" "I", Cond.methodLink RX2 35 yX2_secondOf, Cond.instanceMethod yX2_secondOf, Cond.selects RX2 yX2_secondOf yX2_secondOf, Cond.code yX2_secondOf cX2_secondOf 2 (some .int), Cond.fieldLink RX2 9 "MirrorLog$RowTable" "seconds" "[I", Cond.methodLink RX2 31 yX2_has, Cond.instanceMethod yX2_has, Cond.selects RX2 yX2_has yX2_has, Cond.code yX2_has cX2_has 2 (some .boolean), Cond.methodLink RX0 52 yX1_get, Cond.instanceMethod yX1_get, Cond.selects RX1 yX1_get yX1_get]
def wsX3_takeGroup_r2 : List Cond := [Cond.initialized RX1, Cond.code yX1_get cX1_get 2 (some .int), Cond.fieldLink RX1 15 "MirrorLog$LogFile" "size" "I", Cond.fieldLink RX1 9 "MirrorLog$LogFile" "bytes" "[B", Cond.methodLink RX0 9 yX2_count, Cond.instanceMethod yX2_count, Cond.selects RX2 yX2_count yX2_count, Cond.code yX2_count cX2_count 1 (some .int), Cond.methodLink RX0 55 yX0_isRowGood, Cond.static yX0_isRowGood, Cond.code yX0_isRowGood cX0_isRowGood 8 (some .boolean), Cond.constant RX0 66 (1000000000), Cond.methodLink RX0 21 yX1_size, Cond.instanceMethod yX1_size, Cond.selects RX1 yX1_size yX1_size, Cond.code yX1_size cX1_size 1 (some .int), Cond.methodLink RX0 59 yX1_number, Cond.instanceMethod yX1_number, Cond.selects RX1 yX1_number yX1_number, Cond.code yX1_number cX1_number 5 (some .int), Cond.methodLink RX1 23 yX1_get, Cond.methodLink RX0 30 yX1_sumOf, Cond.instanceMethod yX1_sumOf, Cond.selects RX1 yX1_sumOf yX1_sumOf]
def wsX3_takeGroup_r3 : List Cond := [Cond.code yX1_sumOf cX1_sumOf 6 (some .int), Cond.constant RX1 33 (668265263), Cond.methodLink RX1 27 yJ6_rotateLeft_7cf53, Cond.static yJ6_rotateLeft_7cf53, Cond.initialized RJ6, Cond.code yJ6_rotateLeft_7cf53 cJ6_rotateLeft_7cf53 2 (some .int), Cond.methodLink RX0 62 yX0_isEndGood, Cond.static yX0_isEndGood, Cond.code yX0_isEndGood cX0_isEndGood 4 (some .boolean), Cond.methodLink RX3 142 yX0_read, Cond.static yX0_read, Cond.code yX0_read cX0_read 10 none, Cond.methodLink RX0 67 yX2_begin, Cond.instanceMethod yX2_begin, Cond.selects RX2 yX2_begin yX2_begin, Cond.code yX2_begin cX2_begin 2 none, Cond.fieldLink RX2 15 "MirrorLog$RowTable" "lengths" "[I", Cond.fieldLink RX2 18 "MirrorLog$RowTable" "groupEnds" "[Z", Cond.methodLink RX0 70 yX2_push, Cond.instanceMethod yX2_push, Cond.selects RX2 yX2_push yX2_push, Cond.code yX2_push cX2_push 4 none, Cond.fieldLink RX2 23 "MirrorLog$RowTable" "contents" "[B", Cond.methodLink RX0 73 yX2_endGroupHere]
def wsX3_takeGroup_r4 : List Cond := [Cond.instanceMethod yX2_endGroupHere, Cond.selects RX2 yX2_endGroupHere yX2_endGroupHere, Cond.code yX2_endGroupHere cX2_endGroupHere 1 none, Cond.methodLink RX3 129 yX1_agrees, Cond.instanceMethod yX1_agrees, Cond.selects RX1 yX1_agrees yX1_agrees, Cond.code yX1_agrees cX1_agrees 5 (some .boolean), Cond.methodLink RX3 146 yX1_copyFrom, Cond.instanceMethod yX1_copyFrom, Cond.selects RX1 yX1_copyFrom yX1_copyFrom, Cond.code yX1_copyFrom cX1_copyFrom 5 none, Cond.methodLink RX1 19 yX1_add, Cond.instanceMethod yX1_add, Cond.selects RX1 yX1_add yX1_add, Cond.code yX1_add cX1_add 2 none]
def wsX3_takeGroup : List Cond := .code yX3_takeGroup cX3_takeGroup 5 (some .int) :: ((wsX3_takeGroup_r1 ++ (wsX3_takeGroup_r2 ++ (wsX3_takeGroup_r3 ++ wsX3_takeGroup_r4))) ++ wsX30 ++ wsX20 ++ wsX10)
def wsX3_takeGoodGroups_r1 : List Cond := [Cond.fieldLink RX3 12 "MirrorLog" "file0" "LMirrorLog$LogFile;", Cond.fieldLink RX3 16 "MirrorLog" "file1" "LMirrorLog$LogFile;", Cond.methodLink RX3 134 yX3_takeGroup, Cond.instanceMethod yX3_takeGroup, Cond.selects RX3 yX3_takeGroup yX3_takeGroup, Cond.initialized RX3, Cond.code yX3_takeGroup cX3_takeGroup 5 (some .int), Cond.fieldLink RX3 22 "MirrorLog" "table" "LMirrorLog$RowTable;", Cond.fieldLink RX3 92 "MirrorLog" "repairedGroups" "I", Cond.methodLink RX3 138 yX0_endOfGood, Cond.static yX0_endOfGood, Cond.initialized RX0, Cond.code yX0_endOfGood cX0_endOfGood 6 (some .int), Cond.methodLink RX0 49 yX2_lastSecond, Cond.instanceMethod yX2_lastSecond, Cond.selects RX2 yX2_lastSecond yX2_lastSecond, Cond.initialized RX2, Cond.code yX2_lastSecond cX2_lastSecond 1 (some .int), Cond.fieldLink RX2 27 "MirrorLog$RowTable" "count" "I", Cond.methodLink RX2 35 yX2_secondOf, Cond.instanceMethod yX2_secondOf, Cond.selects RX2 yX2_secondOf yX2_secondOf, Cond.code yX2_secondOf cX2_secondOf 2 (some .int), Cond.fieldLink RX2 9 "MirrorLog$RowTable" "seconds" "[I"]
def wsX3_takeGoodGroups_r2 : List Cond := [Cond.methodLink RX2 31 yX2_has, Cond.instanceMethod yX2_has, Cond.selects RX2 yX2_has yX2_has, Cond.code yX2_has cX2_has 2 (some .boolean), Cond.methodLink RX0 52 yX1_get, Cond.instanceMethod yX1_get, Cond.selects RX1 yX1_get yX1_get, Cond.initialized RX1, Cond.code yX1_get cX1_get 2 (some .int), Cond.fieldLink RX1 15 "MirrorLog$LogFile" "size" "I", Cond.fieldLink RX1 9 "MirrorLog$LogFile" "bytes" "[B", Cond.methodLink RX0 9 yX2_count, Cond.instanceMethod yX2_count, Cond.selects RX2 yX2_count yX2_count, Cond.code yX2_count cX2_count 1 (some .int), Cond.methodLink RX0 55 yX0_isRowGood, Cond.static yX0_isRowGood, Cond.code yX0_isRowGood cX0_isRowGood 8 (some .boolean), Cond.constant RX0 66 (1000000000), Cond.methodLink RX0 21 yX1_size, Cond.instanceMethod yX1_size, Cond.selects RX1 yX1_size yX1_size, Cond.code yX1_size cX1_size 1 (some .int), Cond.methodLink RX0 59 yX1_number]
def wsX3_takeGoodGroups_r3 : List Cond := [Cond.instanceMethod yX1_number, Cond.selects RX1 yX1_number yX1_number, Cond.code yX1_number cX1_number 5 (some .int), Cond.methodLink RX1 23 yX1_get, Cond.methodLink RX0 30 yX1_sumOf, Cond.instanceMethod yX1_sumOf, Cond.selects RX1 yX1_sumOf yX1_sumOf, Cond.code yX1_sumOf cX1_sumOf 6 (some .int), Cond.constant RX1 33 (668265263), Cond.methodLink RX1 27 yJ6_rotateLeft_7cf53, Cond.static yJ6_rotateLeft_7cf53, Cond.initialized RJ6, Cond.code yJ6_rotateLeft_7cf53 cJ6_rotateLeft_7cf53 2 (some .int), Cond.methodLink RX0 62 yX0_isEndGood, Cond.static yX0_isEndGood, Cond.code yX0_isEndGood cX0_isEndGood 4 (some .boolean), Cond.methodLink RX3 142 yX0_read, Cond.static yX0_read, Cond.code yX0_read cX0_read 10 none, Cond.methodLink RX0 67 yX2_begin, Cond.instanceMethod yX2_begin, Cond.selects RX2 yX2_begin yX2_begin, Cond.code yX2_begin cX2_begin 2 none, Cond.fieldLink RX2 15 "MirrorLog$RowTable" "lengths" "[I"]
def wsX3_takeGoodGroups_r4 : List Cond := [Cond.fieldLink RX2 18 "MirrorLog$RowTable" "groupEnds" "[Z", Cond.methodLink RX0 70 yX2_push, Cond.instanceMethod yX2_push, Cond.selects RX2 yX2_push yX2_push, Cond.code yX2_push cX2_push 4 none, Cond.fieldLink RX2 23 "MirrorLog$RowTable" "contents" "[B", Cond.methodLink RX0 73 yX2_endGroupHere, Cond.instanceMethod yX2_endGroupHere, Cond.selects RX2 yX2_endGroupHere yX2_endGroupHere, Cond.code yX2_endGroupHere cX2_endGroupHere 1 none, Cond.methodLink RX3 129 yX1_agrees, Cond.instanceMethod yX1_agrees, Cond.selects RX1 yX1_agrees yX1_agrees, Cond.code yX1_agrees cX1_agrees 5 (some .boolean), Cond.methodLink RX3 146 yX1_copyFrom, Cond.instanceMethod yX1_copyFrom, Cond.selects RX1 yX1_copyFrom yX1_copyFrom, Cond.code yX1_copyFrom cX1_copyFrom 5 none, Cond.methodLink RX1 19 yX1_add, Cond.instanceMethod yX1_add, Cond.selects RX1 yX1_add yX1_add, Cond.code yX1_add cX1_add 2 none]
def wsX3_takeGoodGroups : List Cond := .code yX3_takeGoodGroups cX3_takeGoodGroups 4 (some .int) :: ((wsX3_takeGoodGroups_r1 ++ (wsX3_takeGoodGroups_r2 ++ (wsX3_takeGoodGroups_r3 ++ wsX3_takeGoodGroups_r4))) ++ wsX30 ++ wsX20 ++ wsX10)
def wsX3_reopen_r1 : List Cond := [Cond.fieldLink RX3 34 "MirrorLog" "shut" "Z", Cond.fieldLink RX3 92 "MirrorLog" "repairedGroups" "I", Cond.fieldLink RX3 12 "MirrorLog" "file0" "LMirrorLog$LogFile;", Cond.fieldLink RX3 16 "MirrorLog" "file1" "LMirrorLog$LogFile;", Cond.fieldLink RX3 30 "MirrorLog" "badPlace" "I", Cond.fieldLink RX3 22 "MirrorLog" "table" "LMirrorLog$RowTable;", Cond.fieldLink RX3 49 "MirrorLog" "known" "I", Cond.methodLink RX3 89 yX3_forgetAllButMoved, Cond.instanceMethod yX3_forgetAllButMoved, Cond.selects RX3 yX3_forgetAllButMoved yX3_forgetAllButMoved, Cond.initialized RX3, Cond.code yX3_forgetAllButMoved cX3_forgetAllButMoved 1 none, Cond.fieldLink RX3 120 "MirrorLog" "moved" "I", Cond.fieldLink RX3 38 "MirrorLog" "fedCount" "I", Cond.methodLink RX3 133 yX2_cutTo, Cond.instanceMethod yX2_cutTo, Cond.selects RX2 yX2_cutTo yX2_cutTo, Cond.initialized RX2, Cond.code yX2_cutTo cX2_cutTo 2 none, Cond.fieldLink RX2 27 "MirrorLog$RowTable" "count" "I", Cond.methodLink RX3 95 yX3_takeGoodGroups, Cond.instanceMethod yX3_takeGoodGroups, Cond.selects RX3 yX3_takeGoodGroups yX3_takeGoodGroups, Cond.code yX3_takeGoodGroups cX3_takeGoodGroups 4 (some .int)]
def wsX3_reopen_r2 : List Cond := [Cond.methodLink RX3 134 yX3_takeGroup, Cond.instanceMethod yX3_takeGroup, Cond.selects RX3 yX3_takeGroup yX3_takeGroup, Cond.code yX3_takeGroup cX3_takeGroup 5 (some .int), Cond.methodLink RX3 138 yX0_endOfGood, Cond.static yX0_endOfGood, Cond.initialized RX0, Cond.code yX0_endOfGood cX0_endOfGood 6 (some .int), Cond.methodLink RX0 49 yX2_lastSecond, Cond.instanceMethod yX2_lastSecond, Cond.selects RX2 yX2_lastSecond yX2_lastSecond, Cond.code yX2_lastSecond cX2_lastSecond 1 (some .int), Cond.methodLink RX2 35 yX2_secondOf, Cond.instanceMethod yX2_secondOf, Cond.selects RX2 yX2_secondOf yX2_secondOf, Cond.code yX2_secondOf cX2_secondOf 2 (some .int), Cond.fieldLink RX2 9 "MirrorLog$RowTable" "seconds" "[I", Cond.methodLink RX2 31 yX2_has, Cond.instanceMethod yX2_has, Cond.selects RX2 yX2_has yX2_has, Cond.code yX2_has cX2_has 2 (some .boolean), Cond.methodLink RX0 52 yX1_get, Cond.instanceMethod yX1_get, Cond.selects RX1 yX1_get yX1_get]
def wsX3_reopen_r3 : List Cond := [Cond.initialized RX1, Cond.code yX1_get cX1_get 2 (some .int), Cond.fieldLink RX1 15 "MirrorLog$LogFile" "size" "I", Cond.fieldLink RX1 9 "MirrorLog$LogFile" "bytes" "[B", Cond.methodLink RX0 9 yX2_count, Cond.instanceMethod yX2_count, Cond.selects RX2 yX2_count yX2_count, Cond.code yX2_count cX2_count 1 (some .int), Cond.methodLink RX0 55 yX0_isRowGood, Cond.static yX0_isRowGood, Cond.code yX0_isRowGood cX0_isRowGood 8 (some .boolean), Cond.constant RX0 66 (1000000000), Cond.methodLink RX0 21 yX1_size, Cond.instanceMethod yX1_size, Cond.selects RX1 yX1_size yX1_size, Cond.code yX1_size cX1_size 1 (some .int), Cond.methodLink RX0 59 yX1_number, Cond.instanceMethod yX1_number, Cond.selects RX1 yX1_number yX1_number, Cond.code yX1_number cX1_number 5 (some .int), Cond.methodLink RX1 23 yX1_get, Cond.methodLink RX0 30 yX1_sumOf, Cond.instanceMethod yX1_sumOf, Cond.selects RX1 yX1_sumOf yX1_sumOf]
def wsX3_reopen_r4 : List Cond := [Cond.code yX1_sumOf cX1_sumOf 6 (some .int), Cond.constant RX1 33 (668265263), Cond.methodLink RX1 27 yJ6_rotateLeft_7cf53, Cond.static yJ6_rotateLeft_7cf53, Cond.initialized RJ6, Cond.code yJ6_rotateLeft_7cf53 cJ6_rotateLeft_7cf53 2 (some .int), Cond.methodLink RX0 62 yX0_isEndGood, Cond.static yX0_isEndGood, Cond.code yX0_isEndGood cX0_isEndGood 4 (some .boolean), Cond.methodLink RX3 142 yX0_read, Cond.static yX0_read, Cond.code yX0_read cX0_read 10 none, Cond.methodLink RX0 67 yX2_begin, Cond.instanceMethod yX2_begin, Cond.selects RX2 yX2_begin yX2_begin, Cond.code yX2_begin cX2_begin 2 none, Cond.fieldLink RX2 15 "MirrorLog$RowTable" "lengths" "[I", Cond.fieldLink RX2 18 "MirrorLog$RowTable" "groupEnds" "[Z", Cond.methodLink RX0 70 yX2_push, Cond.instanceMethod yX2_push, Cond.selects RX2 yX2_push yX2_push, Cond.code yX2_push cX2_push 4 none, Cond.fieldLink RX2 23 "MirrorLog$RowTable" "contents" "[B", Cond.methodLink RX0 73 yX2_endGroupHere]
def wsX3_reopen_r5 : List Cond := [Cond.instanceMethod yX2_endGroupHere, Cond.selects RX2 yX2_endGroupHere yX2_endGroupHere, Cond.code yX2_endGroupHere cX2_endGroupHere 1 none, Cond.methodLink RX3 129 yX1_agrees, Cond.instanceMethod yX1_agrees, Cond.selects RX1 yX1_agrees yX1_agrees, Cond.code yX1_agrees cX1_agrees 5 (some .boolean), Cond.methodLink RX3 146 yX1_copyFrom, Cond.instanceMethod yX1_copyFrom, Cond.selects RX1 yX1_copyFrom yX1_copyFrom, Cond.code yX1_copyFrom cX1_copyFrom 5 none, Cond.methodLink RX1 19 yX1_add, Cond.instanceMethod yX1_add, Cond.selects RX1 yX1_add yX1_add, Cond.code yX1_add cX1_add 2 none, Cond.methodLink RX3 83 yX1_size, Cond.methodLink RX3 86 yX1_cutTo, Cond.instanceMethod yX1_cutTo, Cond.selects RX1 yX1_cutTo yX1_cutTo, Cond.code yX1_cutTo cX1_cutTo 2 none, Cond.methodLink RX3 46 yX2_count]
def wsX3_reopen : List Cond := .code yX3_reopen cX3_reopen 2 (some .int) :: ((wsX3_reopen_r1 ++ (wsX3_reopen_r2 ++ (wsX3_reopen_r3 ++ (wsX3_reopen_r4 ++ wsX3_reopen_r5)))) ++ wsX30 ++ wsX20 ++ wsX10)
def wsX3_byteAt : List Cond := .code yX3_byteAt cX3_byteAt 3 (some .int) :: ([.fieldLink RX3 49 "MirrorLog" "known" "I", .classLink RX3 98 RJx00060, .instantiable RJx00060 6, .initialized RJx00060, .fieldLink RX3 22 "MirrorLog" "table" "LMirrorLog$RowTable;", .methodLink RX3 105 yX2_contentAt, .instanceMethod yX2_contentAt, .selects RX2 yX2_contentAt yX2_contentAt, .initialized RX2, .code yX2_contentAt cX2_contentAt 3 (some .int), .fieldLink RX2 23 "MirrorLog$RowTable" "contents" "[B", .methodLink RX2 40 yX2_lengthOf, .instanceMethod yX2_lengthOf, .selects RX2 yX2_lengthOf yX2_lengthOf, .code yX2_lengthOf cX2_lengthOf 2 (some .int), .fieldLink RX2 15 "MirrorLog$RowTable" "lengths" "[I", .methodLink RX2 31 yX2_has, .instanceMethod yX2_has, .selects RX2 yX2_has yX2_has, .code yX2_has cX2_has 2 (some .boolean), .fieldLink RX2 27 "MirrorLog$RowTable" "count" "I"] ++ wsX30 ++ wsJx000600 ++ wsX20)
def wsX3_poke : List Cond := .code yX3_poke cX3_poke 4 (some .boolean) :: ([.methodLink RX3 76 yX3_isFile, .static yX3_isFile, .initialized RX3, .code yX3_isFile cX3_isFile 1 (some .boolean), .methodLink RX3 79 yX3_fileOf, .instanceMethod yX3_fileOf, .selects RX3 yX3_fileOf yX3_fileOf, .code yX3_fileOf cX3_fileOf 2 (some (.object "MirrorLog$LogFile")), .fieldLink RX3 12 "MirrorLog" "file0" "LMirrorLog$LogFile;", .fieldLink RX3 16 "MirrorLog" "file1" "LMirrorLog$LogFile;", .methodLink RX3 83 yX1_size, .instanceMethod yX1_size, .selects RX1 yX1_size yX1_size, .initialized RX1, .code yX1_size cX1_size 1 (some .int), .fieldLink RX1 15 "MirrorLog$LogFile" "size" "I", .methodLink RX3 108 yX1_alter, .instanceMethod yX1_alter, .selects RX1 yX1_alter yX1_alter, .code yX1_alter cX1_alter 3 none, .fieldLink RX1 9 "MirrorLog$LogFile" "bytes" "[B"] ++ wsX30 ++ wsX10)
def wsX3_repaired : List Cond := .code yX3_repaired cX3_repaired 1 (some .int) :: ([.fieldLink RX3 92 "MirrorLog" "repairedGroups" "I"] ++ wsX30)
def wsX3_badAt : List Cond := .code yX3_badAt cX3_badAt 1 (some .int) :: ([.fieldLink RX3 30 "MirrorLog" "badPlace" "I"] ++ wsX30)
def wsX3_same : List Cond := .code yX3_same cX3_same 1 (some .boolean) :: ([.fieldLink RX3 12 "MirrorLog" "file0" "LMirrorLog$LogFile;", .fieldLink RX3 16 "MirrorLog" "file1" "LMirrorLog$LogFile;", .methodLink RX3 83 yX1_size, .instanceMethod yX1_size, .selects RX1 yX1_size yX1_size, .initialized RX1, .code yX1_size cX1_size 1 (some .int), .fieldLink RX1 15 "MirrorLog$LogFile" "size" "I", .methodLink RX3 129 yX1_agrees, .instanceMethod yX1_agrees, .selects RX1 yX1_agrees yX1_agrees, .code yX1_agrees cX1_agrees 5 (some .boolean), .methodLink RX1 23 yX1_get, .instanceMethod yX1_get, .selects RX1 yX1_get yX1_get, .code yX1_get cX1_get 2 (some .int), .fieldLink RX1 9 "MirrorLog$LogFile" "bytes" "[B"] ++ wsX30 ++ wsX10)
def wsX3_endOfGroupsUpTo : List Cond := .code yX3_endOfGroupsUpTo cX3_endOfGroupsUpTo 4 (some .int) :: ([.fieldLink RX3 120 "MirrorLog" "moved" "I", .fieldLink RX3 49 "MirrorLog" "known" "I", .fieldLink RX3 22 "MirrorLog" "table" "LMirrorLog$RowTable;", .methodLink RX3 126 yX2_monthOf, .instanceMethod yX2_monthOf, .selects RX2 yX2_monthOf yX2_monthOf, .initialized RX2, .code yX2_monthOf cX2_monthOf 2 (some .int), .constant RX2 39 (2592000), .methodLink RX2 35 yX2_secondOf, .instanceMethod yX2_secondOf, .selects RX2 yX2_secondOf yX2_secondOf, .code yX2_secondOf cX2_secondOf 2 (some .int), .fieldLink RX2 9 "MirrorLog$RowTable" "seconds" "[I", .methodLink RX2 31 yX2_has, .instanceMethod yX2_has, .selects RX2 yX2_has yX2_has, .code yX2_has cX2_has 2 (some .boolean), .fieldLink RX2 27 "MirrorLog$RowTable" "count" "I", .methodLink RX3 150 yX2_endsGroup, .instanceMethod yX2_endsGroup, .selects RX2 yX2_endsGroup yX2_endsGroup, .code yX2_endsGroup cX2_endsGroup 2 (some .boolean), .fieldLink RX2 18 "MirrorLog$RowTable" "groupEnds" "[Z"] ++ wsX30 ++ wsX20)
def wsX3_move_r1 : List Cond := [Cond.fieldLink RX3 34 "MirrorLog" "shut" "Z", Cond.fieldLink RX3 22 "MirrorLog" "table" "LMirrorLog$RowTable;", Cond.fieldLink RX3 49 "MirrorLog" "known" "I", Cond.fieldLink RX3 120 "MirrorLog" "moved" "I", Cond.fieldLink RX3 12 "MirrorLog" "file0" "LMirrorLog$LogFile;", Cond.fieldLink RX3 16 "MirrorLog" "file1" "LMirrorLog$LogFile;", Cond.methodLink RX3 46 yX2_count, Cond.instanceMethod yX2_count, Cond.selects RX2 yX2_count yX2_count, Cond.initialized RX2, Cond.code yX2_count cX2_count 1 (some .int), Cond.fieldLink RX2 27 "MirrorLog$RowTable" "count" "I", Cond.methodLink RX3 112 yX3_same, Cond.instanceMethod yX3_same, Cond.selects RX3 yX3_same yX3_same, Cond.initialized RX3, Cond.code yX3_same cX3_same 1 (some .boolean), Cond.methodLink RX3 83 yX1_size, Cond.instanceMethod yX1_size, Cond.selects RX1 yX1_size yX1_size, Cond.initialized RX1, Cond.code yX1_size cX1_size 1 (some .int), Cond.fieldLink RX1 15 "MirrorLog$LogFile" "size" "I", Cond.methodLink RX3 129 yX1_agrees]
def wsX3_move_r2 : List Cond := [Cond.instanceMethod yX1_agrees, Cond.selects RX1 yX1_agrees yX1_agrees, Cond.code yX1_agrees cX1_agrees 5 (some .boolean), Cond.methodLink RX1 23 yX1_get, Cond.instanceMethod yX1_get, Cond.selects RX1 yX1_get yX1_get, Cond.code yX1_get cX1_get 2 (some .int), Cond.fieldLink RX1 9 "MirrorLog$LogFile" "bytes" "[B", Cond.methodLink RX3 116 yX3_endOfGroupsUpTo, Cond.instanceMethod yX3_endOfGroupsUpTo, Cond.selects RX3 yX3_endOfGroupsUpTo yX3_endOfGroupsUpTo, Cond.code yX3_endOfGroupsUpTo cX3_endOfGroupsUpTo 4 (some .int), Cond.methodLink RX3 126 yX2_monthOf, Cond.instanceMethod yX2_monthOf, Cond.selects RX2 yX2_monthOf yX2_monthOf, Cond.code yX2_monthOf cX2_monthOf 2 (some .int), Cond.constant RX2 39 (2592000), Cond.methodLink RX2 35 yX2_secondOf, Cond.instanceMethod yX2_secondOf, Cond.selects RX2 yX2_secondOf yX2_secondOf, Cond.code yX2_secondOf cX2_secondOf 2 (some .int), Cond.fieldLink RX2 9 "MirrorLog$RowTable" "seconds" "[I", Cond.methodLink RX2 31 yX2_has, Cond.instanceMethod yX2_has]
def wsX3_move_r3 : List Cond := [Cond.selects RX2 yX2_has yX2_has, Cond.code yX2_has cX2_has 2 (some .boolean), Cond.methodLink RX3 150 yX2_endsGroup, Cond.instanceMethod yX2_endsGroup, Cond.selects RX2 yX2_endsGroup yX2_endsGroup, Cond.code yX2_endsGroup cX2_endsGroup 2 (some .boolean), Cond.fieldLink RX2 18 "MirrorLog$RowTable" "groupEnds" "[Z", Cond.methodLink RX3 59 yX2_bytesInFile, Cond.instanceMethod yX2_bytesInFile, Cond.selects RX2 yX2_bytesInFile yX2_bytesInFile, Cond.code yX2_bytesInFile cX2_bytesInFile 5 (some .int), Cond.methodLink RX2 40 yX2_lengthOf, Cond.instanceMethod yX2_lengthOf, Cond.selects RX2 yX2_lengthOf yX2_lengthOf, Cond.code yX2_lengthOf cX2_lengthOf 2 (some .int), Cond.fieldLink RX2 15 "MirrorLog$RowTable" "lengths" "[I", Cond.methodLink RX2 43 yX2_endsGroup, Cond.methodLink RX3 123 yX1_dropFirst, Cond.instanceMethod yX1_dropFirst, Cond.selects RX1 yX1_dropFirst yX1_dropFirst, Cond.code yX1_dropFirst cX1_dropFirst 2 none, Cond.methodLink RX1 34 arraycopyName, Cond.native arraycopyName, Cond.static arraycopyName]
def wsX3_move_r4 : List Cond := [Cond.initialized "java/lang/System"]
def wsX3_move : List Cond := .code yX3_move cX3_move 4 (some .boolean) :: ((wsX3_move_r1 ++ (wsX3_move_r2 ++ (wsX3_move_r3 ++ wsX3_move_r4))) ++ wsX30 ++ wsX20 ++ wsX10)
def wsX3_rows : List Cond := .code yX3_rows cX3_rows 4 (some .int) :: ([.fieldLink RX3 49 "MirrorLog" "known" "I", .fieldLink RX3 22 "MirrorLog" "table" "LMirrorLog$RowTable;", .methodLink RX3 126 yX2_monthOf, .instanceMethod yX2_monthOf, .selects RX2 yX2_monthOf yX2_monthOf, .initialized RX2, .code yX2_monthOf cX2_monthOf 2 (some .int), .constant RX2 39 (2592000), .methodLink RX2 35 yX2_secondOf, .instanceMethod yX2_secondOf, .selects RX2 yX2_secondOf yX2_secondOf, .code yX2_secondOf cX2_secondOf 2 (some .int), .fieldLink RX2 9 "MirrorLog$RowTable" "seconds" "[I", .methodLink RX2 31 yX2_has, .instanceMethod yX2_has, .selects RX2 yX2_has yX2_has, .code yX2_has cX2_has 2 (some .boolean), .fieldLink RX2 27 "MirrorLog$RowTable" "count" "I"] ++ wsX30 ++ wsX20)
def wsX4_init : List Cond := .code yX4_init cX4_init 1 none :: ([.methodLink RX4 1 objectInit, .instanceMethod objectInit, .code objectInit ⟨#[0xb1]⟩ 1 none, .arrayClass .int, .fieldLink RX4 9 "MirrorLogModel" "bytes" "[I", .fieldLink RX4 13 "MirrorLogModel" "sizes" "[I", .fieldLink RX4 16 "MirrorLogModel" "seconds" "[I", .fieldLink RX4 19 "MirrorLogModel" "lengths" "[I", .constant RX4 22 (38400), .fieldLink RX4 23 "MirrorLogModel" "contents" "[I", .fieldLink RX4 26 "MirrorLogModel" "groupRows" "[I", .fieldLink RX4 29 "MirrorLogModel" "groupBytes" "[I", .fieldLink RX4 32 "MirrorLogModel" "newSeconds" "[I", .fieldLink RX4 35 "MirrorLogModel" "newLengths" "[I", .fieldLink RX4 38 "MirrorLogModel" "newContents" "[I", .fieldLink RX4 41 "MirrorLogModel" "fed" "[I", .fieldLink RX4 44 "MirrorLogModel" "badAt" "I"] ++ wsX40)
def wsX4_thrown : List Cond := .code yX4_thrown cX4_thrown 1 (some .int) :: ([.fieldLink RX4 48 "MirrorLogModel" "thrown" "I"] ++ wsX40)
def wsX4_summed : List Cond := .code yX4_summed cX4_summed 3 (some .int) :: ([.constant RX4 51 (668265263)])
def wsX4_feed : List Cond := .code yX4_feed cX4_feed 2 (some .boolean) :: ([.fieldLink RX4 48 "MirrorLogModel" "thrown" "I", .fieldLink RX4 52 "MirrorLogModel" "shut" "Z", .fieldLink RX4 56 "MirrorLogModel" "feeding" "I", .fieldLink RX4 41 "MirrorLogModel" "fed" "[I"] ++ wsX40)
def wsX4_lastSecond : List Cond := .code yX4_lastSecond cX4_lastSecond 1 (some .int) :: ([.fieldLink RX4 59 "MirrorLogModel" "newRows" "I", .fieldLink RX4 32 "MirrorLogModel" "newSeconds" "[I", .fieldLink RX4 62 "MirrorLogModel" "known" "I", .fieldLink RX4 16 "MirrorLogModel" "seconds" "[I"] ++ wsX40)
def wsX4_row : List Cond := .code yX4_row cX4_row 3 (some .int) :: ([.fieldLink RX4 48 "MirrorLogModel" "thrown" "I", .fieldLink RX4 52 "MirrorLogModel" "shut" "Z", .fieldLink RX4 56 "MirrorLogModel" "feeding" "I", .constant RX4 65 (1000000000), .fieldLink RX4 59 "MirrorLogModel" "newRows" "I", .fieldLink RX4 62 "MirrorLogModel" "known" "I", .fieldLink RX4 32 "MirrorLogModel" "newSeconds" "[I", .fieldLink RX4 35 "MirrorLogModel" "newLengths" "[I", .fieldLink RX4 38 "MirrorLogModel" "newContents" "[I", .fieldLink RX4 41 "MirrorLogModel" "fed" "[I", .methodLink RX4 66 yX4_lastSecond, .instanceMethod yX4_lastSecond, .selects RX4 yX4_lastSecond yX4_lastSecond, .initialized RX4, .code yX4_lastSecond cX4_lastSecond 1 (some .int), .fieldLink RX4 16 "MirrorLogModel" "seconds" "[I"] ++ wsX40)
def wsX4_write : List Cond := .code yX4_write cX4_write 3 (some .int) :: ([.fieldLink RX4 9 "MirrorLogModel" "bytes" "[I", .fieldLink RX4 70 "MirrorLogModel" "at" "I", .methodLink RX4 73 yX4_summed, .static yX4_summed, .initialized RX4, .code yX4_summed cX4_summed 3 (some .int), .constant RX4 51 (668265263)] ++ wsX40)
def wsX4_four : List Cond := .code yX4_four cX4_four 4 none :: ([.methodLink RX4 77 yX4_write, .instanceMethod yX4_write, .selects RX4 yX4_write yX4_write, .initialized RX4, .code yX4_write cX4_write 3 (some .int), .fieldLink RX4 9 "MirrorLogModel" "bytes" "[I", .fieldLink RX4 70 "MirrorLogModel" "at" "I", .methodLink RX4 73 yX4_summed, .static yX4_summed, .code yX4_summed cX4_summed 3 (some .int), .constant RX4 51 (668265263)] ++ wsX40)
def wsX4_endGroup_r1 : List Cond := [Cond.fieldLink RX4 48 "MirrorLogModel" "thrown" "I", Cond.fieldLink RX4 59 "MirrorLogModel" "newRows" "I", Cond.fieldLink RX4 35 "MirrorLogModel" "newLengths" "[I", Cond.fieldLink RX4 52 "MirrorLogModel" "shut" "Z", Cond.fieldLink RX4 13 "MirrorLogModel" "sizes" "[I", Cond.fieldLink RX4 70 "MirrorLogModel" "at" "I", Cond.fieldLink RX4 32 "MirrorLogModel" "newSeconds" "[I", Cond.fieldLink RX4 38 "MirrorLogModel" "newContents" "[I", Cond.fieldLink RX4 23 "MirrorLogModel" "contents" "[I", Cond.fieldLink RX4 62 "MirrorLogModel" "known" "I", Cond.fieldLink RX4 16 "MirrorLogModel" "seconds" "[I", Cond.fieldLink RX4 19 "MirrorLogModel" "lengths" "[I", Cond.fieldLink RX4 26 "MirrorLogModel" "groupRows" "[I", Cond.fieldLink RX4 84 "MirrorLogModel" "groups" "I", Cond.fieldLink RX4 29 "MirrorLogModel" "groupBytes" "[I", Cond.methodLink RX4 77 yX4_write, Cond.instanceMethod yX4_write, Cond.selects RX4 yX4_write yX4_write, Cond.initialized RX4, Cond.code yX4_write cX4_write 3 (some .int), Cond.fieldLink RX4 9 "MirrorLogModel" "bytes" "[I", Cond.methodLink RX4 73 yX4_summed, Cond.static yX4_summed, Cond.code yX4_summed cX4_summed 3 (some .int)]
def wsX4_endGroup_r2 : List Cond := [Cond.constant RX4 51 (668265263), Cond.methodLink RX4 80 yX4_four, Cond.instanceMethod yX4_four, Cond.selects RX4 yX4_four yX4_four, Cond.code yX4_four cX4_four 4 none]
def wsX4_endGroup : List Cond := .code yX4_endGroup cX4_endGroup 5 (some .boolean) :: ((wsX4_endGroup_r1 ++ wsX4_endGroup_r2) ++ wsX40)
def wsX4_forget : List Cond := .code yX4_forget cX4_forget 1 none :: ([.fieldLink RX4 56 "MirrorLogModel" "feeding" "I", .fieldLink RX4 59 "MirrorLogModel" "newRows" "I", .fieldLink RX4 87 "MirrorLogModel" "moved" "I", .fieldLink RX4 62 "MirrorLogModel" "known" "I", .fieldLink RX4 84 "MirrorLogModel" "groups" "I"] ++ wsX40)
def wsX4_crash : List Cond := .code yX4_crash cX4_crash 3 (some .boolean) :: ([.fieldLink RX4 48 "MirrorLogModel" "thrown" "I", .fieldLink RX4 13 "MirrorLogModel" "sizes" "[I", .fieldLink RX4 52 "MirrorLogModel" "shut" "Z", .methodLink RX4 90 yX4_forget, .instanceMethod yX4_forget, .selects RX4 yX4_forget yX4_forget, .initialized RX4, .code yX4_forget cX4_forget 1 none, .fieldLink RX4 56 "MirrorLogModel" "feeding" "I", .fieldLink RX4 59 "MirrorLogModel" "newRows" "I", .fieldLink RX4 87 "MirrorLogModel" "moved" "I", .fieldLink RX4 62 "MirrorLogModel" "known" "I", .fieldLink RX4 84 "MirrorLogModel" "groups" "I"] ++ wsX40)
def wsX4_poke : List Cond := .code yX4_poke cX4_poke 4 (some .boolean) :: ([.fieldLink RX4 48 "MirrorLogModel" "thrown" "I", .fieldLink RX4 13 "MirrorLogModel" "sizes" "[I", .fieldLink RX4 9 "MirrorLogModel" "bytes" "[I"] ++ wsX40)
def wsX4_areSame : List Cond := .code yX4_areSame cX4_areSame 5 (some .boolean) :: ([.fieldLink RX4 13 "MirrorLogModel" "sizes" "[I", .fieldLink RX4 9 "MirrorLogModel" "bytes" "[I"] ++ wsX40)
def wsX4_same : List Cond := .code yX4_same cX4_same 1 (some .boolean) :: ([.fieldLink RX4 48 "MirrorLogModel" "thrown" "I", .fieldLink RX4 13 "MirrorLogModel" "sizes" "[I", .methodLink RX4 93 yX4_areSame, .instanceMethod yX4_areSame, .selects RX4 yX4_areSame yX4_areSame, .initialized RX4, .code yX4_areSame cX4_areSame 5 (some .boolean), .fieldLink RX4 9 "MirrorLogModel" "bytes" "[I"] ++ wsX40)
def wsX4_number : List Cond := .code yX4_number cX4_number 6 (some .int) :: ([.fieldLink RX4 9 "MirrorLogModel" "bytes" "[I"] ++ wsX40)
def wsX4_sumOf : List Cond := .code yX4_sumOf cX4_sumOf 7 (some .int) :: ([.fieldLink RX4 9 "MirrorLogModel" "bytes" "[I", .methodLink RX4 73 yX4_summed, .static yX4_summed, .initialized RX4, .code yX4_summed cX4_summed 3 (some .int), .constant RX4 51 (668265263)] ++ wsX40)
def wsX4_isGood : List Cond := .code yX4_isGood cX4_isGood 9 (some .boolean) :: ([.fieldLink RX4 62 "MirrorLogModel" "known" "I", .fieldLink RX4 16 "MirrorLogModel" "seconds" "[I", .fieldLink RX4 13 "MirrorLogModel" "sizes" "[I", .fieldLink RX4 9 "MirrorLogModel" "bytes" "[I", .constant RX4 65 (1000000000), .fieldLink RX4 105 "MirrorLogModel" "seenRows" "I", .fieldLink RX4 108 "MirrorLogModel" "seenBytes" "I", .methodLink RX4 97 yX4_number, .instanceMethod yX4_number, .selects RX4 yX4_number yX4_number, .initialized RX4, .code yX4_number cX4_number 6 (some .int), .methodLink RX4 101 yX4_sumOf, .instanceMethod yX4_sumOf, .selects RX4 yX4_sumOf yX4_sumOf, .code yX4_sumOf cX4_sumOf 7 (some .int), .methodLink RX4 73 yX4_summed, .static yX4_summed, .code yX4_summed cX4_summed 3 (some .int), .constant RX4 51 (668265263)] ++ wsX40)
def wsX4_take : List Cond := .code yX4_take cX4_take 7 none :: ([.fieldLink RX4 105 "MirrorLogModel" "seenRows" "I", .fieldLink RX4 9 "MirrorLogModel" "bytes" "[I", .fieldLink RX4 16 "MirrorLogModel" "seconds" "[I", .fieldLink RX4 62 "MirrorLogModel" "known" "I", .fieldLink RX4 19 "MirrorLogModel" "lengths" "[I", .fieldLink RX4 23 "MirrorLogModel" "contents" "[I", .fieldLink RX4 108 "MirrorLogModel" "seenBytes" "I", .fieldLink RX4 26 "MirrorLogModel" "groupRows" "[I", .fieldLink RX4 84 "MirrorLogModel" "groups" "I", .fieldLink RX4 29 "MirrorLogModel" "groupBytes" "[I", .methodLink RX4 97 yX4_number, .instanceMethod yX4_number, .selects RX4 yX4_number yX4_number, .initialized RX4, .code yX4_number cX4_number 6 (some .int)] ++ wsX40)
def wsX4_reopen_r1 : List Cond := [Cond.fieldLink RX4 48 "MirrorLogModel" "thrown" "I", Cond.fieldLink RX4 52 "MirrorLogModel" "shut" "Z", Cond.fieldLink RX4 111 "MirrorLogModel" "repaired" "I", Cond.fieldLink RX4 108 "MirrorLogModel" "seenBytes" "I", Cond.fieldLink RX4 13 "MirrorLogModel" "sizes" "[I", Cond.fieldLink RX4 44 "MirrorLogModel" "badAt" "I", Cond.fieldLink RX4 62 "MirrorLogModel" "known" "I", Cond.methodLink RX4 90 yX4_forget, Cond.instanceMethod yX4_forget, Cond.selects RX4 yX4_forget yX4_forget, Cond.initialized RX4, Cond.code yX4_forget cX4_forget 1 none, Cond.fieldLink RX4 56 "MirrorLogModel" "feeding" "I", Cond.fieldLink RX4 59 "MirrorLogModel" "newRows" "I", Cond.fieldLink RX4 87 "MirrorLogModel" "moved" "I", Cond.fieldLink RX4 84 "MirrorLogModel" "groups" "I", Cond.methodLink RX4 114 yX4_isGood, Cond.instanceMethod yX4_isGood, Cond.selects RX4 yX4_isGood yX4_isGood, Cond.code yX4_isGood cX4_isGood 9 (some .boolean), Cond.fieldLink RX4 16 "MirrorLogModel" "seconds" "[I", Cond.fieldLink RX4 9 "MirrorLogModel" "bytes" "[I", Cond.constant RX4 65 (1000000000), Cond.fieldLink RX4 105 "MirrorLogModel" "seenRows" "I"]
def wsX4_reopen_r2 : List Cond := [Cond.methodLink RX4 97 yX4_number, Cond.instanceMethod yX4_number, Cond.selects RX4 yX4_number yX4_number, Cond.code yX4_number cX4_number 6 (some .int), Cond.methodLink RX4 101 yX4_sumOf, Cond.instanceMethod yX4_sumOf, Cond.selects RX4 yX4_sumOf yX4_sumOf, Cond.code yX4_sumOf cX4_sumOf 7 (some .int), Cond.methodLink RX4 73 yX4_summed, Cond.static yX4_summed, Cond.code yX4_summed cX4_summed 3 (some .int), Cond.constant RX4 51 (668265263), Cond.methodLink RX4 93 yX4_areSame, Cond.instanceMethod yX4_areSame, Cond.selects RX4 yX4_areSame yX4_areSame, Cond.code yX4_areSame cX4_areSame 5 (some .boolean), Cond.methodLink RX4 117 yX4_take, Cond.instanceMethod yX4_take, Cond.selects RX4 yX4_take yX4_take, Cond.code yX4_take cX4_take 7 none, Cond.fieldLink RX4 19 "MirrorLogModel" "lengths" "[I", Cond.fieldLink RX4 23 "MirrorLogModel" "contents" "[I", Cond.fieldLink RX4 26 "MirrorLogModel" "groupRows" "[I", Cond.fieldLink RX4 29 "MirrorLogModel" "groupBytes" "[I"]
def wsX4_reopen : List Cond := .code yX4_reopen cX4_reopen 4 (some .int) :: ((wsX4_reopen_r1 ++ wsX4_reopen_r2) ++ wsX40)
def wsX4_repaired : List Cond := .code yX4_repaired cX4_repaired 1 (some .int) :: ([.fieldLink RX4 48 "MirrorLogModel" "thrown" "I", .fieldLink RX4 111 "MirrorLogModel" "repaired" "I"] ++ wsX40)
def wsX4_badAt : List Cond := .code yX4_badAt cX4_badAt 1 (some .int) :: ([.fieldLink RX4 48 "MirrorLogModel" "thrown" "I", .fieldLink RX4 44 "MirrorLogModel" "badAt" "I"] ++ wsX40)
def wsX4_byteAt : List Cond := .code yX4_byteAt cX4_byteAt 3 (some .int) :: ([.fieldLink RX4 62 "MirrorLogModel" "known" "I", .fieldLink RX4 48 "MirrorLogModel" "thrown" "I", .fieldLink RX4 19 "MirrorLogModel" "lengths" "[I", .fieldLink RX4 23 "MirrorLogModel" "contents" "[I"] ++ wsX40)
def wsX4_rows : List Cond := .code yX4_rows cX4_rows 4 (some .int) :: ([.fieldLink RX4 48 "MirrorLogModel" "thrown" "I", .fieldLink RX4 62 "MirrorLogModel" "known" "I", .fieldLink RX4 16 "MirrorLogModel" "seconds" "[I", .constant RX4 121 (2592000)] ++ wsX40)
def wsX4_move : List Cond := .code yX4_move cX4_move 7 (some .boolean) :: ([.fieldLink RX4 48 "MirrorLogModel" "thrown" "I", .fieldLink RX4 52 "MirrorLogModel" "shut" "Z", .fieldLink RX4 59 "MirrorLogModel" "newRows" "I", .fieldLink RX4 13 "MirrorLogModel" "sizes" "[I", .fieldLink RX4 87 "MirrorLogModel" "moved" "I", .fieldLink RX4 84 "MirrorLogModel" "groups" "I", .fieldLink RX4 16 "MirrorLogModel" "seconds" "[I", .fieldLink RX4 26 "MirrorLogModel" "groupRows" "[I", .constant RX4 121 (2592000), .fieldLink RX4 29 "MirrorLogModel" "groupBytes" "[I", .fieldLink RX4 9 "MirrorLogModel" "bytes" "[I", .methodLink RX4 93 yX4_areSame, .instanceMethod yX4_areSame, .selects RX4 yX4_areSame yX4_areSame, .initialized RX4, .code yX4_areSame cX4_areSame 5 (some .boolean)] ++ wsX40)
def wsJx00060_init_a7421 : List Cond := .code yJx00060_init_a7421 cJx00060_init_a7421 2 none :: ([])
def wsL_byteAt_r1 : List Cond := [Cond.methodLink RL 7 yX3_byteAt, Cond.instanceMethod yX3_byteAt, Cond.selects RX3 yX3_byteAt yX3_byteAt, Cond.initialized RX3, Cond.code yX3_byteAt cX3_byteAt 3 (some .int), Cond.fieldLink RX3 49 "MirrorLog" "known" "I", Cond.classLink RX3 98 RJx00060, Cond.instantiable RJx00060 6, Cond.initialized RJx00060, Cond.fieldLink RX3 22 "MirrorLog" "table" "LMirrorLog$RowTable;", Cond.methodLink RX3 105 yX2_contentAt, Cond.instanceMethod yX2_contentAt, Cond.selects RX2 yX2_contentAt yX2_contentAt, Cond.initialized RX2, Cond.code yX2_contentAt cX2_contentAt 3 (some .int), Cond.fieldLink RX2 23 "MirrorLog$RowTable" "contents" "[B", Cond.methodLink RX2 40 yX2_lengthOf, Cond.instanceMethod yX2_lengthOf, Cond.selects RX2 yX2_lengthOf yX2_lengthOf, Cond.code yX2_lengthOf cX2_lengthOf 2 (some .int), Cond.fieldLink RX2 15 "MirrorLog$RowTable" "lengths" "[I", Cond.methodLink RX2 31 yX2_has, Cond.instanceMethod yX2_has, Cond.selects RX2 yX2_has yX2_has]
def wsL_byteAt_r2 : List Cond := [Cond.code yX2_has cX2_has 2 (some .boolean), Cond.fieldLink RX2 27 "MirrorLog$RowTable" "count" "I"]
def wsL_byteAt : List Cond := .codeWith yL_byteAt cL_byteAt 5 (some .int) [(0, 10, 13, 13)] :: ((wsL_byteAt_r1 ++ wsL_byteAt_r2) ++ wsX30 ++ wsJx000600 ++ wsX20)
def wsL_law_r1 : List Cond := [Cond.classLink RL 8 RX3, Cond.instantiable RX3 10, Cond.initialized RX3, Cond.classLink RL 16 RX4, Cond.instantiable RX4 23, Cond.initialized RX4, Cond.arrayClass .long, Cond.methodLink RL 15 yX3_init, Cond.instanceMethod yX3_init, Cond.code yX3_init cX3_init 1 none, Cond.methodLink RX3 3 objectInit, Cond.instanceMethod objectInit, Cond.code objectInit ⟨#[0xb1]⟩ 1 none, Cond.classLink RX3 9 RX1, Cond.instantiable RX1 2, Cond.initialized RX1, Cond.fieldLink RX3 12 "MirrorLog" "file0" "LMirrorLog$LogFile;", Cond.fieldLink RX3 16 "MirrorLog" "file1" "LMirrorLog$LogFile;", Cond.classLink RX3 19 RX2, Cond.instantiable RX2 5, Cond.initialized RX2, Cond.fieldLink RX3 22 "MirrorLog" "table" "LMirrorLog$RowTable;", Cond.arrayClass .byte, Cond.fieldLink RX3 26 "MirrorLog" "fed" "[B"]
def wsL_law_r2 : List Cond := [Cond.fieldLink RX3 30 "MirrorLog" "badPlace" "I", Cond.instanceMethod yX1_init, Cond.code yX1_init cX1_init 1 none, Cond.methodLink RX1 3 objectInit, Cond.fieldLink RX1 9 "MirrorLog$LogFile" "bytes" "[B", Cond.instanceMethod yX2_init, Cond.code yX2_init cX2_init 1 none, Cond.methodLink RX2 3 objectInit, Cond.arrayClass .int, Cond.fieldLink RX2 9 "MirrorLog$RowTable" "seconds" "[I", Cond.fieldLink RX2 15 "MirrorLog$RowTable" "lengths" "[I", Cond.arrayClass .boolean, Cond.fieldLink RX2 18 "MirrorLog$RowTable" "groupEnds" "[Z", Cond.constant RX2 22 (38400), Cond.fieldLink RX2 23 "MirrorLog$RowTable" "contents" "[B", Cond.methodLink RL 18 yX4_init, Cond.instanceMethod yX4_init, Cond.code yX4_init cX4_init 1 none, Cond.methodLink RX4 1 objectInit, Cond.fieldLink RX4 9 "MirrorLogModel" "bytes" "[I", Cond.fieldLink RX4 13 "MirrorLogModel" "sizes" "[I", Cond.fieldLink RX4 16 "MirrorLogModel" "seconds" "[I", Cond.fieldLink RX4 19 "MirrorLogModel" "lengths" "[I", Cond.constant RX4 22 (38400)]
def wsL_law_r3 : List Cond := [Cond.fieldLink RX4 23 "MirrorLogModel" "contents" "[I", Cond.fieldLink RX4 26 "MirrorLogModel" "groupRows" "[I", Cond.fieldLink RX4 29 "MirrorLogModel" "groupBytes" "[I", Cond.fieldLink RX4 32 "MirrorLogModel" "newSeconds" "[I", Cond.fieldLink RX4 35 "MirrorLogModel" "newLengths" "[I", Cond.fieldLink RX4 38 "MirrorLogModel" "newContents" "[I", Cond.fieldLink RX4 41 "MirrorLogModel" "fed" "[I", Cond.fieldLink RX4 44 "MirrorLogModel" "badAt" "I", Cond.methodLink RL 19 yX3_feed, Cond.instanceMethod yX3_feed, Cond.selects RX3 yX3_feed yX3_feed, Cond.code yX3_feed cX3_feed 2 (some .boolean), Cond.fieldLink RX3 34 "MirrorLog" "shut" "Z", Cond.fieldLink RX3 38 "MirrorLog" "fedCount" "I", Cond.methodLink RL 23 yX4_feed, Cond.instanceMethod yX4_feed, Cond.selects RX4 yX4_feed yX4_feed, Cond.code yX4_feed cX4_feed 2 (some .boolean), Cond.fieldLink RX4 48 "MirrorLogModel" "thrown" "I", Cond.fieldLink RX4 52 "MirrorLogModel" "shut" "Z", Cond.fieldLink RX4 56 "MirrorLogModel" "feeding" "I", Cond.methodLink RL 24 yX3_row, Cond.instanceMethod yX3_row, Cond.selects RX3 yX3_row yX3_row]
def wsL_law_r4 : List Cond := [Cond.code yX3_row cX3_row 4 (some .int), Cond.constant RX3 41 (1000000000), Cond.fieldLink RX3 49 "MirrorLog" "known" "I", Cond.methodLink RX3 42 yX2_lastSecond, Cond.instanceMethod yX2_lastSecond, Cond.selects RX2 yX2_lastSecond yX2_lastSecond, Cond.code yX2_lastSecond cX2_lastSecond 1 (some .int), Cond.fieldLink RX2 27 "MirrorLog$RowTable" "count" "I", Cond.methodLink RX2 35 yX2_secondOf, Cond.instanceMethod yX2_secondOf, Cond.selects RX2 yX2_secondOf yX2_secondOf, Cond.code yX2_secondOf cX2_secondOf 2 (some .int), Cond.methodLink RX2 31 yX2_has, Cond.instanceMethod yX2_has, Cond.selects RX2 yX2_has yX2_has, Cond.code yX2_has cX2_has 2 (some .boolean), Cond.methodLink RX3 46 yX2_count, Cond.instanceMethod yX2_count, Cond.selects RX2 yX2_count yX2_count, Cond.code yX2_count cX2_count 1 (some .int), Cond.methodLink RX3 52 yX2_begin, Cond.instanceMethod yX2_begin, Cond.selects RX2 yX2_begin yX2_begin, Cond.code yX2_begin cX2_begin 2 none]
def wsL_law_r5 : List Cond := [Cond.methodLink RX3 56 yX2_push, Cond.instanceMethod yX2_push, Cond.selects RX2 yX2_push yX2_push, Cond.code yX2_push cX2_push 4 none, Cond.methodLink RL 28 yX4_row, Cond.instanceMethod yX4_row, Cond.selects RX4 yX4_row yX4_row, Cond.code yX4_row cX4_row 3 (some .int), Cond.constant RX4 65 (1000000000), Cond.fieldLink RX4 59 "MirrorLogModel" "newRows" "I", Cond.fieldLink RX4 62 "MirrorLogModel" "known" "I", Cond.methodLink RX4 66 yX4_lastSecond, Cond.instanceMethod yX4_lastSecond, Cond.selects RX4 yX4_lastSecond yX4_lastSecond, Cond.code yX4_lastSecond cX4_lastSecond 1 (some .int), Cond.methodLink RL 29 yX3_endGroup, Cond.instanceMethod yX3_endGroup, Cond.selects RX3 yX3_endGroup yX3_endGroup, Cond.code yX3_endGroup cX3_endGroup 2 (some .boolean), Cond.methodLink RX3 59 yX2_bytesInFile, Cond.instanceMethod yX2_bytesInFile, Cond.selects RX2 yX2_bytesInFile yX2_bytesInFile, Cond.code yX2_bytesInFile cX2_bytesInFile 5 (some .int), Cond.methodLink RX2 40 yX2_lengthOf]
def wsL_law_r6 : List Cond := [Cond.instanceMethod yX2_lengthOf, Cond.selects RX2 yX2_lengthOf yX2_lengthOf, Cond.code yX2_lengthOf cX2_lengthOf 2 (some .int), Cond.methodLink RX2 43 yX2_endsGroup, Cond.instanceMethod yX2_endsGroup, Cond.selects RX2 yX2_endsGroup yX2_endsGroup, Cond.code yX2_endsGroup cX2_endsGroup 2 (some .boolean), Cond.methodLink RX3 63 yX1_hasRoomFor, Cond.instanceMethod yX1_hasRoomFor, Cond.selects RX1 yX1_hasRoomFor yX1_hasRoomFor, Cond.code yX1_hasRoomFor cX1_hasRoomFor 2 (some .boolean), Cond.fieldLink RX1 15 "MirrorLog$LogFile" "size" "I", Cond.methodLink RX3 67 yX0_write, Cond.static yX0_write, Cond.initialized RX0, Cond.code yX0_write cX0_write 5 none, Cond.methodLink RX0 9 yX2_count, Cond.methodLink RX0 15 yX0_writeRow, Cond.static yX0_writeRow, Cond.code yX0_writeRow cX0_writeRow 6 (some .int), Cond.methodLink RX0 21 yX1_size, Cond.instanceMethod yX1_size, Cond.selects RX1 yX1_size yX1_size, Cond.code yX1_size cX1_size 1 (some .int)]
def wsL_law_r7 : List Cond := [Cond.methodLink RX0 38 yX2_lengthOf, Cond.methodLink RX0 26 yX1_add, Cond.instanceMethod yX1_add, Cond.selects RX1 yX1_add yX1_add, Cond.code yX1_add cX1_add 2 none, Cond.methodLink RX0 42 yX2_secondOf, Cond.methodLink RX0 34 yX1_addNumber, Cond.instanceMethod yX1_addNumber, Cond.selects RX1 yX1_addNumber yX1_addNumber, Cond.code yX1_addNumber cX1_addNumber 4 none, Cond.methodLink RX1 19 yX1_add, Cond.methodLink RX0 45 yX2_contentAt, Cond.instanceMethod yX2_contentAt, Cond.selects RX2 yX2_contentAt yX2_contentAt, Cond.code yX2_contentAt cX2_contentAt 3 (some .int), Cond.methodLink RX0 30 yX1_sumOf, Cond.instanceMethod yX1_sumOf, Cond.selects RX1 yX1_sumOf yX1_sumOf, Cond.code yX1_sumOf cX1_sumOf 6 (some .int), Cond.constant RX1 33 (668265263), Cond.methodLink RX1 23 yX1_get, Cond.instanceMethod yX1_get, Cond.selects RX1 yX1_get yX1_get, Cond.code yX1_get cX1_get 2 (some .int)]
def wsL_law_r8 : List Cond := [Cond.methodLink RX1 27 yJ6_rotateLeft_7cf53, Cond.static yJ6_rotateLeft_7cf53, Cond.initialized RJ6, Cond.code yJ6_rotateLeft_7cf53 cJ6_rotateLeft_7cf53 2 (some .int), Cond.methodLink RX3 73 yX2_endGroupHere, Cond.instanceMethod yX2_endGroupHere, Cond.selects RX2 yX2_endGroupHere yX2_endGroupHere, Cond.code yX2_endGroupHere cX2_endGroupHere 1 none, Cond.methodLink RL 33 yX4_endGroup, Cond.instanceMethod yX4_endGroup, Cond.selects RX4 yX4_endGroup yX4_endGroup, Cond.code yX4_endGroup cX4_endGroup 5 (some .boolean), Cond.fieldLink RX4 70 "MirrorLogModel" "at" "I", Cond.fieldLink RX4 84 "MirrorLogModel" "groups" "I", Cond.methodLink RX4 77 yX4_write, Cond.instanceMethod yX4_write, Cond.selects RX4 yX4_write yX4_write, Cond.code yX4_write cX4_write 3 (some .int), Cond.methodLink RX4 73 yX4_summed, Cond.static yX4_summed, Cond.code yX4_summed cX4_summed 3 (some .int), Cond.constant RX4 51 (668265263), Cond.methodLink RX4 80 yX4_four, Cond.instanceMethod yX4_four]
def wsL_law_r9 : List Cond := [Cond.selects RX4 yX4_four yX4_four, Cond.code yX4_four cX4_four 4 none, Cond.methodLink RL 34 yX3_crash, Cond.instanceMethod yX3_crash, Cond.selects RX3 yX3_crash yX3_crash, Cond.code yX3_crash cX3_crash 3 (some .boolean), Cond.methodLink RX3 76 yX3_isFile, Cond.static yX3_isFile, Cond.code yX3_isFile cX3_isFile 1 (some .boolean), Cond.methodLink RX3 79 yX3_fileOf, Cond.instanceMethod yX3_fileOf, Cond.selects RX3 yX3_fileOf yX3_fileOf, Cond.code yX3_fileOf cX3_fileOf 2 (some (.object "MirrorLog$LogFile")), Cond.methodLink RX3 83 yX1_size, Cond.methodLink RX3 86 yX1_cutTo, Cond.instanceMethod yX1_cutTo, Cond.selects RX1 yX1_cutTo yX1_cutTo, Cond.code yX1_cutTo cX1_cutTo 2 none, Cond.methodLink RX3 89 yX3_forgetAllButMoved, Cond.instanceMethod yX3_forgetAllButMoved, Cond.selects RX3 yX3_forgetAllButMoved yX3_forgetAllButMoved, Cond.code yX3_forgetAllButMoved cX3_forgetAllButMoved 1 none, Cond.fieldLink RX3 120 "MirrorLog" "moved" "I", Cond.methodLink RX3 133 yX2_cutTo]
def wsL_law_r10 : List Cond := [Cond.instanceMethod yX2_cutTo, Cond.selects RX2 yX2_cutTo yX2_cutTo, Cond.code yX2_cutTo cX2_cutTo 2 none, Cond.methodLink RL 38 yX4_crash, Cond.instanceMethod yX4_crash, Cond.selects RX4 yX4_crash yX4_crash, Cond.code yX4_crash cX4_crash 3 (some .boolean), Cond.methodLink RX4 90 yX4_forget, Cond.instanceMethod yX4_forget, Cond.selects RX4 yX4_forget yX4_forget, Cond.code yX4_forget cX4_forget 1 none, Cond.fieldLink RX4 87 "MirrorLogModel" "moved" "I", Cond.methodLink RL 39 yX3_reopen, Cond.instanceMethod yX3_reopen, Cond.selects RX3 yX3_reopen yX3_reopen, Cond.code yX3_reopen cX3_reopen 2 (some .int), Cond.fieldLink RX3 92 "MirrorLog" "repairedGroups" "I", Cond.methodLink RX3 95 yX3_takeGoodGroups, Cond.instanceMethod yX3_takeGoodGroups, Cond.selects RX3 yX3_takeGoodGroups yX3_takeGoodGroups, Cond.code yX3_takeGoodGroups cX3_takeGoodGroups 4 (some .int), Cond.methodLink RX3 134 yX3_takeGroup, Cond.instanceMethod yX3_takeGroup, Cond.selects RX3 yX3_takeGroup yX3_takeGroup]
def wsL_law_r11 : List Cond := [Cond.code yX3_takeGroup cX3_takeGroup 5 (some .int), Cond.methodLink RX3 138 yX0_endOfGood, Cond.static yX0_endOfGood, Cond.code yX0_endOfGood cX0_endOfGood 6 (some .int), Cond.methodLink RX0 49 yX2_lastSecond, Cond.methodLink RX0 52 yX1_get, Cond.methodLink RX0 55 yX0_isRowGood, Cond.static yX0_isRowGood, Cond.code yX0_isRowGood cX0_isRowGood 8 (some .boolean), Cond.constant RX0 66 (1000000000), Cond.methodLink RX0 59 yX1_number, Cond.instanceMethod yX1_number, Cond.selects RX1 yX1_number yX1_number, Cond.code yX1_number cX1_number 5 (some .int), Cond.methodLink RX0 62 yX0_isEndGood, Cond.static yX0_isEndGood, Cond.code yX0_isEndGood cX0_isEndGood 4 (some .boolean), Cond.methodLink RX3 142 yX0_read, Cond.static yX0_read, Cond.code yX0_read cX0_read 10 none, Cond.methodLink RX0 67 yX2_begin, Cond.methodLink RX0 70 yX2_push, Cond.methodLink RX0 73 yX2_endGroupHere, Cond.methodLink RX3 129 yX1_agrees]
def wsL_law_r12 : List Cond := [Cond.instanceMethod yX1_agrees, Cond.selects RX1 yX1_agrees yX1_agrees, Cond.code yX1_agrees cX1_agrees 5 (some .boolean), Cond.methodLink RX3 146 yX1_copyFrom, Cond.instanceMethod yX1_copyFrom, Cond.selects RX1 yX1_copyFrom yX1_copyFrom, Cond.code yX1_copyFrom cX1_copyFrom 5 none, Cond.methodLink RL 43 yX4_reopen, Cond.instanceMethod yX4_reopen, Cond.selects RX4 yX4_reopen yX4_reopen, Cond.code yX4_reopen cX4_reopen 4 (some .int), Cond.fieldLink RX4 111 "MirrorLogModel" "repaired" "I", Cond.fieldLink RX4 108 "MirrorLogModel" "seenBytes" "I", Cond.methodLink RX4 114 yX4_isGood, Cond.instanceMethod yX4_isGood, Cond.selects RX4 yX4_isGood yX4_isGood, Cond.code yX4_isGood cX4_isGood 9 (some .boolean), Cond.fieldLink RX4 105 "MirrorLogModel" "seenRows" "I", Cond.methodLink RX4 97 yX4_number, Cond.instanceMethod yX4_number, Cond.selects RX4 yX4_number yX4_number, Cond.code yX4_number cX4_number 6 (some .int), Cond.methodLink RX4 101 yX4_sumOf, Cond.instanceMethod yX4_sumOf]
def wsL_law_r13 : List Cond := [Cond.selects RX4 yX4_sumOf yX4_sumOf, Cond.code yX4_sumOf cX4_sumOf 7 (some .int), Cond.methodLink RX4 93 yX4_areSame, Cond.instanceMethod yX4_areSame, Cond.selects RX4 yX4_areSame yX4_areSame, Cond.code yX4_areSame cX4_areSame 5 (some .boolean), Cond.methodLink RX4 117 yX4_take, Cond.instanceMethod yX4_take, Cond.selects RX4 yX4_take yX4_take, Cond.code yX4_take cX4_take 7 none, Cond.methodLink RL 44 yL_byteAt, Cond.static yL_byteAt, Cond.initialized RL, Cond.codeWith yL_byteAt cL_byteAt 5 (some .int) [(0, 10, 13, 13)], Cond.methodLink RL 7 yX3_byteAt, Cond.instanceMethod yX3_byteAt, Cond.selects RX3 yX3_byteAt yX3_byteAt, Cond.code yX3_byteAt cX3_byteAt 3 (some .int), Cond.classLink RX3 98 RJx00060, Cond.instantiable RJx00060 6, Cond.initialized RJx00060, Cond.methodLink RX3 105 yX2_contentAt, Cond.methodLink RL 49 yX4_byteAt, Cond.instanceMethod yX4_byteAt]
def wsL_law_r14 : List Cond := [Cond.selects RX4 yX4_byteAt yX4_byteAt, Cond.code yX4_byteAt cX4_byteAt 3 (some .int), Cond.methodLink RL 50 yX4_thrown, Cond.instanceMethod yX4_thrown, Cond.selects RX4 yX4_thrown yX4_thrown, Cond.code yX4_thrown cX4_thrown 1 (some .int), Cond.methodLink RL 53 yX3_poke, Cond.instanceMethod yX3_poke, Cond.selects RX3 yX3_poke yX3_poke, Cond.code yX3_poke cX3_poke 4 (some .boolean), Cond.methodLink RX3 108 yX1_alter, Cond.instanceMethod yX1_alter, Cond.selects RX1 yX1_alter yX1_alter, Cond.code yX1_alter cX1_alter 3 none, Cond.methodLink RL 57 yX4_poke, Cond.instanceMethod yX4_poke, Cond.selects RX4 yX4_poke yX4_poke, Cond.code yX4_poke cX4_poke 4 (some .boolean), Cond.methodLink RL 58 yX3_repaired, Cond.instanceMethod yX3_repaired, Cond.selects RX3 yX3_repaired yX3_repaired, Cond.code yX3_repaired cX3_repaired 1 (some .int), Cond.methodLink RL 61 yX4_repaired, Cond.instanceMethod yX4_repaired]
def wsL_law_r15 : List Cond := [Cond.selects RX4 yX4_repaired yX4_repaired, Cond.code yX4_repaired cX4_repaired 1 (some .int), Cond.methodLink RL 62 yX3_badAt, Cond.instanceMethod yX3_badAt, Cond.selects RX3 yX3_badAt yX3_badAt, Cond.code yX3_badAt cX3_badAt 1 (some .int), Cond.methodLink RL 65 yX4_badAt, Cond.instanceMethod yX4_badAt, Cond.selects RX4 yX4_badAt yX4_badAt, Cond.code yX4_badAt cX4_badAt 1 (some .int), Cond.methodLink RL 66 yX3_move, Cond.instanceMethod yX3_move, Cond.selects RX3 yX3_move yX3_move, Cond.code yX3_move cX3_move 4 (some .boolean), Cond.methodLink RX3 112 yX3_same, Cond.instanceMethod yX3_same, Cond.selects RX3 yX3_same yX3_same, Cond.code yX3_same cX3_same 1 (some .boolean), Cond.methodLink RX3 116 yX3_endOfGroupsUpTo, Cond.instanceMethod yX3_endOfGroupsUpTo, Cond.selects RX3 yX3_endOfGroupsUpTo yX3_endOfGroupsUpTo, Cond.code yX3_endOfGroupsUpTo cX3_endOfGroupsUpTo 4 (some .int), Cond.methodLink RX3 126 yX2_monthOf, Cond.instanceMethod yX2_monthOf]
def wsL_law_r16 : List Cond := [Cond.selects RX2 yX2_monthOf yX2_monthOf, Cond.code yX2_monthOf cX2_monthOf 2 (some .int), Cond.constant RX2 39 (2592000), Cond.methodLink RX3 150 yX2_endsGroup, Cond.methodLink RX3 123 yX1_dropFirst, Cond.instanceMethod yX1_dropFirst, Cond.selects RX1 yX1_dropFirst yX1_dropFirst, Cond.code yX1_dropFirst cX1_dropFirst 2 none, Cond.methodLink RX1 34 arraycopyName, Cond.native arraycopyName, Cond.static arraycopyName, Cond.initialized "java/lang/System", Cond.methodLink RL 69 yX4_move, Cond.instanceMethod yX4_move, Cond.selects RX4 yX4_move yX4_move, Cond.code yX4_move cX4_move 7 (some .boolean), Cond.constant RX4 121 (2592000), Cond.methodLink RL 70 yX3_rows, Cond.instanceMethod yX3_rows, Cond.selects RX3 yX3_rows yX3_rows, Cond.code yX3_rows cX3_rows 4 (some .int), Cond.methodLink RL 73 yX4_rows, Cond.instanceMethod yX4_rows, Cond.selects RX4 yX4_rows yX4_rows]
def wsL_law_r17 : List Cond := [Cond.code yX4_rows cX4_rows 4 (some .int), Cond.methodLink RL 74 yX3_same, Cond.methodLink RL 77 yX4_same, Cond.instanceMethod yX4_same, Cond.selects RX4 yX4_same yX4_same, Cond.code yX4_same cX4_same 1 (some .boolean)]
def wsL_law : List Cond := (wsL_law_r1 ++ (wsL_law_r2 ++ (wsL_law_r3 ++ (wsL_law_r4 ++ (wsL_law_r5 ++ (wsL_law_r6 ++ (wsL_law_r7 ++ (wsL_law_r8 ++ (wsL_law_r9 ++ (wsL_law_r10 ++ (wsL_law_r11 ++ (wsL_law_r12 ++ (wsL_law_r13 ++ (wsL_law_r14 ++ (wsL_law_r15 ++ (wsL_law_r16 ++ wsL_law_r17)))))))))))))))) ++ wsX30 ++ wsX40 ++ wsX10 ++ wsX20 ++ wsJx000600 ++ ([] : List Cond)
set_option maxRecDepth 20000 in
theorem in_ps {big ws : List Cond} (ps : List Nat) (h : ws = ps.filterMap (fun i => big[i]?)) : ∀ w ∈ ws, w ∈ big := fun w hw => by
  rw [h] at hw
  obtain ⟨i, -, hi⟩ := List.mem_filterMap.mp hw
  exact List.mem_of_getElem? hi
theorem in_app {big a b : List Cond} (ha : ∀ w ∈ a, w ∈ big) (hb : ∀ w ∈ b, w ∈ big) : ∀ w ∈ a ++ b, w ∈ big := fun w h => (List.mem_append.mp h).elim (ha w) (hb w)
set_option maxRecDepth 20000 in
theorem in_wsL_law_r1 : ∀ w ∈ wsL_law_r1, w ∈ lw_tbl := in_ps [29, 30, 17, 393, 394, 20, 564, 31, 32, 33, 34, 35, 36, 37, 38, 18, 76, 77, 51, 52, 19, 78, 50, 79] (by decide +kernel)
set_option maxRecDepth 20000 in
theorem in_wsL_law_r2 : ∀ w ∈ wsL_law_r2, w ∈ lw_tbl := in_ps [85, 40, 41, 42, 43, 54, 55, 56, 74, 58, 59, 75, 60, 57, 61, 395, 396, 397, 398, 400, 401, 402, 403, 399] (by decide +kernel)
set_option maxRecDepth 20000 in
theorem in_wsL_law_r3 : ∀ w ∈ wsL_law_r3, w ∈ lw_tbl := in_ps [404, 407, 408, 410, 411, 412, 414, 418, 107, 108, 109, 110, 83, 80, 474, 475, 476, 477, 419, 416, 415, 111, 112, 113] (by decide +kernel)
set_option maxRecDepth 20000 in
theorem in_wsL_law_r4 : ∀ w ∈ wsL_law_r4, w ∈ lw_tbl := in_ps [114, 115, 82, 116, 117, 118, 119, 62, 120, 121, 122, 123, 124, 126, 0, 127, 128, 129, 130, 131, 132, 133, 134, 135] (by decide +kernel)
set_option maxRecDepth 20000 in
theorem in_wsL_law_r5 : ∀ w ∈ wsL_law_r5, w ∈ lw_tbl := in_ps [136, 137, 138, 139, 478, 479, 480, 481, 482, 413, 405, 483, 485, 7, 486, 140, 141, 142, 143, 144, 145, 146, 147, 148] (by decide +kernel)
set_option maxRecDepth 20000 in
theorem in_wsL_law_r6 : ∀ w ∈ wsL_law_r6, w ∈ lw_tbl := in_ps [149, 150, 151, 152, 153, 154, 155, 156, 157, 158, 159, 44, 160, 161, 21, 162, 163, 164, 165, 166, 167, 168, 169, 170] (by decide +kernel)
set_option maxRecDepth 20000 in
theorem in_wsL_law_r7 : ∀ w ∈ wsL_law_r7, w ∈ lw_tbl := in_ps [171, 172, 173, 174, 175, 176, 177, 178, 179, 180, 181, 182, 183, 184, 185, 186, 187, 188, 189, 197, 190, 191, 192, 193] (by decide +kernel)
set_option maxRecDepth 20000 in
theorem in_wsL_law_r8 : ∀ w ∈ wsL_law_r8, w ∈ lw_tbl := in_ps [194, 195, 22, 196, 198, 199, 200, 201, 487, 488, 489, 490, 422, 409, 491, 493, 8, 494, 495, 496, 497, 498, 499, 501] (by decide +kernel)
set_option maxRecDepth 20000 in
theorem in_wsL_law_r9 : ∀ w ∈ wsL_law_r9, w ∈ lw_tbl := in_ps [9, 502, 202, 203, 204, 205, 206, 207, 208, 209, 211, 1, 212, 213, 214, 215, 216, 217, 218, 220, 2, 221, 81, 222] (by decide +kernel)
set_option maxRecDepth 20000 in
theorem in_wsL_law_r10 : ∀ w ∈ wsL_law_r10, w ∈ lw_tbl := in_ps [223, 224, 225, 503, 504, 505, 506, 507, 509, 10, 510, 406, 226, 227, 228, 229, 84, 230, 232, 3, 233, 234, 236, 4] (by decide +kernel)
set_option maxRecDepth 20000 in
theorem in_wsL_law_r11 : ∀ w ∈ wsL_law_r11, w ∈ lw_tbl := in_ps [237, 238, 239, 240, 241, 242, 243, 244, 245, 250, 246, 247, 248, 249, 251, 252, 253, 254, 255, 256, 257, 258, 259, 260] (by decide +kernel)
set_option maxRecDepth 20000 in
theorem in_wsL_law_r12 : ∀ w ∈ wsL_law_r12, w ∈ lw_tbl := in_ps [261, 262, 263, 264, 265, 266, 267, 523, 524, 525, 526, 417, 421, 527, 529, 12, 530, 420, 531, 533, 13, 534, 535, 537] (by decide +kernel)
set_option maxRecDepth 20000 in
theorem in_wsL_law_r13 : ∀ w ∈ wsL_law_r13, w ∈ lw_tbl := in_ps [14, 538, 519, 521, 11, 522, 539, 541, 15, 542, 314, 315, 16, 316, 318, 319, 320, 321, 322, 323, 27, 392, 551, 552] (by decide +kernel)
set_option maxRecDepth 20000 in
theorem in_wsL_law_r14 : ∀ w ∈ wsL_law_r14, w ∈ lw_tbl := in_ps [553, 554, 470, 471, 472, 473, 268, 269, 270, 271, 272, 273, 274, 275, 511, 512, 513, 514, 276, 277, 278, 279, 543, 544] (by decide +kernel)
set_option maxRecDepth 20000 in
theorem in_wsL_law_r15 : ∀ w ∈ wsL_law_r15, w ∈ lw_tbl := in_ps [545, 546, 280, 281, 282, 283, 547, 548, 549, 550, 284, 285, 286, 287, 288, 289, 290, 291, 292, 294, 5, 295, 296, 297] (by decide +kernel)
set_option maxRecDepth 20000 in
theorem in_wsL_law_r16 : ∀ w ∈ wsL_law_r16, w ∈ lw_tbl := in_ps [298, 299, 300, 301, 302, 303, 304, 305, 306, 308, 307, 28, 560, 561, 562, 563, 559, 309, 310, 311, 312, 555, 556, 557] (by decide +kernel)
set_option maxRecDepth 20000 in
theorem in_wsL_law_r17 : ∀ w ∈ wsL_law_r17, w ∈ lw_tbl := in_ps [558, 313, 515, 516, 517, 518] (by decide +kernel)
theorem in_wsX30 : ∀ w ∈ wsX30, w ∈ lw_tbl := by decide +kernel
theorem in_wsX40 : ∀ w ∈ wsX40, w ∈ lw_tbl := by decide +kernel
theorem in_wsX10 : ∀ w ∈ wsX10, w ∈ lw_tbl := by decide +kernel
theorem in_wsX20 : ∀ w ∈ wsX20, w ∈ lw_tbl := by decide +kernel
theorem in_wsJx000600 : ∀ w ∈ wsJx000600, w ∈ lw_tbl := by decide +kernel
theorem wsL_law_in : ∀ w ∈ wsL_law, w ∈ lw_tbl := in_app (in_app (in_app (in_app (in_app (in_app (in_app in_wsL_law_r1 (in_app in_wsL_law_r2 (in_app in_wsL_law_r3 (in_app in_wsL_law_r4 (in_app in_wsL_law_r5 (in_app in_wsL_law_r6 (in_app in_wsL_law_r7 (in_app in_wsL_law_r8 (in_app in_wsL_law_r9 (in_app in_wsL_law_r10 (in_app in_wsL_law_r11 (in_app in_wsL_law_r12 (in_app in_wsL_law_r13 (in_app in_wsL_law_r14 (in_app in_wsL_law_r15 (in_app in_wsL_law_r16 in_wsL_law_r17)))))))))))))))) in_wsX30) in_wsX40) in_wsX10) in_wsX20) in_wsJx000600) (fun _ h => absurd h List.not_mem_nil)
theorem inX0 : ∀ w ∈ wsX00, w ∈ lw_tbl := by decide +kernel
theorem inlX1 : ∀ w ∈ wsX10, w ∈ wsL_law := fun _ h => List.mem_append_left _ (List.mem_append_left _ (List.mem_append_left _ (List.mem_append_right _ h)))
theorem inX1 : ∀ w ∈ wsX10, w ∈ lw_tbl := fun w h => wsL_law_in w (inlX1 w h)
theorem inlX2 : ∀ w ∈ wsX20, w ∈ wsL_law := fun _ h => List.mem_append_left _ (List.mem_append_left _ (List.mem_append_right _ h))
theorem inX2 : ∀ w ∈ wsX20, w ∈ lw_tbl := fun w h => wsL_law_in w (inlX2 w h)
theorem inlX3 : ∀ w ∈ wsX30, w ∈ wsL_law := fun _ h => List.mem_append_left _ (List.mem_append_left _ (List.mem_append_left _ (List.mem_append_left _ (List.mem_append_left _ (List.mem_append_right _ h)))))
theorem inX3 : ∀ w ∈ wsX30, w ∈ lw_tbl := fun w h => wsL_law_in w (inlX3 w h)
theorem inlX4 : ∀ w ∈ wsX40, w ∈ wsL_law := fun _ h => List.mem_append_left _ (List.mem_append_left _ (List.mem_append_left _ (List.mem_append_left _ (List.mem_append_right _ h))))
theorem inX4 : ∀ w ∈ wsX40, w ∈ lw_tbl := fun w h => wsL_law_in w (inlX4 w h)
theorem inlJx00060 : ∀ w ∈ wsJx000600, w ∈ wsL_law := fun _ h => List.mem_append_left _ (List.mem_append_right _ h)
theorem inJx00060 : ∀ w ∈ wsJx000600, w ∈ lw_tbl := fun w h => wsL_law_in w (inlJx00060 w h)
theorem inJ6 : ∀ w ∈ wsJ60, w ∈ lw_tbl := by decide +kernel
theorem inJ0 : ∀ w ∈ wsJ00, w ∈ lw_tbl := by decide +kernel
theorem inJ10 : ∀ w ∈ wsJ100, w ∈ lw_tbl := by decide +kernel
set_option maxRecDepth 20000 in
theorem ggX0_write_X2_count : GoodIn wsX0_write wsX2_count := goodIn_r _ [5, 6, 60, 61, 62, 63, 64] (by decide +kernel) (by decide +kernel)
set_option maxRecDepth 20000 in
theorem gX0_write_X2_count : GoodIn wsX0_write (wsV RX0 9 RX2 yX2_count wsX2_count) := goodIn_app (goodIn_of _ (by decide +kernel)) ggX0_write_X2_count
set_option maxRecDepth 20000 in
theorem ggX0_write_X0_writeRow : GoodIn wsX0_write wsX0_writeRow := goodIn_r _ [10, 11, 12, 13, 14, 15, 16, 17, 18, 19, 4, 20, 21, 22, 23, 24, 25, 6, 26, 27, 28, 29, 30, 31, 32, 33, 34, 35, 36, 37, 38, 39, 40, 41, 42, 43, 44, 45, 46, 47, 48, 49, 50, 51, 52, 53, 54, 55, 56, 57, 58, 59, 65, 66, 60, 61, 62, 63, 64] (by decide +kernel) (by decide +kernel)
set_option maxRecDepth 20000 in
theorem gX0_write_X0_writeRow : GoodIn wsX0_write (va_wsS RX0 15 yX0_writeRow wsX0_writeRow) := goodIn_app (goodIn_of _ (by decide +kernel)) ggX0_write_X0_writeRow
set_option maxRecDepth 20000 in
theorem ggX0_write_X1_size : GoodIn wsX0_write wsX1_size := goodIn_r _ [15, 16, 65, 66] (by decide +kernel) (by decide +kernel)
set_option maxRecDepth 20000 in
theorem gX0_write_X1_size : GoodIn wsX0_write (wsV RX0 21 RX1 yX1_size wsX1_size) := goodIn_app (goodIn_of _ (by decide +kernel)) ggX0_write_X1_size
set_option maxRecDepth 20000 in
theorem ggX0_write_X1_add : GoodIn wsX0_write wsX1_add := goodIn_r _ [29, 16, 30, 65, 66] (by decide +kernel) (by decide +kernel)
set_option maxRecDepth 20000 in
theorem gX0_write_X1_add : GoodIn wsX0_write (wsV RX0 26 RX1 yX1_add wsX1_add) := goodIn_app (goodIn_of _ (by decide +kernel)) ggX0_write_X1_add
set_option maxRecDepth 20000 in
theorem ggX0_write_X1_sumOf : GoodIn wsX0_write wsX1_sumOf := goodIn_r _ [50, 51, 52, 53, 54, 14, 55, 16, 30, 56, 57, 58, 59, 65, 66] (by decide +kernel) (by decide +kernel)
set_option maxRecDepth 20000 in
theorem gX0_write_X1_sumOf : GoodIn wsX0_write (wsV RX0 30 RX1 yX1_sumOf wsX1_sumOf) := goodIn_app (goodIn_of _ (by decide +kernel)) ggX0_write_X1_sumOf
set_option maxRecDepth 20000 in
theorem ggX0_write_X1_addNumber : GoodIn wsX0_write wsX1_addNumber := goodIn_r _ [39, 40, 27, 28, 14, 29, 16, 30, 65, 66] (by decide +kernel) (by decide +kernel)
set_option maxRecDepth 20000 in
theorem gX0_write_X1_addNumber : GoodIn wsX0_write (wsV RX0 34 RX1 yX1_addNumber wsX1_addNumber) := goodIn_app (goodIn_of _ (by decide +kernel)) ggX0_write_X1_addNumber
set_option maxRecDepth 20000 in
theorem ggX0_writeRow_X1_size : GoodIn wsX0_writeRow wsX1_size := goodIn_r _ [5, 6, 52, 53] (by decide +kernel) (by decide +kernel)
set_option maxRecDepth 20000 in
theorem gX0_writeRow_X1_size : GoodIn wsX0_writeRow (wsV RX0 21 RX1 yX1_size wsX1_size) := goodIn_app (goodIn_of _ (by decide +kernel)) ggX0_writeRow_X1_size
set_option maxRecDepth 20000 in
theorem ggX0_writeRow_X2_lengthOf : GoodIn wsX0_writeRow wsX2_lengthOf := goodIn_r _ [11, 12, 13, 14, 15, 10, 16, 17, 54, 55, 56, 57, 58] (by decide +kernel) (by decide +kernel)
set_option maxRecDepth 20000 in
theorem gX0_writeRow_X2_lengthOf : GoodIn wsX0_writeRow (wsV RX0 38 RX2 yX2_lengthOf wsX2_lengthOf) := goodIn_app (goodIn_of _ (by decide +kernel)) ggX0_writeRow_X2_lengthOf
set_option maxRecDepth 20000 in
theorem ggX0_writeRow_X1_add : GoodIn wsX0_writeRow wsX1_add := goodIn_r _ [21, 6, 22, 52, 53] (by decide +kernel) (by decide +kernel)
set_option maxRecDepth 20000 in
theorem gX0_writeRow_X1_add : GoodIn wsX0_writeRow (wsV RX0 26 RX1 yX1_add wsX1_add) := goodIn_app (goodIn_of _ (by decide +kernel)) ggX0_writeRow_X1_add
set_option maxRecDepth 20000 in
theorem ggX0_writeRow_X2_secondOf : GoodIn wsX0_writeRow wsX2_secondOf := goodIn_r _ [26, 27, 13, 14, 15, 10, 16, 17, 54, 55, 56, 57, 58] (by decide +kernel) (by decide +kernel)
set_option maxRecDepth 20000 in
theorem gX0_writeRow_X2_secondOf : GoodIn wsX0_writeRow (wsV RX0 42 RX2 yX2_secondOf wsX2_secondOf) := goodIn_app (goodIn_of _ (by decide +kernel)) ggX0_writeRow_X2_secondOf
set_option maxRecDepth 20000 in
theorem ggX0_writeRow_X1_addNumber : GoodIn wsX0_writeRow wsX1_addNumber := goodIn_r _ [31, 32, 19, 20, 4, 21, 6, 22, 52, 53] (by decide +kernel) (by decide +kernel)
set_option maxRecDepth 20000 in
theorem gX0_writeRow_X1_addNumber : GoodIn wsX0_writeRow (wsV RX0 34 RX1 yX1_addNumber wsX1_addNumber) := goodIn_app (goodIn_of _ (by decide +kernel)) ggX0_writeRow_X1_addNumber
set_option maxRecDepth 20000 in
theorem ggX0_writeRow_X2_contentAt : GoodIn wsX0_writeRow wsX2_contentAt := goodIn_r _ [36, 37, 38, 8, 9, 10, 11, 12, 13, 14, 15, 16, 17, 54, 55, 56, 57, 58] (by decide +kernel) (by decide +kernel)
set_option maxRecDepth 20000 in
theorem gX0_writeRow_X2_contentAt : GoodIn wsX0_writeRow (wsV RX0 45 RX2 yX2_contentAt wsX2_contentAt) := goodIn_app (goodIn_of _ (by decide +kernel)) ggX0_writeRow_X2_contentAt
set_option maxRecDepth 20000 in
theorem ggX0_writeRow_X1_sumOf : GoodIn wsX0_writeRow wsX1_sumOf := goodIn_r _ [42, 43, 44, 45, 46, 4, 47, 6, 22, 48, 49, 50, 51, 52, 53] (by decide +kernel) (by decide +kernel)
set_option maxRecDepth 20000 in
theorem gX0_writeRow_X1_sumOf : GoodIn wsX0_writeRow (wsV RX0 30 RX1 yX1_sumOf wsX1_sumOf) := goodIn_app (goodIn_of _ (by decide +kernel)) ggX0_writeRow_X1_sumOf
set_option maxRecDepth 20000 in
theorem ggX0_endOfGood_X2_lastSecond : GoodIn wsX0_endOfGood wsX2_lastSecond := goodIn_r _ [5, 6, 7, 8, 9, 4, 10, 11, 12, 13, 14, 15, 53, 54, 55, 56, 57] (by decide +kernel) (by decide +kernel)
set_option maxRecDepth 20000 in
theorem gX0_endOfGood_X2_lastSecond : GoodIn wsX0_endOfGood (wsV RX0 49 RX2 yX2_lastSecond wsX2_lastSecond) := goodIn_app (goodIn_of _ (by decide +kernel)) ggX0_endOfGood_X2_lastSecond
set_option maxRecDepth 20000 in
theorem ggX0_endOfGood_X1_get : GoodIn wsX0_endOfGood wsX1_get := goodIn_r _ [20, 21, 22, 58, 59] (by decide +kernel) (by decide +kernel)
set_option maxRecDepth 20000 in
theorem gX0_endOfGood_X1_get : GoodIn wsX0_endOfGood (wsV RX0 52 RX1 yX1_get wsX1_get) := goodIn_app (goodIn_of _ (by decide +kernel)) ggX0_endOfGood_X1_get
set_option maxRecDepth 20000 in
theorem ggX0_endOfGood_X2_count : GoodIn wsX0_endOfGood wsX2_count := goodIn_r _ [26, 6, 53, 54, 55, 56, 57] (by decide +kernel) (by decide +kernel)
set_option maxRecDepth 20000 in
theorem gX0_endOfGood_X2_count : GoodIn wsX0_endOfGood (wsV RX0 9 RX2 yX2_count wsX2_count) := goodIn_app (goodIn_of _ (by decide +kernel)) ggX0_endOfGood_X2_count
set_option maxRecDepth 20000 in
theorem ggX0_endOfGood_X0_isRowGood : GoodIn wsX0_endOfGood wsX0_isRowGood := goodIn_r _ [30, 31, 16, 17, 18, 19, 20, 21, 22, 32, 33, 34, 35, 36, 37, 38, 39, 40, 41, 42, 43, 44, 45, 46, 47, 48, 49, 58, 59] (by decide +kernel) (by decide +kernel)
set_option maxRecDepth 20000 in
theorem gX0_endOfGood_X0_isRowGood : GoodIn wsX0_endOfGood (va_wsS RX0 55 yX0_isRowGood wsX0_isRowGood) := goodIn_app (goodIn_of _ (by decide +kernel)) ggX0_endOfGood_X0_isRowGood
set_option maxRecDepth 20000 in
theorem ggX0_endOfGood_X1_number : GoodIn wsX0_endOfGood wsX1_number := goodIn_r _ [39, 40, 17, 18, 19, 20, 21, 22, 58, 59] (by decide +kernel) (by decide +kernel)
set_option maxRecDepth 20000 in
theorem gX0_endOfGood_X1_number : GoodIn wsX0_endOfGood (wsV RX0 59 RX1 yX1_number wsX1_number) := goodIn_app (goodIn_of _ (by decide +kernel)) ggX0_endOfGood_X1_number
set_option maxRecDepth 20000 in
theorem ggX0_endOfGood_X0_isEndGood : GoodIn wsX0_endOfGood wsX0_isEndGood := goodIn_r _ [52, 32, 33, 34, 19, 35, 21, 16, 17, 18, 20, 22, 36, 37, 38, 39, 40, 41, 42, 43, 44, 45, 46, 47, 48, 49, 58, 59] (by decide +kernel) (by decide +kernel)
set_option maxRecDepth 20000 in
theorem gX0_endOfGood_X0_isEndGood : GoodIn wsX0_endOfGood (va_wsS RX0 62 yX0_isEndGood wsX0_isEndGood) := goodIn_app (goodIn_of _ (by decide +kernel)) ggX0_endOfGood_X0_isEndGood
set_option maxRecDepth 20000 in
theorem ggX0_isRowGood_X1_get : GoodIn wsX0_isRowGood wsX1_get := goodIn_r _ [6, 7, 8, 27, 28] (by decide +kernel) (by decide +kernel)
set_option maxRecDepth 20000 in
theorem gX0_isRowGood_X1_get : GoodIn wsX0_isRowGood (wsV RX0 52 RX1 yX1_get wsX1_get) := goodIn_app (goodIn_of _ (by decide +kernel)) ggX0_isRowGood_X1_get
set_option maxRecDepth 20000 in
theorem ggX0_isRowGood_X1_size : GoodIn wsX0_isRowGood wsX1_size := goodIn_r _ [12, 7, 27, 28] (by decide +kernel) (by decide +kernel)
set_option maxRecDepth 20000 in
theorem gX0_isRowGood_X1_size : GoodIn wsX0_isRowGood (wsV RX0 21 RX1 yX1_size wsX1_size) := goodIn_app (goodIn_of _ (by decide +kernel)) ggX0_isRowGood_X1_size
set_option maxRecDepth 20000 in
theorem ggX0_isRowGood_X1_number : GoodIn wsX0_isRowGood wsX1_number := goodIn_r _ [16, 17, 3, 4, 5, 6, 7, 8, 27, 28] (by decide +kernel) (by decide +kernel)
set_option maxRecDepth 20000 in
theorem gX0_isRowGood_X1_number : GoodIn wsX0_isRowGood (wsV RX0 59 RX1 yX1_number wsX1_number) := goodIn_app (goodIn_of _ (by decide +kernel)) ggX0_isRowGood_X1_number
set_option maxRecDepth 20000 in
theorem ggX0_isRowGood_X1_sumOf : GoodIn wsX0_isRowGood wsX1_sumOf := goodIn_r _ [21, 22, 17, 3, 4, 5, 6, 7, 8, 23, 24, 25, 26, 27, 28] (by decide +kernel) (by decide +kernel)
set_option maxRecDepth 20000 in
theorem gX0_isRowGood_X1_sumOf : GoodIn wsX0_isRowGood (wsV RX0 30 RX1 yX1_sumOf wsX1_sumOf) := goodIn_app (goodIn_of _ (by decide +kernel)) ggX0_isRowGood_X1_sumOf
set_option maxRecDepth 20000 in
theorem ggX0_isEndGood_X1_size : GoodIn wsX0_isEndGood wsX1_size := goodIn_r _ [5, 6, 26, 27] (by decide +kernel) (by decide +kernel)
set_option maxRecDepth 20000 in
theorem gX0_isEndGood_X1_size : GoodIn wsX0_isEndGood (wsV RX0 21 RX1 yX1_size wsX1_size) := goodIn_app (goodIn_of _ (by decide +kernel)) ggX0_isEndGood_X1_size
set_option maxRecDepth 20000 in
theorem ggX0_isEndGood_X1_get : GoodIn wsX0_isEndGood wsX1_get := goodIn_r _ [10, 6, 11, 26, 27] (by decide +kernel) (by decide +kernel)
set_option maxRecDepth 20000 in
theorem gX0_isEndGood_X1_get : GoodIn wsX0_isEndGood (wsV RX0 52 RX1 yX1_get wsX1_get) := goodIn_app (goodIn_of _ (by decide +kernel)) ggX0_isEndGood_X1_get
set_option maxRecDepth 20000 in
theorem ggX0_isEndGood_X1_number : GoodIn wsX0_isEndGood wsX1_number := goodIn_r _ [15, 16, 8, 9, 4, 10, 6, 11, 26, 27] (by decide +kernel) (by decide +kernel)
set_option maxRecDepth 20000 in
theorem gX0_isEndGood_X1_number : GoodIn wsX0_isEndGood (wsV RX0 59 RX1 yX1_number wsX1_number) := goodIn_app (goodIn_of _ (by decide +kernel)) ggX0_isEndGood_X1_number
set_option maxRecDepth 20000 in
theorem ggX0_isEndGood_X1_sumOf : GoodIn wsX0_isEndGood wsX1_sumOf := goodIn_r _ [20, 21, 16, 8, 9, 4, 10, 6, 11, 22, 23, 24, 25, 26, 27] (by decide +kernel) (by decide +kernel)
set_option maxRecDepth 20000 in
theorem gX0_isEndGood_X1_sumOf : GoodIn wsX0_isEndGood (wsV RX0 30 RX1 yX1_sumOf wsX1_sumOf) := goodIn_app (goodIn_of _ (by decide +kernel)) ggX0_isEndGood_X1_sumOf
set_option maxRecDepth 20000 in
theorem ggX0_read_X1_get : GoodIn wsX0_read wsX1_get := goodIn_r _ [5, 6, 7, 35, 36] (by decide +kernel) (by decide +kernel)
set_option maxRecDepth 20000 in
theorem gX0_read_X1_get : GoodIn wsX0_read (wsV RX0 52 RX1 yX1_get wsX1_get) := goodIn_app (goodIn_of _ (by decide +kernel)) ggX0_read_X1_get
set_option maxRecDepth 20000 in
theorem ggX0_read_X1_number : GoodIn wsX0_read wsX1_number := goodIn_r _ [11, 12, 2, 3, 4, 5, 6, 7, 35, 36] (by decide +kernel) (by decide +kernel)
set_option maxRecDepth 20000 in
theorem gX0_read_X1_number : GoodIn wsX0_read (wsV RX0 59 RX1 yX1_number wsX1_number) := goodIn_app (goodIn_of _ (by decide +kernel)) ggX0_read_X1_number
set_option maxRecDepth 20000 in
theorem ggX0_read_X2_begin : GoodIn wsX0_read wsX2_begin := goodIn_r _ [17, 18, 19, 20, 21, 37, 38, 39, 40, 41] (by decide +kernel) (by decide +kernel)
set_option maxRecDepth 20000 in
theorem gX0_read_X2_begin : GoodIn wsX0_read (wsV RX0 67 RX2 yX2_begin wsX2_begin) := goodIn_app (goodIn_of _ (by decide +kernel)) ggX0_read_X2_begin
set_option maxRecDepth 20000 in
theorem ggX0_read_X2_push : GoodIn wsX0_read wsX2_push := goodIn_r _ [25, 18, 20, 26, 27, 28, 29, 16, 30, 37, 38, 39, 40, 41] (by decide +kernel) (by decide +kernel)
set_option maxRecDepth 20000 in
theorem gX0_read_X2_push : GoodIn wsX0_read (wsV RX0 70 RX2 yX2_push wsX2_push) := goodIn_app (goodIn_of _ (by decide +kernel)) ggX0_read_X2_push
set_option maxRecDepth 20000 in
theorem ggX0_read_X2_endGroupHere : GoodIn wsX0_read wsX2_endGroupHere := goodIn_r _ [34, 18, 21, 27, 28, 29, 16, 30, 37, 38, 39, 40, 41] (by decide +kernel) (by decide +kernel)
set_option maxRecDepth 20000 in
theorem gX0_read_X2_endGroupHere : GoodIn wsX0_read (wsV RX0 73 RX2 yX2_endGroupHere wsX2_endGroupHere) := goodIn_app (goodIn_of _ (by decide +kernel)) ggX0_read_X2_endGroupHere
set_option maxRecDepth 20000 in
theorem ggX1_addNumber_X1_add : GoodIn wsX1_addNumber wsX1_add := goodIn_r _ [5, 6, 7, 8, 9] (by decide +kernel) (by decide +kernel)
set_option maxRecDepth 20000 in
theorem gX1_addNumber_X1_add : GoodIn wsX1_addNumber (wsV RX1 19 RX1 yX1_add wsX1_add) := goodIn_app (goodIn_of _ (by decide +kernel)) ggX1_addNumber_X1_add
set_option maxRecDepth 20000 in
theorem ggX1_number_X1_get : GoodIn wsX1_number wsX1_get := goodIn_r _ [5, 6, 7, 8, 9] (by decide +kernel) (by decide +kernel)
set_option maxRecDepth 20000 in
theorem gX1_number_X1_get : GoodIn wsX1_number (wsV RX1 23 RX1 yX1_get wsX1_get) := goodIn_app (goodIn_of _ (by decide +kernel)) ggX1_number_X1_get
set_option maxRecDepth 20000 in
theorem ggX1_sumOf_X1_get : GoodIn wsX1_sumOf wsX1_get := goodIn_r _ [6, 7, 8, 13, 14] (by decide +kernel) (by decide +kernel)
set_option maxRecDepth 20000 in
theorem gX1_sumOf_X1_get : GoodIn wsX1_sumOf (wsV RX1 23 RX1 yX1_get wsX1_get) := goodIn_app (goodIn_of _ (by decide +kernel)) ggX1_sumOf_X1_get
set_option maxRecDepth 20000 in
theorem ggX1_sumOf_J6_rotateLeft_7cf53 : GoodIn wsX1_sumOf wsJ6_rotateLeft_7cf53 := goodIn_r _ [12] (by decide +kernel) (by decide +kernel)
set_option maxRecDepth 20000 in
theorem gX1_sumOf_J6_rotateLeft_7cf53 : GoodIn wsX1_sumOf (va_wsS RX1 27 yJ6_rotateLeft_7cf53 wsJ6_rotateLeft_7cf53) := goodIn_app (goodIn_of _ (by decide +kernel)) ggX1_sumOf_J6_rotateLeft_7cf53
set_option maxRecDepth 20000 in
theorem ggX1_agrees_X1_get : GoodIn wsX1_agrees wsX1_get := goodIn_r _ [5, 6, 7, 8, 9] (by decide +kernel) (by decide +kernel)
set_option maxRecDepth 20000 in
theorem gX1_agrees_X1_get : GoodIn wsX1_agrees (wsV RX1 23 RX1 yX1_get wsX1_get) := goodIn_app (goodIn_of _ (by decide +kernel)) ggX1_agrees_X1_get
set_option maxRecDepth 20000 in
theorem ggX1_copyFrom_X1_get : GoodIn wsX1_copyFrom wsX1_get := goodIn_r _ [7, 1, 2, 12, 13] (by decide +kernel) (by decide +kernel)
set_option maxRecDepth 20000 in
theorem gX1_copyFrom_X1_get : GoodIn wsX1_copyFrom (wsV RX1 23 RX1 yX1_get wsX1_get) := goodIn_app (goodIn_of _ (by decide +kernel)) ggX1_copyFrom_X1_get
set_option maxRecDepth 20000 in
theorem ggX1_copyFrom_X1_add : GoodIn wsX1_copyFrom wsX1_add := goodIn_r _ [11, 1, 2, 12, 13] (by decide +kernel) (by decide +kernel)
set_option maxRecDepth 20000 in
theorem gX1_copyFrom_X1_add : GoodIn wsX1_copyFrom (wsV RX1 19 RX1 yX1_add wsX1_add) := goodIn_app (goodIn_of _ (by decide +kernel)) ggX1_copyFrom_X1_add
set_option maxRecDepth 20000 in
theorem ggX2_push_X2_has : GoodIn wsX2_push wsX2_has := goodIn_r _ [8, 1, 9, 10, 11, 12, 13] (by decide +kernel) (by decide +kernel)
set_option maxRecDepth 20000 in
theorem gX2_push_X2_has : GoodIn wsX2_push (wsV RX2 31 RX2 yX2_has wsX2_has) := goodIn_app (goodIn_of _ (by decide +kernel)) ggX2_push_X2_has
set_option maxRecDepth 20000 in
theorem ggX2_endGroupHere_X2_has : GoodIn wsX2_endGroupHere wsX2_has := goodIn_r _ [7, 1, 8, 9, 10, 11, 12] (by decide +kernel) (by decide +kernel)
set_option maxRecDepth 20000 in
theorem gX2_endGroupHere_X2_has : GoodIn wsX2_endGroupHere (wsV RX2 31 RX2 yX2_has wsX2_has) := goodIn_app (goodIn_of _ (by decide +kernel)) ggX2_endGroupHere_X2_has
set_option maxRecDepth 20000 in
theorem ggX2_endsGroup_X2_has : GoodIn wsX2_endsGroup wsX2_has := goodIn_r _ [6, 7, 8, 9, 10, 11, 12] (by decide +kernel) (by decide +kernel)
set_option maxRecDepth 20000 in
theorem gX2_endsGroup_X2_has : GoodIn wsX2_endsGroup (wsV RX2 31 RX2 yX2_has wsX2_has) := goodIn_app (goodIn_of _ (by decide +kernel)) ggX2_endsGroup_X2_has
set_option maxRecDepth 20000 in
theorem ggX2_secondOf_X2_has : GoodIn wsX2_secondOf wsX2_has := goodIn_r _ [6, 7, 8, 9, 10, 11, 12] (by decide +kernel) (by decide +kernel)
set_option maxRecDepth 20000 in
theorem gX2_secondOf_X2_has : GoodIn wsX2_secondOf (wsV RX2 31 RX2 yX2_has wsX2_has) := goodIn_app (goodIn_of _ (by decide +kernel)) ggX2_secondOf_X2_has
set_option maxRecDepth 20000 in
theorem ggX2_lastSecond_X2_secondOf : GoodIn wsX2_lastSecond wsX2_secondOf := goodIn_r _ [6, 7, 8, 9, 10, 5, 11, 1, 12, 13, 14, 15, 16] (by decide +kernel) (by decide +kernel)
set_option maxRecDepth 20000 in
theorem gX2_lastSecond_X2_secondOf : GoodIn wsX2_lastSecond (wsV RX2 35 RX2 yX2_secondOf wsX2_secondOf) := goodIn_app (goodIn_of _ (by decide +kernel)) ggX2_lastSecond_X2_secondOf
set_option maxRecDepth 20000 in
theorem ggX2_monthOf_X2_secondOf : GoodIn wsX2_monthOf wsX2_secondOf := goodIn_r _ [6, 7, 8, 9, 10, 5, 11, 12, 13, 14, 15, 16, 17] (by decide +kernel) (by decide +kernel)
set_option maxRecDepth 20000 in
theorem gX2_monthOf_X2_secondOf : GoodIn wsX2_monthOf (wsV RX2 35 RX2 yX2_secondOf wsX2_secondOf) := goodIn_app (goodIn_of _ (by decide +kernel)) ggX2_monthOf_X2_secondOf
set_option maxRecDepth 20000 in
theorem ggX2_lengthOf_X2_has : GoodIn wsX2_lengthOf wsX2_has := goodIn_r _ [6, 7, 8, 9, 10, 11, 12] (by decide +kernel) (by decide +kernel)
set_option maxRecDepth 20000 in
theorem gX2_lengthOf_X2_has : GoodIn wsX2_lengthOf (wsV RX2 31 RX2 yX2_has wsX2_has) := goodIn_app (goodIn_of _ (by decide +kernel)) ggX2_lengthOf_X2_has
set_option maxRecDepth 20000 in
theorem ggX2_contentAt_X2_lengthOf : GoodIn wsX2_contentAt wsX2_lengthOf := goodIn_r _ [6, 7, 8, 9, 10, 5, 11, 12, 13, 14, 15, 16, 17] (by decide +kernel) (by decide +kernel)
set_option maxRecDepth 20000 in
theorem gX2_contentAt_X2_lengthOf : GoodIn wsX2_contentAt (wsV RX2 40 RX2 yX2_lengthOf wsX2_lengthOf) := goodIn_app (goodIn_of _ (by decide +kernel)) ggX2_contentAt_X2_lengthOf
set_option maxRecDepth 20000 in
theorem ggX2_bytesInFile_X2_lengthOf : GoodIn wsX2_bytesInFile wsX2_lengthOf := goodIn_r _ [5, 6, 7, 8, 9, 4, 10, 11, 17, 18, 19, 20, 21] (by decide +kernel) (by decide +kernel)
set_option maxRecDepth 20000 in
theorem gX2_bytesInFile_X2_lengthOf : GoodIn wsX2_bytesInFile (wsV RX2 40 RX2 yX2_lengthOf wsX2_lengthOf) := goodIn_app (goodIn_of _ (by decide +kernel)) ggX2_bytesInFile_X2_lengthOf
set_option maxRecDepth 20000 in
theorem ggX2_bytesInFile_X2_endsGroup : GoodIn wsX2_bytesInFile wsX2_endsGroup := goodIn_r _ [15, 16, 7, 8, 9, 4, 10, 11, 17, 18, 19, 20, 21] (by decide +kernel) (by decide +kernel)
set_option maxRecDepth 20000 in
theorem gX2_bytesInFile_X2_endsGroup : GoodIn wsX2_bytesInFile (wsV RX2 43 RX2 yX2_endsGroup wsX2_endsGroup) := goodIn_app (goodIn_of _ (by decide +kernel)) ggX2_bytesInFile_X2_endsGroup
set_option maxRecDepth 20000 in
theorem ggX3_init_X1_init : GoodIn wsX3_init wsX1_init := goodIn_r _ [17, 18, 2, 3, 13, 19, 30, 31] (by decide +kernel) (by decide +kernel)
set_option maxRecDepth 20000 in
theorem gX3_init_X1_init_n11 : GoodIn wsX3_init (wsX1_init) := ggX3_init_X1_init
set_option maxRecDepth 20000 in
theorem ggX3_init_X2_init : GoodIn wsX3_init wsX2_init := goodIn_r _ [21, 22, 2, 3, 23, 24, 25, 26, 27, 28, 13, 29, 42, 43, 44, 45, 46] (by decide +kernel) (by decide +kernel)
set_option maxRecDepth 20000 in
theorem gX3_init_X2_init_n21 : GoodIn wsX3_init (wsX2_init) := ggX3_init_X2_init
set_option maxRecDepth 20000 in
theorem ggX3_row_X2_lastSecond : GoodIn wsX3_row wsX2_lastSecond := goodIn_r _ [11, 12, 13, 14, 15, 10, 16, 17, 18, 19, 20, 21, 47, 48, 49, 50, 51] (by decide +kernel) (by decide +kernel)
set_option maxRecDepth 20000 in
theorem gX3_row_X2_lastSecond : GoodIn wsX3_row (wsV RX3 42 RX2 yX2_lastSecond wsX2_lastSecond) := goodIn_app (goodIn_of _ (by decide +kernel)) ggX3_row_X2_lastSecond
set_option maxRecDepth 20000 in
theorem ggX3_row_X2_count : GoodIn wsX3_row wsX2_count := goodIn_r _ [25, 12, 47, 48, 49, 50, 51] (by decide +kernel) (by decide +kernel)
set_option maxRecDepth 20000 in
theorem gX3_row_X2_count : GoodIn wsX3_row (wsV RX3 46 RX2 yX2_count wsX2_count) := goodIn_app (goodIn_of _ (by decide +kernel)) ggX3_row_X2_count
set_option maxRecDepth 20000 in
theorem ggX3_row_X2_begin : GoodIn wsX3_row wsX2_begin := goodIn_r _ [29, 12, 17, 30, 31, 47, 48, 49, 50, 51] (by decide +kernel) (by decide +kernel)
set_option maxRecDepth 20000 in
theorem gX3_row_X2_begin : GoodIn wsX3_row (wsV RX3 52 RX2 yX2_begin wsX2_begin) := goodIn_app (goodIn_of _ (by decide +kernel)) ggX3_row_X2_begin
set_option maxRecDepth 20000 in
theorem ggX3_row_X2_push : GoodIn wsX3_row wsX2_push := goodIn_r _ [35, 12, 30, 36, 18, 19, 20, 10, 21, 47, 48, 49, 50, 51] (by decide +kernel) (by decide +kernel)
set_option maxRecDepth 20000 in
theorem gX3_row_X2_push : GoodIn wsX3_row (wsV RX3 56 RX2 yX2_push wsX2_push) := goodIn_app (goodIn_of _ (by decide +kernel)) ggX3_row_X2_push
set_option maxRecDepth 20000 in
theorem ggX3_endGroup_X2_count : GoodIn wsX3_endGroup wsX2_count := goodIn_r _ [10, 11, 96, 97, 98, 99, 100] (by decide +kernel) (by decide +kernel)
set_option maxRecDepth 20000 in
theorem gX3_endGroup_X2_count : GoodIn wsX3_endGroup (wsV RX3 46 RX2 yX2_count wsX2_count) := goodIn_app (goodIn_of _ (by decide +kernel)) ggX3_endGroup_X2_count
set_option maxRecDepth 20000 in
theorem ggX3_endGroup_X2_bytesInFile : GoodIn wsX3_endGroup wsX2_bytesInFile := goodIn_r _ [15, 16, 17, 18, 9, 19, 20, 21, 22, 23, 24, 11, 25, 26, 27, 28, 29, 96, 97, 98, 99, 100] (by decide +kernel) (by decide +kernel)
set_option maxRecDepth 20000 in
theorem gX3_endGroup_X2_bytesInFile : GoodIn wsX3_endGroup (wsV RX3 59 RX2 yX2_bytesInFile wsX2_bytesInFile) := goodIn_app (goodIn_of _ (by decide +kernel)) ggX3_endGroup_X2_bytesInFile
set_option maxRecDepth 20000 in
theorem ggX3_endGroup_X1_hasRoomFor : GoodIn wsX3_endGroup wsX1_hasRoomFor := goodIn_r _ [34, 35, 36, 101, 102] (by decide +kernel) (by decide +kernel)
set_option maxRecDepth 20000 in
theorem gX3_endGroup_X1_hasRoomFor : GoodIn wsX3_endGroup (wsV RX3 63 RX1 yX1_hasRoomFor wsX1_hasRoomFor) := goodIn_app (goodIn_of _ (by decide +kernel)) ggX3_endGroup_X1_hasRoomFor
set_option maxRecDepth 20000 in
theorem ggX3_endGroup_X0_write : GoodIn wsX3_endGroup wsX0_write := goodIn_r _ [40, 41, 7, 8, 9, 10, 11, 42, 43, 39, 44, 45, 46, 47, 33, 48, 36, 49, 17, 18, 19, 20, 21, 22, 23, 24, 50, 51, 52, 53, 35, 54, 55, 56, 57, 58, 59, 60, 61, 62, 63, 64, 65, 66, 67, 68, 16, 69, 70, 71, 72, 73, 74, 75, 76, 77, 78, 79, 80, 81, 96, 97, 98, 99, 100, 101, 102] (by decide +kernel) (by decide +kernel)
set_option maxRecDepth 20000 in
theorem gX3_endGroup_X0_write : GoodIn wsX3_endGroup (va_wsS RX3 67 yX0_write wsX0_write) := goodIn_app (goodIn_of _ (by decide +kernel)) ggX3_endGroup_X0_write
set_option maxRecDepth 20000 in
theorem ggX3_endGroup_X2_endGroupHere : GoodIn wsX3_endGroup wsX2_endGroupHere := goodIn_r _ [85, 11, 29, 21, 22, 23, 9, 24, 96, 97, 98, 99, 100] (by decide +kernel) (by decide +kernel)
set_option maxRecDepth 20000 in
theorem gX3_endGroup_X2_endGroupHere : GoodIn wsX3_endGroup (wsV RX3 73 RX2 yX2_endGroupHere wsX2_endGroupHere) := goodIn_app (goodIn_of _ (by decide +kernel)) ggX3_endGroup_X2_endGroupHere
set_option maxRecDepth 20000 in
theorem ggX3_crash_X3_isFile : GoodIn wsX3_crash wsX3_isFile := goodIn_r _ [5] (by decide +kernel) (by decide +kernel)
set_option maxRecDepth 20000 in
theorem gX3_crash_X3_isFile : GoodIn wsX3_crash (va_wsS RX3 76 yX3_isFile wsX3_isFile) := goodIn_app (goodIn_of _ (by decide +kernel)) ggX3_crash_X3_isFile
set_option maxRecDepth 20000 in
theorem ggX3_crash_X3_fileOf : GoodIn wsX3_crash wsX3_fileOf := goodIn_r _ [9, 10, 11, 36, 37, 38, 39, 40, 41, 42, 43, 44, 45] (by decide +kernel) (by decide +kernel)
set_option maxRecDepth 20000 in
theorem gX3_crash_X3_fileOf : GoodIn wsX3_crash (wsV RX3 79 RX3 yX3_fileOf wsX3_fileOf) := goodIn_app (goodIn_of _ (by decide +kernel)) ggX3_crash_X3_fileOf
set_option maxRecDepth 20000 in
theorem ggX3_crash_X1_size : GoodIn wsX3_crash wsX1_size := goodIn_r _ [16, 17, 46, 47] (by decide +kernel) (by decide +kernel)
set_option maxRecDepth 20000 in
theorem gX3_crash_X1_size : GoodIn wsX3_crash (wsV RX3 83 RX1 yX1_size wsX1_size) := goodIn_app (goodIn_of _ (by decide +kernel)) ggX3_crash_X1_size
set_option maxRecDepth 20000 in
theorem ggX3_crash_X1_cutTo : GoodIn wsX3_crash wsX1_cutTo := goodIn_r _ [21, 17, 46, 47] (by decide +kernel) (by decide +kernel)
set_option maxRecDepth 20000 in
theorem gX3_crash_X1_cutTo : GoodIn wsX3_crash (wsV RX3 86 RX1 yX1_cutTo wsX1_cutTo) := goodIn_app (goodIn_of _ (by decide +kernel)) ggX3_crash_X1_cutTo
set_option maxRecDepth 20000 in
theorem ggX3_crash_X3_forgetAllButMoved : GoodIn wsX3_crash wsX3_forgetAllButMoved := goodIn_r _ [25, 26, 27, 28, 29, 30, 31, 32, 33, 34, 35, 36, 37, 38, 39, 40, 41, 42, 43, 44, 45, 48, 49, 50, 51, 52] (by decide +kernel) (by decide +kernel)
set_option maxRecDepth 20000 in
theorem gX3_crash_X3_forgetAllButMoved : GoodIn wsX3_crash (wsV RX3 89 RX3 yX3_forgetAllButMoved wsX3_forgetAllButMoved) := goodIn_app (goodIn_of _ (by decide +kernel)) ggX3_crash_X3_forgetAllButMoved
set_option maxRecDepth 20000 in
theorem ggX3_reopen_X3_forgetAllButMoved : GoodIn wsX3_reopen wsX3_forgetAllButMoved := goodIn_r _ [12, 6, 13, 7, 14, 15, 16, 17, 18, 19, 20, 118, 119, 120, 121, 122, 123, 124, 125, 126, 127, 128, 129, 130, 131, 132] (by decide +kernel) (by decide +kernel)
set_option maxRecDepth 20000 in
theorem gX3_reopen_X3_forgetAllButMoved : GoodIn wsX3_reopen (wsV RX3 89 RX3 yX3_forgetAllButMoved wsX3_forgetAllButMoved) := goodIn_app (goodIn_of _ (by decide +kernel)) ggX3_reopen_X3_forgetAllButMoved
set_option maxRecDepth 20000 in
theorem ggX3_reopen_X3_takeGoodGroups : GoodIn wsX3_reopen wsX3_takeGoodGroups := goodIn_r _ [24, 3, 4, 25, 26, 27, 11, 28, 6, 2, 29, 30, 31, 32, 33, 34, 35, 18, 36, 20, 37, 38, 39, 40, 41, 42, 43, 44, 45, 46, 47, 48, 49, 50, 51, 52, 53, 54, 55, 56, 57, 58, 59, 60, 61, 62, 63, 64, 65, 66, 67, 68, 69, 70, 71, 72, 73, 74, 75, 76, 77, 78, 79, 80, 81, 82, 83, 84, 85, 86, 87, 88, 89, 90, 91, 92, 93, 94, 95, 96, 97, 98, 99, 100, 101, 102, 103, 104, 105, 106, 107, 108, 109, 110, 111, 118, 119, 120, 121, 122, 123, 124, 125, 126, 127, 128, 129, 130, 131, 132, 133, 134] (by decide +kernel) (by decide +kernel)
set_option maxRecDepth 20000 in
theorem gX3_reopen_X3_takeGoodGroups : GoodIn wsX3_reopen (wsV RX3 95 RX3 yX3_takeGoodGroups wsX3_takeGoodGroups) := goodIn_app (goodIn_of _ (by decide +kernel)) ggX3_reopen_X3_takeGoodGroups
set_option maxRecDepth 20000 in
theorem ggX3_reopen_X1_size : GoodIn wsX3_reopen wsX1_size := goodIn_r _ [64, 51, 133, 134] (by decide +kernel) (by decide +kernel)
set_option maxRecDepth 20000 in
theorem gX3_reopen_X1_size : GoodIn wsX3_reopen (wsV RX3 83 RX1 yX1_size wsX1_size) := goodIn_app (goodIn_of _ (by decide +kernel)) ggX3_reopen_X1_size
set_option maxRecDepth 20000 in
theorem ggX3_reopen_X1_cutTo : GoodIn wsX3_reopen wsX1_cutTo := goodIn_r _ [116, 51, 133, 134] (by decide +kernel) (by decide +kernel)
set_option maxRecDepth 20000 in
theorem gX3_reopen_X1_cutTo : GoodIn wsX3_reopen (wsV RX3 86 RX1 yX1_cutTo wsX1_cutTo) := goodIn_app (goodIn_of _ (by decide +kernel)) ggX3_reopen_X1_cutTo
set_option maxRecDepth 20000 in
theorem ggX3_reopen_X2_count : GoodIn wsX3_reopen wsX2_count := goodIn_r _ [56, 20, 128, 129, 130, 131, 132] (by decide +kernel) (by decide +kernel)
set_option maxRecDepth 20000 in
theorem gX3_reopen_X2_count : GoodIn wsX3_reopen (wsV RX3 46 RX2 yX2_count wsX2_count) := goodIn_app (goodIn_of _ (by decide +kernel)) ggX3_reopen_X2_count
set_option maxRecDepth 20000 in
theorem ggX3_byteAt_X2_contentAt : GoodIn wsX3_byteAt wsX2_contentAt := goodIn_r _ [10, 11, 12, 13, 14, 9, 15, 16, 17, 18, 19, 20, 21, 38, 39, 40, 41, 42] (by decide +kernel) (by decide +kernel)
set_option maxRecDepth 20000 in
theorem gX3_byteAt_X2_contentAt : GoodIn wsX3_byteAt (wsV RX3 105 RX2 yX2_contentAt wsX2_contentAt) := goodIn_app (goodIn_of _ (by decide +kernel)) ggX3_byteAt_X2_contentAt
set_option maxRecDepth 20000 in
theorem ggX3_poke_X3_isFile : GoodIn wsX3_poke wsX3_isFile := goodIn_r _ [4] (by decide +kernel) (by decide +kernel)
set_option maxRecDepth 20000 in
theorem gX3_poke_X3_isFile : GoodIn wsX3_poke (va_wsS RX3 76 yX3_isFile wsX3_isFile) := goodIn_app (goodIn_of _ (by decide +kernel)) ggX3_poke_X3_isFile
set_option maxRecDepth 20000 in
theorem ggX3_poke_X3_fileOf : GoodIn wsX3_poke wsX3_fileOf := goodIn_r _ [8, 9, 10, 22, 23, 24, 25, 26, 27, 28, 29, 30, 31] (by decide +kernel) (by decide +kernel)
set_option maxRecDepth 20000 in
theorem gX3_poke_X3_fileOf : GoodIn wsX3_poke (wsV RX3 79 RX3 yX3_fileOf wsX3_fileOf) := goodIn_app (goodIn_of _ (by decide +kernel)) ggX3_poke_X3_fileOf
set_option maxRecDepth 20000 in
theorem ggX3_poke_X1_size : GoodIn wsX3_poke wsX1_size := goodIn_r _ [15, 16, 32, 33] (by decide +kernel) (by decide +kernel)
set_option maxRecDepth 20000 in
theorem gX3_poke_X1_size : GoodIn wsX3_poke (wsV RX3 83 RX1 yX1_size wsX1_size) := goodIn_app (goodIn_of _ (by decide +kernel)) ggX3_poke_X1_size
set_option maxRecDepth 20000 in
theorem ggX3_poke_X1_alter : GoodIn wsX3_poke wsX1_alter := goodIn_r _ [20, 16, 21, 32, 33] (by decide +kernel) (by decide +kernel)
set_option maxRecDepth 20000 in
theorem gX3_poke_X1_alter : GoodIn wsX3_poke (wsV RX3 108 RX1 yX1_alter wsX1_alter) := goodIn_app (goodIn_of _ (by decide +kernel)) ggX3_poke_X1_alter
set_option maxRecDepth 20000 in
theorem ggX3_move_X2_count : GoodIn wsX3_move wsX2_count := goodIn_r _ [11, 12, 84, 85, 86, 87, 88] (by decide +kernel) (by decide +kernel)
set_option maxRecDepth 20000 in
theorem gX3_move_X2_count : GoodIn wsX3_move (wsV RX3 46 RX2 yX2_count wsX2_count) := goodIn_app (goodIn_of _ (by decide +kernel)) ggX3_move_X2_count
set_option maxRecDepth 20000 in
theorem ggX3_move_X3_same : GoodIn wsX3_move wsX3_same := goodIn_r _ [17, 5, 6, 18, 19, 20, 21, 22, 23, 24, 25, 26, 27, 28, 29, 30, 31, 32, 74, 75, 76, 77, 78, 79, 80, 81, 82, 83, 89, 90] (by decide +kernel) (by decide +kernel)
set_option maxRecDepth 20000 in
theorem gX3_move_X3_same : GoodIn wsX3_move (wsV RX3 112 RX3 yX3_same wsX3_same) := goodIn_app (goodIn_of _ (by decide +kernel)) ggX3_move_X3_same
set_option maxRecDepth 20000 in
theorem ggX3_move_X3_endOfGroupsUpTo : GoodIn wsX3_move wsX3_endOfGroupsUpTo := goodIn_r _ [36, 4, 3, 2, 37, 38, 39, 10, 40, 41, 42, 43, 44, 45, 46, 47, 48, 49, 50, 12, 51, 52, 53, 54, 55, 74, 75, 76, 77, 78, 79, 80, 81, 82, 83, 84, 85, 86, 87, 88] (by decide +kernel) (by decide +kernel)
set_option maxRecDepth 20000 in
theorem gX3_move_X3_endOfGroupsUpTo : GoodIn wsX3_move (wsV RX3 116 RX3 yX3_endOfGroupsUpTo wsX3_endOfGroupsUpTo) := goodIn_app (goodIn_of _ (by decide +kernel)) ggX3_move_X3_endOfGroupsUpTo
set_option maxRecDepth 20000 in
theorem ggX3_move_X2_bytesInFile : GoodIn wsX3_move wsX2_bytesInFile := goodIn_r _ [59, 60, 61, 62, 10, 63, 64, 47, 48, 49, 50, 12, 65, 52, 53, 54, 55, 84, 85, 86, 87, 88] (by decide +kernel) (by decide +kernel)
set_option maxRecDepth 20000 in
theorem gX3_move_X2_bytesInFile : GoodIn wsX3_move (wsV RX3 59 RX2 yX2_bytesInFile wsX2_bytesInFile) := goodIn_app (goodIn_of _ (by decide +kernel)) ggX3_move_X2_bytesInFile
set_option maxRecDepth 20000 in
theorem ggX3_move_X1_dropFirst : GoodIn wsX3_move wsX1_dropFirst := goodIn_r _ [69, 23, 32, 70, 71, 72, 73, 89, 90] (by decide +kernel) (by decide +kernel)
set_option maxRecDepth 20000 in
theorem gX3_move_X1_dropFirst : GoodIn wsX3_move (wsV RX3 123 RX1 yX1_dropFirst wsX1_dropFirst) := goodIn_app (goodIn_of _ (by decide +kernel)) ggX3_move_X1_dropFirst
set_option maxRecDepth 20000 in
theorem ggX3_rows_X2_monthOf : GoodIn wsX3_rows wsX2_monthOf := goodIn_r _ [7, 8, 9, 10, 11, 6, 12, 13, 14, 15, 16, 17, 18, 29, 30, 31, 32, 33] (by decide +kernel) (by decide +kernel)
set_option maxRecDepth 20000 in
theorem gX3_rows_X2_monthOf : GoodIn wsX3_rows (wsV RX3 126 RX2 yX2_monthOf wsX2_monthOf) := goodIn_app (goodIn_of _ (by decide +kernel)) ggX3_rows_X2_monthOf
set_option maxRecDepth 20000 in
theorem ggX3_same_X1_size : GoodIn wsX3_same wsX1_size := goodIn_r _ [7, 8, 28, 29] (by decide +kernel) (by decide +kernel)
set_option maxRecDepth 20000 in
theorem gX3_same_X1_size : GoodIn wsX3_same (wsV RX3 83 RX1 yX1_size wsX1_size) := goodIn_app (goodIn_of _ (by decide +kernel)) ggX3_same_X1_size
set_option maxRecDepth 20000 in
theorem ggX3_same_X1_agrees : GoodIn wsX3_same wsX1_agrees := goodIn_r _ [12, 13, 14, 15, 6, 16, 8, 17, 28, 29] (by decide +kernel) (by decide +kernel)
set_option maxRecDepth 20000 in
theorem gX3_same_X1_agrees : GoodIn wsX3_same (wsV RX3 129 RX1 yX1_agrees wsX1_agrees) := goodIn_app (goodIn_of _ (by decide +kernel)) ggX3_same_X1_agrees
set_option maxRecDepth 20000 in
theorem ggX3_forgetAllButMoved_X2_cutTo : GoodIn wsX3_forgetAllButMoved wsX2_cutTo := goodIn_r _ [9, 10, 21, 22, 23, 24, 25] (by decide +kernel) (by decide +kernel)
set_option maxRecDepth 20000 in
theorem gX3_forgetAllButMoved_X2_cutTo : GoodIn wsX3_forgetAllButMoved (wsV RX3 133 RX2 yX2_cutTo wsX2_cutTo) := goodIn_app (goodIn_of _ (by decide +kernel)) ggX3_forgetAllButMoved_X2_cutTo
set_option maxRecDepth 20000 in
theorem ggX3_takeGoodGroups_X3_takeGroup : GoodIn wsX3_takeGoodGroups wsX3_takeGroup := goodIn_r _ [7, 8, 9, 10, 11, 12, 13, 14, 15, 16, 17, 18, 19, 20, 21, 22, 23, 24, 25, 26, 27, 28, 29, 30, 31, 32, 33, 34, 35, 36, 37, 38, 39, 40, 41, 42, 43, 44, 45, 46, 47, 48, 49, 50, 51, 52, 53, 54, 55, 56, 57, 58, 59, 60, 61, 62, 63, 64, 65, 66, 67, 68, 69, 70, 71, 72, 73, 74, 75, 76, 77, 78, 79, 80, 81, 82, 83, 84, 85, 86, 87, 88, 89, 90, 91, 92, 93, 94, 95, 96, 97, 98, 99, 100, 101, 102, 103, 104, 105, 106, 107, 108, 109, 110, 111] (by decide +kernel) (by decide +kernel)
set_option maxRecDepth 20000 in
theorem gX3_takeGoodGroups_X3_takeGroup : GoodIn wsX3_takeGoodGroups (wsV RX3 134 RX3 yX3_takeGroup wsX3_takeGroup) := goodIn_app (goodIn_of _ (by decide +kernel)) ggX3_takeGoodGroups_X3_takeGroup
set_option maxRecDepth 20000 in
theorem ggX3_takeGroup_X0_endOfGood : GoodIn wsX3_takeGroup wsX0_endOfGood := goodIn_r _ [6, 7, 8, 9, 10, 11, 12, 13, 14, 15, 16, 17, 18, 19, 20, 21, 22, 23, 24, 25, 26, 27, 28, 29, 30, 31, 32, 33, 34, 5, 35, 36, 37, 38, 39, 40, 41, 42, 43, 44, 45, 46, 47, 48, 49, 50, 51, 52, 53, 54, 55, 56, 57, 98, 99, 100, 101, 102, 103, 104] (by decide +kernel) (by decide +kernel)
set_option maxRecDepth 20000 in
theorem gX3_takeGroup_X0_endOfGood : GoodIn wsX3_takeGroup (va_wsS RX3 138 yX0_endOfGood wsX0_endOfGood) := goodIn_app (goodIn_of _ (by decide +kernel)) ggX3_takeGroup_X0_endOfGood
set_option maxRecDepth 20000 in
theorem ggX3_takeGroup_X0_read : GoodIn wsX3_takeGroup wsX0_read := goodIn_r _ [60, 22, 23, 24, 25, 26, 27, 28, 41, 42, 43, 44, 45, 61, 62, 63, 10, 64, 12, 17, 65, 66, 67, 68, 69, 70, 71, 18, 19, 20, 21, 72, 73, 74, 75, 103, 104, 98, 99, 100, 101, 102] (by decide +kernel) (by decide +kernel)
set_option maxRecDepth 20000 in
theorem gX3_takeGroup_X0_read : GoodIn wsX3_takeGroup (va_wsS RX3 142 yX0_read wsX0_read) := goodIn_app (goodIn_of _ (by decide +kernel)) ggX3_takeGroup_X0_read
set_option maxRecDepth 20000 in
theorem ggX3_takeGroup_X1_agrees : GoodIn wsX3_takeGroup wsX1_agrees := goodIn_r _ [79, 45, 23, 24, 25, 26, 27, 28, 103, 104] (by decide +kernel) (by decide +kernel)
set_option maxRecDepth 20000 in
theorem gX3_takeGroup_X1_agrees : GoodIn wsX3_takeGroup (wsV RX3 129 RX1 yX1_agrees wsX1_agrees) := goodIn_app (goodIn_of _ (by decide +kernel)) ggX3_takeGroup_X1_agrees
set_option maxRecDepth 20000 in
theorem ggX3_takeGroup_X1_copyFrom : GoodIn wsX3_takeGroup wsX1_copyFrom := goodIn_r _ [83, 27, 28, 45, 23, 24, 25, 26, 84, 85, 86, 87, 103, 104] (by decide +kernel) (by decide +kernel)
set_option maxRecDepth 20000 in
theorem gX3_takeGroup_X1_copyFrom : GoodIn wsX3_takeGroup (wsV RX3 146 RX1 yX1_copyFrom wsX1_copyFrom) := goodIn_app (goodIn_of _ (by decide +kernel)) ggX3_takeGroup_X1_copyFrom
set_option maxRecDepth 20000 in
theorem ggX3_endOfGroupsUpTo_X2_monthOf : GoodIn wsX3_endOfGroupsUpTo wsX2_monthOf := goodIn_r _ [8, 9, 10, 11, 12, 7, 13, 14, 15, 16, 17, 18, 19, 35, 36, 37, 38, 39] (by decide +kernel) (by decide +kernel)
set_option maxRecDepth 20000 in
theorem gX3_endOfGroupsUpTo_X2_monthOf : GoodIn wsX3_endOfGroupsUpTo (wsV RX3 126 RX2 yX2_monthOf wsX2_monthOf) := goodIn_app (goodIn_of _ (by decide +kernel)) ggX3_endOfGroupsUpTo_X2_monthOf
set_option maxRecDepth 20000 in
theorem ggX3_endOfGroupsUpTo_X2_endsGroup : GoodIn wsX3_endOfGroupsUpTo wsX2_endsGroup := goodIn_r _ [23, 24, 15, 16, 17, 7, 18, 19, 35, 36, 37, 38, 39] (by decide +kernel) (by decide +kernel)
set_option maxRecDepth 20000 in
theorem gX3_endOfGroupsUpTo_X2_endsGroup : GoodIn wsX3_endOfGroupsUpTo (wsV RX3 150 RX2 yX2_endsGroup wsX2_endsGroup) := goodIn_app (goodIn_of _ (by decide +kernel)) ggX3_endOfGroupsUpTo_X2_endsGroup
set_option maxRecDepth 20000 in
theorem ggX4_row_X4_lastSecond : GoodIn wsX4_row wsX4_lastSecond := goodIn_r _ [15, 5, 7, 6, 16, 17, 18, 19, 20, 21, 22, 23, 24, 25, 26, 27, 28, 29, 30, 31, 32, 33, 34, 35, 36, 37, 38, 39] (by decide +kernel) (by decide +kernel)
set_option maxRecDepth 20000 in
theorem gX4_row_X4_lastSecond : GoodIn wsX4_row (wsV RX4 66 RX4 yX4_lastSecond wsX4_lastSecond) := goodIn_app (goodIn_of _ (by decide +kernel)) ggX4_row_X4_lastSecond
set_option maxRecDepth 20000 in
theorem ggX4_write_X4_summed : GoodIn wsX4_write wsX4_summed := goodIn_r _ [6, 7] (by decide +kernel) (by decide +kernel)
set_option maxRecDepth 20000 in
theorem gX4_write_X4_summed : GoodIn wsX4_write (va_wsS RX4 73 yX4_summed wsX4_summed) := goodIn_app (goodIn_of _ (by decide +kernel)) ggX4_write_X4_summed
set_option maxRecDepth 20000 in
theorem ggX4_four_X4_write : GoodIn wsX4_four wsX4_write := goodIn_r _ [5, 6, 7, 8, 9, 4, 10, 11, 12, 13, 14, 15, 16, 17, 18, 19, 20, 21, 22, 23, 24, 25, 26, 27, 28, 29, 30, 31, 32, 33, 34] (by decide +kernel) (by decide +kernel)
set_option maxRecDepth 20000 in
theorem gX4_four_X4_write : GoodIn wsX4_four (wsV RX4 77 RX4 yX4_write wsX4_write) := goodIn_app (goodIn_of _ (by decide +kernel)) ggX4_four_X4_write
set_option maxRecDepth 20000 in
theorem ggX4_endGroup_X4_write : GoodIn wsX4_endGroup wsX4_write := goodIn_r _ [20, 21, 6, 22, 23, 19, 24, 25, 30, 31, 32, 33, 34, 35, 36, 37, 38, 39, 40, 41, 42, 43, 44, 45, 46, 47, 48, 49, 50, 51, 52] (by decide +kernel) (by decide +kernel)
set_option maxRecDepth 20000 in
theorem gX4_endGroup_X4_write : GoodIn wsX4_endGroup (wsV RX4 77 RX4 yX4_write wsX4_write) := goodIn_app (goodIn_of _ (by decide +kernel)) ggX4_endGroup_X4_write
set_option maxRecDepth 20000 in
theorem ggX4_endGroup_X4_four : GoodIn wsX4_endGroup wsX4_four := goodIn_r _ [29, 16, 17, 18, 19, 20, 21, 6, 22, 23, 24, 25, 30, 31, 32, 33, 34, 35, 36, 37, 38, 39, 40, 41, 42, 43, 44, 45, 46, 47, 48, 49, 50, 51, 52] (by decide +kernel) (by decide +kernel)
set_option maxRecDepth 20000 in
theorem gX4_endGroup_X4_four : GoodIn wsX4_endGroup (wsV RX4 80 RX4 yX4_four wsX4_four) := goodIn_app (goodIn_of _ (by decide +kernel)) ggX4_endGroup_X4_four
set_option maxRecDepth 20000 in
theorem ggX4_crash_X4_forget : GoodIn wsX4_crash wsX4_forget := goodIn_r _ [8, 9, 10, 11, 12, 13, 14, 15, 16, 17, 18, 19, 20, 21, 22, 23, 24, 25, 26, 27, 28, 29, 30, 31, 32, 33, 34, 35, 36] (by decide +kernel) (by decide +kernel)
set_option maxRecDepth 20000 in
theorem gX4_crash_X4_forget : GoodIn wsX4_crash (wsV RX4 90 RX4 yX4_forget wsX4_forget) := goodIn_app (goodIn_of _ (by decide +kernel)) ggX4_crash_X4_forget
set_option maxRecDepth 20000 in
theorem ggX4_same_X4_areSame : GoodIn wsX4_same wsX4_areSame := goodIn_r _ [7, 2, 8, 9, 10, 11, 12, 13, 14, 15, 16, 17, 18, 19, 20, 21, 22, 23, 24, 25, 26, 27, 28, 29, 30, 31] (by decide +kernel) (by decide +kernel)
set_option maxRecDepth 20000 in
theorem gX4_same_X4_areSame : GoodIn wsX4_same (wsV RX4 93 RX4 yX4_areSame wsX4_areSame) := goodIn_app (goodIn_of _ (by decide +kernel)) ggX4_same_X4_areSame
set_option maxRecDepth 20000 in
theorem ggX4_sumOf_X4_summed : GoodIn wsX4_sumOf wsX4_summed := goodIn_r _ [5, 6] (by decide +kernel) (by decide +kernel)
set_option maxRecDepth 20000 in
theorem gX4_sumOf_X4_summed : GoodIn wsX4_sumOf (va_wsS RX4 73 yX4_summed wsX4_summed) := goodIn_app (goodIn_of _ (by decide +kernel)) ggX4_sumOf_X4_summed
set_option maxRecDepth 20000 in
theorem ggX4_isGood_X4_number : GoodIn wsX4_isGood wsX4_number := goodIn_r _ [12, 4, 21, 22, 23, 24, 25, 26, 27, 28, 29, 30, 31, 32, 33, 34, 35, 36, 37, 38, 39, 40, 41, 42, 43] (by decide +kernel) (by decide +kernel)
set_option maxRecDepth 20000 in
theorem gX4_isGood_X4_number : GoodIn wsX4_isGood (wsV RX4 97 RX4 yX4_number wsX4_number) := goodIn_app (goodIn_of _ (by decide +kernel)) ggX4_isGood_X4_number
set_option maxRecDepth 20000 in
theorem ggX4_isGood_X4_sumOf : GoodIn wsX4_isGood wsX4_sumOf := goodIn_r _ [16, 4, 17, 18, 11, 19, 20, 21, 22, 23, 24, 25, 26, 27, 28, 29, 30, 31, 32, 33, 34, 35, 36, 37, 38, 39, 40, 41, 42, 43] (by decide +kernel) (by decide +kernel)
set_option maxRecDepth 20000 in
theorem gX4_isGood_X4_sumOf : GoodIn wsX4_isGood (wsV RX4 101 RX4 yX4_sumOf wsX4_sumOf) := goodIn_app (goodIn_of _ (by decide +kernel)) ggX4_isGood_X4_sumOf
set_option maxRecDepth 20000 in
theorem ggX4_take_X4_number : GoodIn wsX4_take wsX4_number := goodIn_r _ [15, 2, 16, 17, 18, 19, 20, 21, 22, 23, 24, 25, 26, 27, 28, 29, 30, 31, 32, 33, 34, 35, 36, 37, 38] (by decide +kernel) (by decide +kernel)
set_option maxRecDepth 20000 in
theorem gX4_take_X4_number : GoodIn wsX4_take (wsV RX4 97 RX4 yX4_number wsX4_number) := goodIn_app (goodIn_of _ (by decide +kernel)) ggX4_take_X4_number
set_option maxRecDepth 20000 in
theorem ggX4_reopen_X4_forget : GoodIn wsX4_reopen wsX4_forget := goodIn_r _ [12, 13, 14, 15, 7, 16, 49, 50, 51, 52, 53, 54, 55, 56, 57, 58, 59, 60, 61, 62, 63, 64, 65, 66, 67, 68, 69, 70, 71] (by decide +kernel) (by decide +kernel)
set_option maxRecDepth 20000 in
theorem gX4_reopen_X4_forget : GoodIn wsX4_reopen (wsV RX4 90 RX4 yX4_forget wsX4_forget) := goodIn_app (goodIn_of _ (by decide +kernel)) ggX4_reopen_X4_forget
set_option maxRecDepth 20000 in
theorem ggX4_reopen_X4_isGood : GoodIn wsX4_reopen wsX4_isGood := goodIn_r _ [20, 7, 21, 5, 22, 23, 24, 4, 25, 26, 27, 11, 28, 29, 30, 31, 32, 33, 34, 35, 36, 49, 50, 51, 52, 53, 54, 55, 56, 57, 58, 59, 60, 61, 62, 63, 64, 65, 66, 67, 68, 69, 70, 71] (by decide +kernel) (by decide +kernel)
set_option maxRecDepth 20000 in
theorem gX4_reopen_X4_isGood : GoodIn wsX4_reopen (wsV RX4 114 RX4 yX4_isGood wsX4_isGood) := goodIn_app (goodIn_of _ (by decide +kernel)) ggX4_reopen_X4_isGood
set_option maxRecDepth 20000 in
theorem ggX4_reopen_X4_areSame : GoodIn wsX4_reopen wsX4_areSame := goodIn_r _ [40, 5, 22, 49, 50, 51, 52, 53, 54, 55, 56, 57, 58, 59, 60, 61, 62, 63, 64, 65, 66, 67, 68, 69, 70, 71] (by decide +kernel) (by decide +kernel)
set_option maxRecDepth 20000 in
theorem gX4_reopen_X4_areSame : GoodIn wsX4_reopen (wsV RX4 93 RX4 yX4_areSame wsX4_areSame) := goodIn_app (goodIn_of _ (by decide +kernel)) ggX4_reopen_X4_areSame
set_option maxRecDepth 20000 in
theorem ggX4_reopen_X4_take : GoodIn wsX4_reopen wsX4_take := goodIn_r _ [44, 24, 22, 21, 7, 45, 46, 4, 47, 16, 48, 25, 26, 27, 11, 28, 49, 50, 51, 52, 53, 54, 55, 56, 57, 58, 59, 60, 61, 62, 63, 64, 65, 66, 67, 68, 69, 70, 71] (by decide +kernel) (by decide +kernel)
set_option maxRecDepth 20000 in
theorem gX4_reopen_X4_take : GoodIn wsX4_reopen (wsV RX4 117 RX4 yX4_take wsX4_take) := goodIn_app (goodIn_of _ (by decide +kernel)) ggX4_reopen_X4_take
set_option maxRecDepth 20000 in
theorem ggX4_move_X4_areSame : GoodIn wsX4_move wsX4_areSame := goodIn_r _ [16, 4, 11, 17, 18, 19, 20, 21, 22, 23, 24, 25, 26, 27, 28, 29, 30, 31, 32, 33, 34, 35, 36, 37, 38, 39] (by decide +kernel) (by decide +kernel)
set_option maxRecDepth 20000 in
theorem gX4_move_X4_areSame : GoodIn wsX4_move (wsV RX4 93 RX4 yX4_areSame wsX4_areSame) := goodIn_app (goodIn_of _ (by decide +kernel)) ggX4_move_X4_areSame
set_option maxRecDepth 20000 in
theorem ggL_byteAt_X3_byteAt : GoodIn wsL_byteAt wsX3_byteAt := goodIn_r _ [5, 6, 7, 8, 9, 10, 11, 12, 13, 14, 15, 16, 17, 18, 19, 20, 21, 22, 23, 24, 25, 26, 27, 28, 29, 30, 31, 32, 33, 34, 35, 36, 37, 38, 39, 40, 41, 42, 43, 44, 45, 46, 47] (by decide +kernel) (by decide +kernel)
set_option maxRecDepth 20000 in
theorem gL_byteAt_X3_byteAt : GoodIn wsL_byteAt (wsV RL 7 RX3 yX3_byteAt wsX3_byteAt) := goodIn_app (goodIn_of _ (by decide +kernel)) ggL_byteAt_X3_byteAt
set_option maxRecDepth 20000 in
theorem ggL_law_X3_init : GoodIn wsL_law wsX3_init := goodIn_r _ [9, 10, 11, 12, 13, 14, 15, 16, 17, 18, 19, 20, 21, 22, 23, 24, 25, 26, 27, 28, 29, 30, 31, 32, 33, 34, 35, 36, 37, 38, 423, 424, 390, 391, 392, 393, 394, 395, 396, 397, 398, 399, 425, 426, 427, 428, 429] (by decide +kernel) (by decide +kernel)
set_option maxRecDepth 20000 in
theorem gL_law_X3_init : GoodIn wsL_law (wsX3_init) := ggL_law_X3_init
set_option maxRecDepth 20000 in
theorem ggL_law_X4_init : GoodIn wsL_law wsX4_init := goodIn_r _ [41, 42, 11, 12, 32, 43, 44, 45, 46, 47, 48, 49, 50, 51, 52, 53, 54, 55, 400, 401, 402, 403, 404, 405, 406, 407, 408, 409, 410, 411, 412, 413, 414, 415, 416, 417, 418, 419, 420, 421, 422] (by decide +kernel) (by decide +kernel)
set_option maxRecDepth 20000 in
theorem gL_law_X4_init : GoodIn wsL_law (wsX4_init) := ggL_law_X4_init
set_option maxRecDepth 20000 in
theorem ggL_law_X3_feed : GoodIn wsL_law wsX3_feed := goodIn_r _ [59, 60, 61, 23, 390, 391, 392, 393, 394, 395, 396, 397, 398, 399] (by decide +kernel) (by decide +kernel)
set_option maxRecDepth 20000 in
theorem gL_law_X3_feed : GoodIn wsL_law (wsV RL 19 RX3 yX3_feed wsX3_feed) := goodIn_app (goodIn_of _ (by decide +kernel)) ggL_law_X3_feed
set_option maxRecDepth 20000 in
theorem ggL_law_X4_feed : GoodIn wsL_law wsX4_feed := goodIn_r _ [65, 66, 67, 68, 54, 400, 401, 402, 403, 404, 405, 406, 407, 408, 409, 410, 411, 412, 413, 414, 415, 416, 417, 418, 419, 420, 421, 422] (by decide +kernel) (by decide +kernel)
set_option maxRecDepth 20000 in
theorem gL_law_X4_feed : GoodIn wsL_law (wsV RL 23 RX4 yX4_feed wsX4_feed) := goodIn_app (goodIn_of _ (by decide +kernel)) ggL_law_X4_feed
set_option maxRecDepth 20000 in
theorem ggL_law_X3_row : GoodIn wsL_law wsX3_row := goodIn_r _ [72, 60, 61, 73, 21, 74, 23, 75, 76, 77, 20, 78, 79, 80, 81, 82, 83, 33, 84, 85, 86, 87, 88, 89, 90, 91, 92, 93, 94, 95, 34, 36, 96, 97, 98, 99, 38, 390, 391, 392, 393, 394, 395, 396, 397, 398, 399, 425, 426, 427, 428, 429] (by decide +kernel) (by decide +kernel)
set_option maxRecDepth 20000 in
theorem gL_law_X3_row : GoodIn wsL_law (wsV RL 24 RX3 yX3_row wsX3_row) := goodIn_app (goodIn_of _ (by decide +kernel)) ggL_law_X3_row
set_option maxRecDepth 20000 in
theorem ggL_law_X4_row : GoodIn wsL_law wsX4_row := goodIn_r _ [103, 66, 67, 68, 104, 105, 106, 51, 52, 53, 54, 107, 108, 109, 5, 110, 45, 400, 401, 402, 403, 404, 405, 406, 407, 408, 409, 410, 411, 412, 413, 414, 415, 416, 417, 418, 419, 420, 421, 422] (by decide +kernel) (by decide +kernel)
set_option maxRecDepth 20000 in
theorem gL_law_X4_row : GoodIn wsL_law (wsV RL 28 RX4 yX4_row wsX4_row) := goodIn_app (goodIn_of _ (by decide +kernel)) ggL_law_X4_row
set_option maxRecDepth 20000 in
theorem ggL_law_X3_endGroup : GoodIn wsL_law wsX3_endGroup := goodIn_r _ [114, 60, 21, 74, 16, 17, 88, 89, 90, 20, 91, 79, 115, 116, 117, 118, 119, 120, 121, 122, 34, 84, 85, 86, 87, 123, 124, 125, 126, 36, 127, 128, 129, 15, 130, 28, 131, 132, 133, 134, 135, 136, 137, 138, 139, 140, 141, 142, 143, 144, 145, 146, 147, 148, 149, 81, 82, 83, 33, 150, 151, 152, 153, 154, 155, 156, 157, 158, 38, 159, 160, 161, 162, 163, 164, 165, 166, 167, 168, 169, 170, 171, 172, 173, 174, 175, 390, 391, 392, 393, 394, 395, 396, 397, 398, 399, 425, 426, 427, 428, 429, 423, 424] (by decide +kernel) (by decide +kernel)
set_option maxRecDepth 20000 in
theorem gL_law_X3_endGroup : GoodIn wsL_law (wsV RL 29 RX3 yX3_endGroup wsX3_endGroup) := goodIn_app (goodIn_of _ (by decide +kernel)) ggL_law_X3_endGroup
set_option maxRecDepth 20000 in
theorem ggL_law_X4_endGroup : GoodIn wsL_law wsX4_endGroup := goodIn_r _ [179, 66, 105, 52, 67, 44, 180, 51, 53, 48, 106, 45, 46, 49, 181, 50, 182, 183, 184, 5, 185, 43, 186, 187, 188, 189, 190, 191, 192, 193, 400, 401, 402, 403, 404, 405, 406, 407, 408, 409, 410, 411, 412, 413, 414, 415, 416, 417, 418, 419, 420, 421, 422] (by decide +kernel) (by decide +kernel)
set_option maxRecDepth 20000 in
theorem gL_law_X4_endGroup : GoodIn wsL_law (wsV RL 33 RX4 yX4_endGroup wsX4_endGroup) := goodIn_app (goodIn_of _ (by decide +kernel)) ggL_law_X4_endGroup
set_option maxRecDepth 20000 in
theorem ggL_law_X3_crash : GoodIn wsL_law wsX3_crash := goodIn_r _ [197, 60, 198, 199, 2, 200, 201, 202, 203, 204, 16, 17, 205, 141, 142, 15, 143, 131, 206, 207, 208, 209, 210, 211, 212, 213, 21, 214, 74, 61, 215, 216, 217, 20, 218, 79, 390, 391, 392, 393, 394, 395, 396, 397, 398, 399, 423, 424, 425, 426, 427, 428, 429] (by decide +kernel) (by decide +kernel)
set_option maxRecDepth 20000 in
theorem gL_law_X3_crash : GoodIn wsL_law (wsV RL 34 RX3 yX3_crash wsX3_crash) := goodIn_app (goodIn_of _ (by decide +kernel)) ggL_law_X3_crash
set_option maxRecDepth 20000 in
theorem ggL_law_X4_crash : GoodIn wsL_law wsX4_crash := goodIn_r _ [222, 66, 44, 67, 223, 224, 225, 5, 226, 68, 105, 227, 106, 181, 400, 401, 402, 403, 404, 405, 406, 407, 408, 409, 410, 411, 412, 413, 414, 415, 416, 417, 418, 419, 420, 421, 422] (by decide +kernel) (by decide +kernel)
set_option maxRecDepth 20000 in
theorem gL_law_X4_crash : GoodIn wsL_law (wsV RL 38 RX4 yX4_crash wsX4_crash) := goodIn_app (goodIn_of _ (by decide +kernel)) ggL_law_X4_crash
set_option maxRecDepth 20000 in
theorem ggL_law_X3_reopen : GoodIn wsL_law wsX3_reopen := goodIn_r _ [231, 60, 232, 16, 17, 24, 21, 74, 210, 211, 212, 2, 213, 214, 61, 215, 216, 217, 20, 218, 79, 233, 234, 235, 236, 237, 238, 239, 240, 241, 242, 134, 243, 244, 76, 77, 78, 80, 81, 82, 83, 33, 84, 85, 86, 87, 245, 165, 166, 15, 167, 131, 28, 136, 89, 90, 91, 246, 247, 248, 249, 140, 141, 142, 143, 250, 251, 252, 253, 164, 159, 160, 161, 162, 163, 168, 169, 170, 171, 254, 255, 256, 257, 258, 259, 260, 93, 94, 95, 34, 36, 261, 97, 98, 99, 38, 262, 173, 174, 175, 263, 264, 265, 266, 267, 268, 269, 270, 154, 146, 147, 148, 205, 206, 207, 208, 209, 88, 390, 391, 392, 393, 394, 395, 396, 397, 398, 399, 425, 426, 427, 428, 429, 423, 424] (by decide +kernel) (by decide +kernel)
set_option maxRecDepth 20000 in
theorem gL_law_X3_reopen : GoodIn wsL_law (wsV RL 39 RX3 yX3_reopen wsX3_reopen) := goodIn_app (goodIn_of _ (by decide +kernel)) ggL_law_X3_reopen
set_option maxRecDepth 20000 in
theorem ggL_law_X4_reopen : GoodIn wsL_law wsX4_reopen := goodIn_r _ [274, 66, 67, 275, 276, 44, 55, 106, 223, 224, 225, 5, 226, 68, 105, 227, 181, 277, 278, 279, 280, 45, 43, 104, 281, 282, 283, 284, 285, 286, 287, 288, 289, 186, 187, 188, 189, 290, 291, 292, 293, 294, 295, 296, 297, 46, 48, 49, 50, 400, 401, 402, 403, 404, 405, 406, 407, 408, 409, 410, 411, 412, 413, 414, 415, 416, 417, 418, 419, 420, 421, 422] (by decide +kernel) (by decide +kernel)
set_option maxRecDepth 20000 in
theorem gL_law_X4_reopen : GoodIn wsL_law (wsV RL 43 RX4 yX4_reopen wsX4_reopen) := goodIn_app (goodIn_of _ (by decide +kernel)) ggL_law_X4_reopen
set_option maxRecDepth 20000 in
theorem ggL_law_L_byteAt : GoodIn wsL_law wsL_byteAt := goodIn_r _ [301, 302, 303, 304, 2, 305, 74, 306, 307, 308, 21, 309, 156, 157, 20, 158, 38, 119, 120, 121, 122, 34, 84, 85, 86, 87, 79, 390, 391, 392, 393, 394, 395, 396, 397, 398, 399, 430, 431, 432, 433, 434, 435, 425, 426, 427, 428, 429] (by decide +kernel) (by decide +kernel)
set_option maxRecDepth 20000 in
theorem gL_law_L_byteAt : GoodIn wsL_law (va_wsS RL 44 yL_byteAt wsL_byteAt) := goodIn_app (goodIn_of _ (by decide +kernel)) ggL_law_L_byteAt
set_option maxRecDepth 20000 in
theorem ggL_law_X4_byteAt : GoodIn wsL_law wsX4_byteAt := goodIn_r _ [313, 106, 66, 46, 48, 400, 401, 402, 403, 404, 405, 406, 407, 408, 409, 410, 411, 412, 413, 414, 415, 416, 417, 418, 419, 420, 421, 422] (by decide +kernel) (by decide +kernel)
set_option maxRecDepth 20000 in
theorem gL_law_X4_byteAt : GoodIn wsL_law (wsV RL 49 RX4 yX4_byteAt wsX4_byteAt) := goodIn_app (goodIn_of _ (by decide +kernel)) ggL_law_X4_byteAt
set_option maxRecDepth 20000 in
theorem ggL_law_X4_thrown : GoodIn wsL_law wsX4_thrown := goodIn_r _ [317, 66, 400, 401, 402, 403, 404, 405, 406, 407, 408, 409, 410, 411, 412, 413, 414, 415, 416, 417, 418, 419, 420, 421, 422] (by decide +kernel) (by decide +kernel)
set_option maxRecDepth 20000 in
theorem gL_law_X4_thrown : GoodIn wsL_law (wsV RL 50 RX4 yX4_thrown wsX4_thrown) := goodIn_app (goodIn_of _ (by decide +kernel)) ggL_law_X4_thrown
set_option maxRecDepth 20000 in
theorem ggL_law_X3_poke : GoodIn wsL_law wsX3_poke := goodIn_r _ [321, 198, 199, 2, 200, 201, 202, 203, 204, 16, 17, 205, 141, 142, 15, 143, 131, 322, 323, 324, 325, 28, 390, 391, 392, 393, 394, 395, 396, 397, 398, 399, 423, 424] (by decide +kernel) (by decide +kernel)
set_option maxRecDepth 20000 in
theorem gL_law_X3_poke : GoodIn wsL_law (wsV RL 53 RX3 yX3_poke wsX3_poke) := goodIn_app (goodIn_of _ (by decide +kernel)) ggL_law_X3_poke
set_option maxRecDepth 20000 in
theorem ggL_law_X4_poke : GoodIn wsL_law wsX4_poke := goodIn_r _ [329, 66, 44, 43, 400, 401, 402, 403, 404, 405, 406, 407, 408, 409, 410, 411, 412, 413, 414, 415, 416, 417, 418, 419, 420, 421, 422] (by decide +kernel) (by decide +kernel)
set_option maxRecDepth 20000 in
theorem gL_law_X4_poke : GoodIn wsL_law (wsV RL 57 RX4 yX4_poke wsX4_poke) := goodIn_app (goodIn_of _ (by decide +kernel)) ggL_law_X4_poke
set_option maxRecDepth 20000 in
theorem ggL_law_X3_repaired : GoodIn wsL_law wsX3_repaired := goodIn_r _ [333, 232, 390, 391, 392, 393, 394, 395, 396, 397, 398, 399] (by decide +kernel) (by decide +kernel)
set_option maxRecDepth 20000 in
theorem gL_law_X3_repaired : GoodIn wsL_law (wsV RL 58 RX3 yX3_repaired wsX3_repaired) := goodIn_app (goodIn_of _ (by decide +kernel)) ggL_law_X3_repaired
set_option maxRecDepth 20000 in
theorem ggL_law_X4_repaired : GoodIn wsL_law wsX4_repaired := goodIn_r _ [337, 66, 275, 400, 401, 402, 403, 404, 405, 406, 407, 408, 409, 410, 411, 412, 413, 414, 415, 416, 417, 418, 419, 420, 421, 422] (by decide +kernel) (by decide +kernel)
set_option maxRecDepth 20000 in
theorem gL_law_X4_repaired : GoodIn wsL_law (wsV RL 61 RX4 yX4_repaired wsX4_repaired) := goodIn_app (goodIn_of _ (by decide +kernel)) ggL_law_X4_repaired
set_option maxRecDepth 20000 in
theorem ggL_law_X3_badAt : GoodIn wsL_law wsX3_badAt := goodIn_r _ [341, 24, 390, 391, 392, 393, 394, 395, 396, 397, 398, 399] (by decide +kernel) (by decide +kernel)
set_option maxRecDepth 20000 in
theorem gL_law_X3_badAt : GoodIn wsL_law (wsV RL 62 RX3 yX3_badAt wsX3_badAt) := goodIn_app (goodIn_of _ (by decide +kernel)) ggL_law_X3_badAt
set_option maxRecDepth 20000 in
theorem ggL_law_X4_badAt : GoodIn wsL_law wsX4_badAt := goodIn_r _ [345, 66, 55, 400, 401, 402, 403, 404, 405, 406, 407, 408, 409, 410, 411, 412, 413, 414, 415, 416, 417, 418, 419, 420, 421, 422] (by decide +kernel) (by decide +kernel)
set_option maxRecDepth 20000 in
theorem gL_law_X4_badAt : GoodIn wsL_law (wsV RL 65 RX4 yX4_badAt wsX4_badAt) := goodIn_app (goodIn_of _ (by decide +kernel)) ggL_law_X4_badAt
set_option maxRecDepth 20000 in
theorem ggL_law_X3_move : GoodIn wsL_law wsX3_move := goodIn_r _ [349, 60, 21, 74, 214, 16, 17, 88, 89, 90, 20, 91, 79, 350, 351, 352, 2, 353, 205, 141, 142, 15, 143, 131, 263, 264, 265, 266, 164, 165, 166, 167, 28, 354, 355, 356, 357, 358, 359, 360, 361, 362, 80, 81, 82, 83, 33, 84, 85, 86, 87, 363, 124, 125, 126, 36, 115, 116, 117, 118, 119, 120, 121, 122, 34, 123, 364, 365, 366, 367, 368, 369, 370, 371, 390, 391, 392, 393, 394, 395, 396, 397, 398, 399, 425, 426, 427, 428, 429, 423, 424] (by decide +kernel) (by decide +kernel)
set_option maxRecDepth 20000 in
theorem gL_law_X3_move : GoodIn wsL_law (wsV RL 66 RX3 yX3_move wsX3_move) := goodIn_app (goodIn_of _ (by decide +kernel)) ggL_law_X3_move
set_option maxRecDepth 20000 in
theorem ggL_law_X4_move : GoodIn wsL_law wsX4_move := goodIn_r _ [375, 66, 67, 105, 44, 227, 181, 45, 49, 376, 50, 43, 290, 291, 292, 5, 293, 400, 401, 402, 403, 404, 405, 406, 407, 408, 409, 410, 411, 412, 413, 414, 415, 416, 417, 418, 419, 420, 421, 422] (by decide +kernel) (by decide +kernel)
set_option maxRecDepth 20000 in
theorem gL_law_X4_move : GoodIn wsL_law (wsV RL 69 RX4 yX4_move wsX4_move) := goodIn_app (goodIn_of _ (by decide +kernel)) ggL_law_X4_move
set_option maxRecDepth 20000 in
theorem ggL_law_X3_rows : GoodIn wsL_law wsX3_rows := goodIn_r _ [380, 74, 21, 358, 359, 360, 20, 361, 362, 80, 81, 82, 83, 33, 84, 85, 86, 87, 79, 390, 391, 392, 393, 394, 395, 396, 397, 398, 399, 425, 426, 427, 428, 429] (by decide +kernel) (by decide +kernel)
set_option maxRecDepth 20000 in
theorem gL_law_X3_rows : GoodIn wsL_law (wsV RL 70 RX3 yX3_rows wsX3_rows) := goodIn_app (goodIn_of _ (by decide +kernel)) ggL_law_X3_rows
set_option maxRecDepth 20000 in
theorem ggL_law_X4_rows : GoodIn wsL_law wsX4_rows := goodIn_r _ [384, 66, 106, 45, 376, 400, 401, 402, 403, 404, 405, 406, 407, 408, 409, 410, 411, 412, 413, 414, 415, 416, 417, 418, 419, 420, 421, 422] (by decide +kernel) (by decide +kernel)
set_option maxRecDepth 20000 in
theorem gL_law_X4_rows : GoodIn wsL_law (wsV RL 73 RX4 yX4_rows wsX4_rows) := goodIn_app (goodIn_of _ (by decide +kernel)) ggL_law_X4_rows
set_option maxRecDepth 20000 in
theorem ggL_law_X3_same : GoodIn wsL_law wsX3_same := goodIn_r _ [353, 16, 17, 205, 141, 142, 15, 143, 131, 263, 264, 265, 266, 164, 165, 166, 167, 28, 390, 391, 392, 393, 394, 395, 396, 397, 398, 399, 423, 424] (by decide +kernel) (by decide +kernel)
set_option maxRecDepth 20000 in
theorem gL_law_X3_same : GoodIn wsL_law (wsV RL 74 RX3 yX3_same wsX3_same) := goodIn_app (goodIn_of _ (by decide +kernel)) ggL_law_X3_same
set_option maxRecDepth 20000 in
theorem ggL_law_X4_same : GoodIn wsL_law wsX4_same := goodIn_r _ [389, 66, 44, 290, 291, 292, 5, 293, 43, 400, 401, 402, 403, 404, 405, 406, 407, 408, 409, 410, 411, 412, 413, 414, 415, 416, 417, 418, 419, 420, 421, 422] (by decide +kernel) (by decide +kernel)
set_option maxRecDepth 20000 in
theorem gL_law_X4_same : GoodIn wsL_law (wsV RL 77 RX4 yX4_same wsX4_same) := goodIn_app (goodIn_of _ (by decide +kernel)) ggL_law_X4_same
abbrev vwCl : List vw_C := [(RJx00060, TJx00060, 6), (RX1, TX1, 2), (RX2, TX2, 5), (RX3, TX3, 10), (RX4, TX4, 23)]
