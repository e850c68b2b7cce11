section
-- ===== PART A: goes FIRST, ahead of the names: the tables' words, and 'selects' of the private methods out of them =====
/-- a private method of a class that the tables say can be made, by its rows of tables_1 -/
def lw_okq (q : MethodName × Nat) : Prop := (q.1.cls ≠ "java/lang/invoke/MethodHandle" ∧ q.1.cls ≠ "java/lang/invoke/VarHandle") ∧ Cond.instantiable q.1.cls q.2 ∈ tables_1 ∧ Cond.privateMethod q.1 ∈ tables_1 ∧ Cond.instanceMethod q.1 ∈ tables_1
theorem lw_p0 : lw_okq (⟨"MirrorLog$RowTable", "has", "(I)Z"⟩, 5) := ⟨⟨by decide +kernel, by decide +kernel⟩, List.mem_of_getElem? (i := 36) (by decide +kernel), List.mem_of_getElem? (i := 109) (by decide +kernel), List.mem_of_getElem? (i := 110) (by decide +kernel)⟩
theorem lw_p1 : lw_okq (⟨"MirrorLog", "fileOf", "(I)LMirrorLog$LogFile;"⟩, 10) := ⟨⟨by decide +kernel, by decide +kernel⟩, List.mem_of_getElem? (i := 14) (by decide +kernel), List.mem_of_getElem? (i := 194) (by decide +kernel), List.mem_of_getElem? (i := 195) (by decide +kernel)⟩
theorem lw_p2 : lw_okq (⟨"MirrorLog", "forgetAllButMoved", "()V"⟩, 10) := ⟨⟨by decide +kernel, by decide +kernel⟩, List.mem_of_getElem? (i := 14) (by decide +kernel), List.mem_of_getElem? (i := 203) (by decide +kernel), List.mem_of_getElem? (i := 204) (by decide +kernel)⟩
theorem lw_p3 : lw_okq (⟨"MirrorLog", "takeGoodGroups", "()I"⟩, 10) := ⟨⟨by decide +kernel, by decide +kernel⟩, List.mem_of_getElem? (i := 14) (by decide +kernel), List.mem_of_getElem? (i := 215) (by decide +kernel), List.mem_of_getElem? (i := 216) (by decide +kernel)⟩
theorem lw_p4 : lw_okq (⟨"MirrorLog", "takeGroup", "(LMirrorLog$LogFile;LMirrorLog$LogFile;I)I"⟩, 10) := ⟨⟨by decide +kernel, by decide +kernel⟩, List.mem_of_getElem? (i := 14) (by decide +kernel), List.mem_of_getElem? (i := 219) (by decide +kernel), List.mem_of_getElem? (i := 220) (by decide +kernel)⟩
theorem lw_p5 : lw_okq (⟨"MirrorLog", "endOfGroupsUpTo", "(I)I"⟩, 10) := ⟨⟨by decide +kernel, by decide +kernel⟩, List.mem_of_getElem? (i := 14) (by decide +kernel), List.mem_of_getElem? (i := 277) (by decide +kernel), List.mem_of_getElem? (i := 278) (by decide +kernel)⟩
theorem lw_p6 : lw_okq (⟨"java/lang/Throwable", "fillInStackTrace", "(I)Ljava/lang/Throwable;"⟩, 6) := ⟨⟨by decide +kernel, by decide +kernel⟩, List.mem_of_getElem? (i := 345) (by decide +kernel), List.mem_of_getElem? (i := 343) (by decide +kernel), List.mem_of_getElem? (i := 344) (by decide +kernel)⟩
theorem lw_p7 : lw_okq (⟨"MirrorLogModel", "lastSecond", "()I"⟩, 23) := ⟨⟨by decide +kernel, by decide +kernel⟩, List.mem_of_getElem? (i := 378) (by decide +kernel), List.mem_of_getElem? (i := 468) (by decide +kernel), List.mem_of_getElem? (i := 469) (by decide +kernel)⟩
theorem lw_p8 : lw_okq (⟨"MirrorLogModel", "write", "(II)I"⟩, 23) := ⟨⟨by decide +kernel, by decide +kernel⟩, List.mem_of_getElem? (i := 378) (by decide +kernel), List.mem_of_getElem? (i := 476) (by decide +kernel), List.mem_of_getElem? (i := 477) (by decide +kernel)⟩
theorem lw_p9 : lw_okq (⟨"MirrorLogModel", "four", "(I)V"⟩, 23) := ⟨⟨by decide +kernel, by decide +kernel⟩, List.mem_of_getElem? (i := 378) (by decide +kernel), List.mem_of_getElem? (i := 484) (by decide +kernel), List.mem_of_getElem? (i := 485) (by decide +kernel)⟩
theorem lw_p10 : lw_okq (⟨"MirrorLogModel", "forget", "()V"⟩, 23) := ⟨⟨by decide +kernel, by decide +kernel⟩, List.mem_of_getElem? (i := 378) (by decide +kernel), List.mem_of_getElem? (i := 492) (by decide +kernel), List.mem_of_getElem? (i := 493) (by decide +kernel)⟩
theorem lw_p11 : lw_okq (⟨"MirrorLogModel", "areSame", "(II)Z"⟩, 23) := ⟨⟨by decide +kernel, by decide +kernel⟩, List.mem_of_getElem? (i := 378) (by decide +kernel), List.mem_of_getElem? (i := 504) (by decide +kernel), List.mem_of_getElem? (i := 505) (by decide +kernel)⟩
theorem lw_p12 : lw_okq (⟨"MirrorLogModel", "isGood", "(II)Z"⟩, 23) := ⟨⟨by decide +kernel, by decide +kernel⟩, List.mem_of_getElem? (i := 378) (by decide +kernel), List.mem_of_getElem? (i := 512) (by decide +kernel), List.mem_of_getElem? (i := 513) (by decide +kernel)⟩
theorem lw_p13 : lw_okq (⟨"MirrorLogModel", "number", "(III)I"⟩, 23) := ⟨⟨by decide +kernel, by decide +kernel⟩, List.mem_of_getElem? (i := 378) (by decide +kernel), List.mem_of_getElem? (i := 516) (by decide +kernel), List.mem_of_getElem? (i := 517) (by decide +kernel)⟩
theorem lw_p14 : lw_okq (⟨"MirrorLogModel", "sumOf", "(IIII)I"⟩, 23) := ⟨⟨by decide +kernel, by decide +kernel⟩, List.mem_of_getElem? (i := 378) (by decide +kernel), List.mem_of_getElem? (i := 520) (by decide +kernel), List.mem_of_getElem? (i := 521) (by decide +kernel)⟩
theorem lw_p15 : lw_okq (⟨"MirrorLogModel", "take", "(II)V"⟩, 23) := ⟨⟨by decide +kernel, by decide +kernel⟩, List.mem_of_getElem? (i := 378) (by decide +kernel), List.mem_of_getElem? (i := 524) (by decide +kernel), List.mem_of_getElem? (i := 525) (by decide +kernel)⟩
def lw_privs_1 : List (MethodName × Nat) := [(⟨"MirrorLog$RowTable", "has", "(I)Z"⟩, 5), (⟨"MirrorLog", "fileOf", "(I)LMirrorLog$LogFile;"⟩, 10), (⟨"MirrorLog", "forgetAllButMoved", "()V"⟩, 10), (⟨"MirrorLog", "takeGoodGroups", "()I"⟩, 10), (⟨"MirrorLog", "takeGroup", "(LMirrorLog$LogFile;LMirrorLog$LogFile;I)I"⟩, 10), (⟨"MirrorLog", "endOfGroupsUpTo", "(I)I"⟩, 10), (⟨"java/lang/Throwable", "fillInStackTrace", "(I)Ljava/lang/Throwable;"⟩, 6), (⟨"MirrorLogModel", "lastSecond", "()I"⟩, 23), (⟨"MirrorLogModel", "write", "(II)I"⟩, 23), (⟨"MirrorLogModel", "four", "(I)V"⟩, 23), (⟨"MirrorLogModel", "forget", "()V"⟩, 23), (⟨"MirrorLogModel", "areSame", "(II)Z"⟩, 23), (⟨"MirrorLogModel", "isGood", "(II)Z"⟩, 23), (⟨"MirrorLogModel", "number", "(III)I"⟩, 23), (⟨"MirrorLogModel", "sumOf", "(IIII)I"⟩, 23), (⟨"MirrorLogModel", "take", "(II)V"⟩, 23)]
theorem lw_r1 : ∀ q ∈ lw_privs_1, lw_okq q := List.forall_mem_cons.mpr ⟨lw_p0, List.forall_mem_cons.mpr ⟨lw_p1, List.forall_mem_cons.mpr ⟨lw_p2, List.forall_mem_cons.mpr ⟨lw_p3, List.forall_mem_cons.mpr ⟨lw_p4, List.forall_mem_cons.mpr ⟨lw_p5, List.forall_mem_cons.mpr ⟨lw_p6, List.forall_mem_cons.mpr ⟨lw_p7, List.forall_mem_cons.mpr ⟨lw_p8, List.forall_mem_cons.mpr ⟨lw_p9, List.forall_mem_cons.mpr ⟨lw_p10, List.forall_mem_cons.mpr ⟨lw_p11, List.forall_mem_cons.mpr ⟨lw_p12, List.forall_mem_cons.mpr ⟨lw_p13, List.forall_mem_cons.mpr ⟨lw_p14, List.forall_mem_cons.mpr ⟨lw_p15, fun _ h => absurd h List.not_mem_nil⟩⟩⟩⟩⟩⟩⟩⟩⟩⟩⟩⟩⟩⟩⟩⟩
def lw_privs : List (MethodName × Nat) := lw_privs_1
def lw_tbl : List Cond := k2_sels lw_privs ++ tables_1
theorem lw_privs_ok : ∀ q ∈ lw_privs, lw_okq q := lw_r1
end
section
/-! ===== BEGIN words of one list among another's, by their places ===== -/
theorem goodIn_r {big : List Cond} (ws : List Cond) (ps : List Nat) (hp : ws = ps.filterMap (fun i => big[i]?)) (h : ws.all goodWord = true) : GoodIn big ws := by
  intro w hw
  have h1 := List.all_eq_true.mp h w hw
  rw [hp] at hw
  obtain ⟨i, -, hi⟩ := List.mem_filterMap.mp hw
  have hm : w ∈ big := by first | exact List.mem_of_getElem? hi | exact List.getElem?_mem hi
  exact ⟨hm, good_of_word h1⟩
theorem goodIn_app {big a b : List Cond} (ha : GoodIn big a) (hb : GoodIn big b) : GoodIn big (a ++ b) := fun w h => (List.mem_append.mp h).elim (ha w) (hb w)
theorem goodIn_ca {big a b : List Cond} {c : Cond} (ha : GoodIn big (c :: a)) (hb : GoodIn big b) : GoodIn big (c :: (a ++ b)) := fun w h => (List.mem_cons.mp h).elim (fun e => ha w (List.mem_cons.mpr (Or.inl e))) (fun h => (List.mem_append.mp h).elim (fun h => ha w (List.mem_cons.mpr (Or.inr h))) (hb w))
theorem goodIn_sub {big ws : List Cond} (hm : ∀ w ∈ ws, w ∈ big) (h : ws.all goodWord = true) : GoodIn big ws := fun w hw => ⟨hm w hw, good_of_word (List.all_eq_true.mp h w hw)⟩
/-! ===== END ===== -/

/-! ===== BEGIN printed: names, fields, word lists, decode rows ===== -/
def RX0 : String := "MirrorLog$GroupForm"
def TX0 : u_T := fun k => match k with
  | _ => ("", "", "", false)
def tyX0 : Nat → FieldType := fun k => match k with
  | _ => .int
abbrev wsX00 : List Cond := u_ws RX0 TX0 0
theorem nmX0 : ∀ a, a < 0 → ∀ b, b < 0 → a ≠ b → (TX0 a).2.1 ≠ (TX0 b).2.1 := by decide +kernel
theorem tyX0_ok : ∀ k, k < 0 → parseFieldDescriptor (TX0 k).2.2.1 = some (tyX0 k) := by decide +kernel
abbrev cX0_write : ByteArray := prog_2_method_2_code
def yX0_write : MethodName := ⟨RX0, "write", "(LMirrorLog$LogFile;LMirrorLog$RowTable;I)V"⟩
abbrev cX0_writeRow : ByteArray := prog_2_method_3_code
def yX0_writeRow : MethodName := ⟨RX0, "writeRow", "(LMirrorLog$LogFile;LMirrorLog$RowTable;I)I"⟩
abbrev cX0_endOfGood : ByteArray := prog_2_method_4_code
def yX0_endOfGood : MethodName := ⟨RX0, "endOfGood", "(LMirrorLog$LogFile;ILMirrorLog$RowTable;)I"⟩
abbrev cX0_isRowGood : ByteArray := prog_2_method_5_code
def yX0_isRowGood : MethodName := ⟨RX0, "isRowGood", "(LMirrorLog$LogFile;III)Z"⟩
abbrev cX0_isEndGood : ByteArray := prog_2_method_6_code
def yX0_isEndGood : MethodName := ⟨RX0, "isEndGood", "(LMirrorLog$LogFile;II)Z"⟩
abbrev cX0_read : ByteArray := prog_2_method_7_code
def yX0_read : MethodName := ⟨RX0, "read", "(LMirrorLog$LogFile;IILMirrorLog$RowTable;)V"⟩
def RX1 : String := "MirrorLog$LogFile"
def TX1 : u_T := fun k => match k with
  | 0 => ("MirrorLog$LogFile", "bytes", "[B", true)
  | _ => ("MirrorLog$LogFile", "size", "I", false)
def tyX1 : Nat → FieldType := fun k => match k with
  | 0 => .array .byte
  | _ => .int
abbrev wsX10 : List Cond := u_ws RX1 TX1 2
theorem nmX1 : ∀ a, a < 2 → ∀ b, b < 2 → a ≠ b → (TX1 a).2.1 ≠ (TX1 b).2.1 := by decide +kernel
theorem tyX1_ok : ∀ k, k < 2 → parseFieldDescriptor (TX1 k).2.2.1 = some (tyX1 k) := by decide +kernel
abbrev cX1_init : ByteArray := prog_3_method_1_code
def yX1_init : MethodName := ⟨RX1, "<init>", "()V"⟩
abbrev cX1_size : ByteArray := prog_3_method_2_code
def yX1_size : MethodName := ⟨RX1, "size", "()I"⟩
abbrev cX1_hasRoomFor : ByteArray := prog_3_method_3_code
def yX1_hasRoomFor : MethodName := ⟨RX1, "hasRoomFor", "(I)Z"⟩
abbrev cX1_get : ByteArray := prog_3_method_4_code
def yX1_get : MethodName := ⟨RX1, "get", "(I)I"⟩
abbrev cX1_add : ByteArray := prog_3_method_5_code
def yX1_add : MethodName := ⟨RX1, "add", "(I)V"⟩
abbrev cX1_addNumber : ByteArray := prog_3_method_6_code
def yX1_addNumber : MethodName := ⟨RX1, "addNumber", "(II)V"⟩
abbrev cX1_number : ByteArray := prog_3_method_7_code
def yX1_number : MethodName := ⟨RX1, "number", "(II)I"⟩
abbrev cX1_sumOf : ByteArray := prog_3_method_8_code
def yX1_sumOf : MethodName := ⟨RX1, "sumOf", "(III)I"⟩
abbrev cX1_alter : ByteArray := prog_3_method_9_code
def yX1_alter : MethodName := ⟨RX1, "alter", "(II)V"⟩
abbrev cX1_cutTo : ByteArray := prog_3_method_10_code
def yX1_cutTo : MethodName := ⟨RX1, "cutTo", "(I)V"⟩
abbrev cX1_dropFirst : ByteArray := prog_3_method_11_code
def yX1_dropFirst : MethodName := ⟨RX1, "dropFirst", "(I)V"⟩
abbrev cX1_agrees : ByteArray := prog_3_method_12_code
def yX1_agrees : MethodName := ⟨RX1, "agrees", "(LMirrorLog$LogFile;II)Z"⟩
abbrev cX1_copyFrom : ByteArray := prog_3_method_13_code
def yX1_copyFrom : MethodName := ⟨RX1, "copyFrom", "(LMirrorLog$LogFile;II)V"⟩
def RX2 : String := "MirrorLog$RowTable"
def TX2 : u_T := fun k => match k with
  | 0 => ("MirrorLog$RowTable", "seconds", "[I", true)
  | 1 => ("MirrorLog$RowTable", "lengths", "[I", true)
  | 2 => ("MirrorLog$RowTable", "groupEnds", "[Z", true)
  | 3 => ("MirrorLog$RowTable", "contents", "[B", true)
  | _ => ("MirrorLog$RowTable", "count", "I", false)
def tyX2 : Nat → FieldType := fun k => match k with
  | 0 => .array .int
  | 1 => .array .int
  | 2 => .array .boolean
  | 3 => .array .byte
  | _ => .int
abbrev wsX20 : List Cond := u_ws RX2 TX2 5
theorem nmX2 : ∀ a, a < 5 → ∀ b, b < 5 → a ≠ b → (TX2 a).2.1 ≠ (TX2 b).2.1 := by decide +kernel
theorem tyX2_ok : ∀ k, k < 5 → parseFieldDescriptor (TX2 k).2.2.1 = some (tyX2 k) := by decide +kernel
abbrev cX2_init : ByteArray := prog_4_method_1_code
def yX2_init : MethodName := ⟨RX2, "<init>", "()V"⟩
abbrev cX2_count : ByteArray := prog_4_method_2_code
def yX2_count : MethodName := ⟨RX2, "count", "()I"⟩
abbrev cX2_cutTo : ByteArray := prog_4_method_3_code
def yX2_cutTo : MethodName := ⟨RX2, "cutTo", "(I)V"⟩
abbrev cX2_begin : ByteArray := prog_4_method_4_code
def yX2_begin : MethodName := ⟨RX2, "begin", "(I)V"⟩
abbrev cX2_push : ByteArray := prog_4_method_5_code
def yX2_push : MethodName := ⟨RX2, "push", "(I)V"⟩
abbrev cX2_endGroupHere : ByteArray := prog_4_method_6_code
def yX2_endGroupHere : MethodName := ⟨RX2, "endGroupHere", "()V"⟩
abbrev cX2_has : ByteArray := prog_4_method_7_code
def yX2_has : MethodName := ⟨RX2, "has", "(I)Z"⟩
abbrev cX2_endsGroup : ByteArray := prog_4_method_8_code
def yX2_endsGroup : MethodName := ⟨RX2, "endsGroup", "(I)Z"⟩
abbrev cX2_secondOf : ByteArray := prog_4_method_9_code
def yX2_secondOf : MethodName := ⟨RX2, "secondOf", "(I)I"⟩
abbrev cX2_lastSecond : ByteArray := prog_4_method_10_code
def yX2_lastSecond : MethodName := ⟨RX2, "lastSecond", "()I"⟩
abbrev cX2_monthOf : ByteArray := prog_4_method_11_code
def yX2_monthOf : MethodName := ⟨RX2, "monthOf", "(I)I"⟩
abbrev cX2_lengthOf : ByteArray := prog_4_method_12_code
def yX2_lengthOf : MethodName := ⟨RX2, "lengthOf", "(I)I"⟩
abbrev cX2_contentAt : ByteArray := prog_4_method_13_code
def yX2_contentAt : MethodName := ⟨RX2, "contentAt", "(II)I"⟩
abbrev cX2_bytesInFile : ByteArray := prog_4_method_14_code
def yX2_bytesInFile : MethodName := ⟨RX2, "bytesInFile", "(II)I"⟩
def RX3 : String := "MirrorLog"
def TX3 : u_T := fun k => match k with
  | 0 => ("MirrorLog", "file0", "LMirrorLog$LogFile;", true)
  | 1 => ("MirrorLog", "file1", "LMirrorLog$LogFile;", true)
  | 2 => ("MirrorLog", "table", "LMirrorLog$RowTable;", true)
  | 3 => ("MirrorLog", "fed", "[B", true)
  | 4 => ("MirrorLog", "fedCount", "I", false)
  | 5 => ("MirrorLog", "moved", "I", false)
  | 6 => ("MirrorLog", "known", "I", false)
  | 7 => ("MirrorLog", "shut", "Z", false)
  | 8 => ("MirrorLog", "repairedGroups", "I", false)
  | _ => ("MirrorLog", "badPlace", "I", false)
def tyX3 : Nat → FieldType := fun k => match k with
  | 0 => .object "MirrorLog$LogFile"
  | 1 => .object "MirrorLog$LogFile"
  | 2 => .object "MirrorLog$RowTable"
  | 3 => .array .byte
  | 4 => .int
  | 5 => .int
  | 6 => .int
  | 7 => .boolean
  | 8 => .int
  | _ => .int
abbrev wsX30 : List Cond := u_ws RX3 TX3 10
theorem nmX3 : ∀ a, a < 10 → ∀ b, b < 10 → a ≠ b → (TX3 a).2.1 ≠ (TX3 b).2.1 := by decide +kernel
theorem tyX3_ok : ∀ k, k < 10 → parseFieldDescriptor (TX3 k).2.2.1 = some (tyX3 k) := by decide +kernel
abbrev cX3_init : ByteArray := prog_1_method_1_code
def yX3_init : MethodName := ⟨RX3, "<init>", "()V"⟩
abbrev cX3_feed : ByteArray := prog_1_method_2_code
def yX3_feed : MethodName := ⟨RX3, "feed", "(I)Z"⟩
abbrev cX3_row : ByteArray := prog_1_method_3_code
def yX3_row : MethodName := ⟨RX3, "row", "(I)I"⟩
abbrev cX3_endGroup : ByteArray := prog_1_method_4_code
def yX3_endGroup : MethodName := ⟨RX3, "endGroup", "()Z"⟩
abbrev cX3_crash : ByteArray := prog_1_method_5_code
def yX3_crash : MethodName := ⟨RX3, "crash", "(II)Z"⟩
abbrev cX3_reopen : ByteArray := prog_1_method_6_code
def yX3_reopen : MethodName := ⟨RX3, "reopen", "()I"⟩
abbrev cX3_byteAt : ByteArray := prog_1_method_7_code
def yX3_byteAt : MethodName := ⟨RX3, "byteAt", "(II)I"⟩
abbrev cX3_poke : ByteArray := prog_1_method_8_code
def yX3_poke : MethodName := ⟨RX3, "poke", "(III)Z"⟩
abbrev cX3_repaired : ByteArray := prog_1_method_9_code
def yX3_repaired : MethodName := ⟨RX3, "repaired", "()I"⟩
abbrev cX3_badAt : ByteArray := prog_1_method_10_code
def yX3_badAt : MethodName := ⟨RX3, "badAt", "()I"⟩
abbrev cX3_move : ByteArray := prog_1_method_11_code
def yX3_move : MethodName := ⟨RX3, "move", "(I)Z"⟩
abbrev cX3_rows : ByteArray := prog_1_method_12_code
def yX3_rows : MethodName := ⟨RX3, "rows", "(I)I"⟩
abbrev cX3_same : ByteArray := prog_1_method_13_code
def yX3_same : MethodName := ⟨RX3, "same", "()Z"⟩
abbrev cX3_isFile : ByteArray := prog_1_method_14_code
def yX3_isFile : MethodName := ⟨RX3, "isFile", "(I)Z"⟩
abbrev cX3_fileOf : ByteArray := prog_1_method_15_code
def yX3_fileOf : MethodName := ⟨RX3, "fileOf", "(I)LMirrorLog$LogFile;"⟩
abbrev cX3_forgetAllButMoved : ByteArray := prog_1_method_16_code
def yX3_forgetAllButMoved : MethodName := ⟨RX3, "forgetAllButMoved", "()V"⟩
abbrev cX3_takeGoodGroups : ByteArray := prog_1_method_17_code
def yX3_takeGoodGroups : MethodName := ⟨RX3, "takeGoodGroups", "()I"⟩
abbrev cX3_takeGroup : ByteArray := prog_1_method_18_code
def yX3_takeGroup : MethodName := ⟨RX3, "takeGroup", "(LMirrorLog$LogFile;LMirrorLog$LogFile;I)I"⟩
abbrev cX3_endOfGroupsUpTo : ByteArray := prog_1_method_19_code
def yX3_endOfGroupsUpTo : MethodName := ⟨RX3, "endOfGroupsUpTo", "(I)I"⟩
def RX4 : String := "MirrorLogModel"
def TX4 : u_T := fun k => match k with
  | 0 => ("MirrorLogModel", "bytes", "[I", true)
  | 1 => ("MirrorLogModel", "sizes", "[I", true)
  | 2 => ("MirrorLogModel", "seconds", "[I", true)
  | 3 => ("MirrorLogModel", "lengths", "[I", true)
  | 4 => ("MirrorLogModel", "contents", "[I", true)
  | 5 => ("MirrorLogModel", "known", "I", false)
  | 6 => ("MirrorLogModel", "moved", "I", false)
  | 7 => ("MirrorLogModel", "groupRows", "[I", true)
  | 8 => ("MirrorLogModel", "groupBytes", "[I", true)
  | 9 => ("MirrorLogModel", "groups", "I", false)
  | 10 => ("MirrorLogModel", "newSeconds", "[I", true)
  | 11 => ("MirrorLogModel", "newLengths", "[I", true)
  | 12 => ("MirrorLogModel", "newContents", "[I", true)
  | 13 => ("MirrorLogModel", "newRows", "I", false)
  | 14 => ("MirrorLogModel", "fed", "[I", true)
  | 15 => ("MirrorLogModel", "feeding", "I", false)
  | 16 => ("MirrorLogModel", "shut", "Z", false)
  | 17 => ("MirrorLogModel", "repaired", "I", false)
  | 18 => ("MirrorLogModel", "badAt", "I", false)
  | 19 => ("MirrorLogModel", "thrown", "I", false)
  | 20 => ("MirrorLogModel", "seenRows", "I", false)
  | 21 => ("MirrorLogModel", "seenBytes", "I", false)
  | _ => ("MirrorLogModel", "at", "I", false)
def tyX4 : Nat → FieldType := fun k => match k with
  | 0 => .array .int
  | 1 => .array .int
  | 2 => .array .int
  | 3 => .array .int
  | 4 => .array .int
  | 5 => .int
  | 6 => .int
  | 7 => .array .int
  | 8 => .array .int
  | 9 => .int
  | 10 => .array .int
  | 11 => .array .int
  | 12 => .array .int
  | 13 => .int
  | 14 => .array .int
  | 15 => .int
  | 16 => .boolean
  | 17 => .int
  | 18 => .int
  | 19 => .int
  | 20 => .int
  | 21 => .int
  | _ => .int
abbrev wsX40 : List Cond := u_ws RX4 TX4 23
theorem nmX4 : ∀ a, a < 23 → ∀ b, b < 23 → a ≠ b → (TX4 a).2.1 ≠ (TX4 b).2.1 := by decide +kernel
theorem tyX4_ok : ∀ k, k < 23 → parseFieldDescriptor (TX4 k).2.2.1 = some (tyX4 k) := by decide +kernel
abbrev cX4_init : ByteArray := prog_6_method_1_code
def yX4_init : MethodName := ⟨RX4, "<init>", "()V"⟩
abbrev cX4_thrown : ByteArray := prog_6_method_2_code
def yX4_thrown : MethodName := ⟨RX4, "thrown", "()I"⟩
abbrev cX4_summed : ByteArray := prog_6_method_3_code
def yX4_summed : MethodName := ⟨RX4, "summed", "(II)I"⟩
abbrev cX4_feed : ByteArray := prog_6_method_4_code
def yX4_feed : MethodName := ⟨RX4, "feed", "(I)Z"⟩
abbrev cX4_lastSecond : ByteArray := prog_6_method_5_code
def yX4_lastSecond : MethodName := ⟨RX4, "lastSecond", "()I"⟩
abbrev cX4_row : ByteArray := prog_6_method_6_code
def yX4_row : MethodName := ⟨RX4, "row", "(I)I"⟩
abbrev cX4_write : ByteArray := prog_6_method_7_code
def yX4_write : MethodName := ⟨RX4, "write", "(II)I"⟩
abbrev cX4_four : ByteArray := prog_6_method_8_code
def yX4_four : MethodName := ⟨RX4, "four", "(I)V"⟩
abbrev cX4_endGroup : ByteArray := prog_6_method_9_code
def yX4_endGroup : MethodName := ⟨RX4, "endGroup", "()Z"⟩
abbrev cX4_forget : ByteArray := prog_6_method_10_code
def yX4_forget : MethodName := ⟨RX4, "forget", "()V"⟩
abbrev cX4_crash : ByteArray := prog_6_method_11_code
def yX4_crash : MethodName := ⟨RX4, "crash", "(II)Z"⟩
abbrev cX4_poke : ByteArray := prog_6_method_12_code
def yX4_poke : MethodName := ⟨RX4, "poke", "(III)Z"⟩
abbrev cX4_same : ByteArray := prog_6_method_13_code
def yX4_same : MethodName := ⟨RX4, "same", "()Z"⟩
abbrev cX4_areSame : ByteArray := prog_6_method_14_code
def yX4_areSame : MethodName := ⟨RX4, "areSame", "(II)Z"⟩
abbrev cX4_number : ByteArray := prog_6_method_15_code
def yX4_number : MethodName := ⟨RX4, "number", "(III)I"⟩
abbrev cX4_sumOf : ByteArray := prog_6_method_16_code
def yX4_sumOf : MethodName := ⟨RX4, "sumOf", "(IIII)I"⟩
abbrev cX4_isGood : ByteArray := prog_6_method_17_code
def yX4_isGood : MethodName := ⟨RX4, "isGood", "(II)Z"⟩
abbrev cX4_take : ByteArray := prog_6_method_18_code
def yX4_take : MethodName := ⟨RX4, "take", "(II)V"⟩
abbrev cX4_reopen : ByteArray := prog_6_method_19_code
def yX4_reopen : MethodName := ⟨RX4, "reopen", "()I"⟩
abbrev cX4_repaired : ByteArray := prog_6_method_20_code
def yX4_repaired : MethodName := ⟨RX4, "repaired", "()I"⟩
abbrev cX4_badAt : ByteArray := prog_6_method_21_code
def yX4_badAt : MethodName := ⟨RX4, "badAt", "()I"⟩
abbrev cX4_byteAt : ByteArray := prog_6_method_22_code
def yX4_byteAt : MethodName := ⟨RX4, "byteAt", "(II)I"⟩
abbrev cX4_rows : ByteArray := prog_6_method_23_code
def yX4_rows : MethodName := ⟨RX4, "rows", "(I)I"⟩
abbrev cX4_move : ByteArray := prog_6_method_24_code
def yX4_move : MethodName := ⟨RX4, "move", "(I)Z"⟩
def RJx00060 : String := "java/lang/ArrayIndexOutOfBoundsException"
def TJx00060 : u_T := fun k => match k with
  | 0 => ("java/lang/Throwable", "cause", "Ljava/lang/Throwable;", false)
  | 1 => ("java/lang/Throwable", "stackTrace", "[Ljava/lang/StackTraceElement;", false)
  | 2 => ("java/lang/Throwable", "suppressedExceptions", "Ljava/util/List;", false)
  | 3 => ("java/lang/Throwable", "detailMessage", "Ljava/lang/String;", false)
  | 4 => ("java/lang/Throwable", "backtrace", "Ljava/lang/Object;", false)
  | _ => ("java/lang/Throwable", "depth", "I", false)
def tyJx00060 : Nat → FieldType := fun k => match k with
  | 0 => .object "java/lang/Throwable"
  | 1 => .array (.object "java/lang/StackTraceElement")
  | 2 => .object "java/util/List"
  | 3 => .object "java/lang/String"
  | 4 => .object "java/lang/Object"
  | _ => .int
abbrev wsJx000600 : List Cond := u_ws RJx00060 TJx00060 6
theorem nmJx00060 : ∀ a, a < 6 → ∀ b, b < 6 → a ≠ b → (TJx00060 a).2.1 ≠ (TJx00060 b).2.1 := by decide +kernel
theorem tyJx00060_ok : ∀ k, k < 6 → parseFieldDescriptor (TJx00060 k).2.2.1 = some (tyJx00060 k) := by decide +kernel
abbrev cJx00060_init_a7421 : ByteArray := prog_7_method_2_code
def yJx00060_init_a7421 : MethodName := ⟨RJx00060, "<init>", "(Ljava/lang/String;)V"⟩
def RJ6 : String := "java/lang/Integer"
def TJ6 : u_T := fun k => match k with
  | _ => ("", "", "", false)
def tyJ6 : Nat → FieldType := fun k => match k with
  | _ => .int
abbrev wsJ60 : List Cond := u_ws RJ6 TJ6 0
theorem nmJ6 : ∀ a, a < 0 → ∀ b, b < 0 → a ≠ b → (TJ6 a).2.1 ≠ (TJ6 b).2.1 := by decide +kernel
theorem tyJ6_ok : ∀ k, k < 0 → parseFieldDescriptor (TJ6 k).2.2.1 = some (tyJ6 k) := by decide +kernel
abbrev cJ6_rotateLeft_7cf53 : ByteArray := prog_10_method_50_code
def yJ6_rotateLeft_7cf53 : MethodName := ⟨RJ6, "rotateLeft", "(II)I"⟩
def RJ0 : String := "java/lang/String"
def TJ0 : u_T := fun k => match k with
  | _ => ("", "", "", false)
def tyJ0 : Nat → FieldType := fun k => match k with
  | _ => .int
abbrev wsJ00 : List Cond := u_ws RJ0 TJ0 0
theorem nmJ0 : ∀ a, a < 0 → ∀ b, b < 0 → a ≠ b → (TJ0 a).2.1 ≠ (TJ0 b).2.1 := by decide +kernel
theorem tyJ0_ok : ∀ k, k < 0 → parseFieldDescriptor (TJ0 k).2.2.1 = some (tyJ0 k) := by decide +kernel
def RJ10 : String := "java/lang/System"
def TJ10 : u_T := fun k => match k with
  | _ => ("", "", "", false)
def tyJ10 : Nat → FieldType := fun k => match k with
  | _ => .int
abbrev wsJ100 : List Cond := u_ws RJ10 TJ10 0
theorem nmJ10 : ∀ a, a < 0 → ∀ b, b < 0 → a ≠ b → (TJ10 a).2.1 ≠ (TJ10 b).2.1 := by decide +kernel
theorem tyJ10_ok : ∀ k, k < 0 → parseFieldDescriptor (TJ10 k).2.2.1 = some (tyJ10 k) := by decide +kernel
def RL : String := "MirrorLogLaw"
abbrev cL_byteAt : ByteArray := method_3_code
def yL_byteAt : MethodName := ⟨RL, "byteAt", "(LMirrorLog;II[J)I"⟩
abbrev cL_law : ByteArray := code
def yL_law : MethodName := ⟨RL, "law", "([I)Z"⟩
def wsX2_count : List Cond := .code yX2_count cX2_count 1 (some .int) :: ([.fieldLink RX2 27 "MirrorLog$RowTable" "count" "I"] ++ wsX20)
def wsX1_size : List Cond := .code yX1_size cX1_size 1 (some .int) :: ([.fieldLink RX1 15 "MirrorLog$LogFile" "size" "I"] ++ wsX10)
def wsX2_has : List Cond := .code yX2_has cX2_has 2 (some .boolean) :: ([.fieldLink RX2 27 "MirrorLog$RowTable" "count" "I"] ++ wsX20)
def wsX2_lengthOf : List Cond := .code yX2_lengthOf cX2_lengthOf 2 (some .int) :: ([.fieldLink RX2 15 "MirrorLog$RowTable" "lengths" "[I", .methodLink RX2 31 yX2_has, .instanceMethod yX2_has, .selects RX2 yX2_has yX2_has, .initialized RX2, .code yX2_has cX2_has 2 (some .boolean), .fieldLink RX2 27 "MirrorLog$RowTable" "count" "I"] ++ wsX20)
def wsX1_add : List Cond := .code yX1_add cX1_add 2 none :: ([.fieldLink RX1 15 "MirrorLog$LogFile" "size" "I", .fieldLink RX1 9 "MirrorLog$LogFile" "bytes" "[B"] ++ wsX10)
def wsX2_secondOf : List Cond := .code yX2_secondOf cX2_secondOf 2 (some .int) :: ([.fieldLink RX2 9 "MirrorLog$RowTable" "seconds" "[I", .methodLink RX2 31 yX2_has, .instanceMethod yX2_has, .selects RX2 yX2_has yX2_has, .initialized RX2, .code yX2_has cX2_has 2 (some .boolean), .fieldLink RX2 27 "MirrorLog$RowTable" "count" "I"] ++ wsX20)
def wsX1_addNumber : List Cond := .code yX1_addNumber cX1_addNumber 4 none :: ([.methodLink RX1 19 yX1_add, .instanceMethod yX1_add, .selects RX1 yX1_add yX1_add, .initialized RX1, .code yX1_add cX1_add 2 none, .fieldLink RX1 15 "MirrorLog$LogFile" "size" "I", .fieldLink RX1 9 "MirrorLog$LogFile" "bytes" "[B"] ++ wsX10)
def wsX2_contentAt : List Cond := .code yX2_contentAt cX2_contentAt 3 (some .int) :: ([.fieldLink RX2 23 "MirrorLog$RowTable" "contents" "[B", .methodLink RX2 40 yX2_lengthOf, .instanceMethod yX2_lengthOf, .selects RX2 yX2_lengthOf yX2_lengthOf, .initialized RX2, .code yX2_lengthOf cX2_lengthOf 2 (some .int), .fieldLink RX2 15 "MirrorLog$RowTable" "lengths" "[I", .methodLink RX2 31 yX2_has, .instanceMethod yX2_has, .selects RX2 yX2_has yX2_has, .code yX2_has cX2_has 2 (some .boolean), .fieldLink RX2 27 "MirrorLog$RowTable" "count" "I"] ++ wsX20)
def wsX1_get : List Cond := .code yX1_get cX1_get 2 (some .int) :: ([.fieldLink RX1 15 "MirrorLog$LogFile" "size" "I", .fieldLink RX1 9 "MirrorLog$LogFile" "bytes" "[B"] ++ wsX10)
def wsJ6_rotateLeft_7cf53 : List Cond := .code yJ6_rotateLeft_7cf53 cJ6_rotateLeft_7cf53 2 (some .int) :: ([])
def wsX1_sumOf : List Cond := .code yX1_sumOf cX1_sumOf 6 (some .int) :: ([.constant RX1 33 (668265263), .methodLink RX1 23 yX1_get, .instanceMethod yX1_get, .selects RX1 yX1_get yX1_get, .initialized RX1, .code yX1_get cX1_get 2 (some .int), .fieldLink RX1 15 "MirrorLog$LogFile" "size" "I", .fieldLink RX1 9 "MirrorLog$LogFile" "bytes" "[B", .methodLink RX1 27 yJ6_rotateLeft_7cf53, .static yJ6_rotateLeft_7cf53, .initialized RJ6, .code yJ6_rotateLeft_7cf53 cJ6_rotateLeft_7cf53 2 (some .int)] ++ wsX10)
def wsX0_writeRow_r1 : List Cond := [Cond.methodLink RX0 21 yX1_size, Cond.instanceMethod yX1_size, Cond.selects RX1 yX1_size yX1_size, Cond.initialized RX1, Cond.code yX1_size cX1_size 1 (some .int), Cond.fieldLink RX1 15 "MirrorLog$LogFile" "size" "I", Cond.methodLink RX0 38 yX2_lengthOf, Cond.instanceMethod yX2_lengthOf, Cond.selects RX2 yX2_lengthOf yX2_lengthOf, Cond.initialized RX2, Cond.code yX2_lengthOf cX2_lengthOf 2 (some .int), Cond.fieldLink RX2 15 "MirrorLog$RowTable" "lengths" "[I", Cond.methodLink RX2 31 yX2_has, Cond.instanceMethod yX2_has, Cond.selects RX2 yX2_has yX2_has, Cond.code yX2_has cX2_has 2 (some .boolean), Cond.fieldLink RX2 27 "MirrorLog$RowTable" "count" "I", Cond.methodLink RX0 26 yX1_add, Cond.instanceMethod yX1_add, Cond.selects RX1 yX1_add yX1_add, Cond.code yX1_add cX1_add 2 none, Cond.fieldLink RX1 9 "MirrorLog$LogFile" "bytes" "[B", Cond.methodLink RX0 42 yX2_secondOf, Cond.instanceMethod yX2_secondOf]
def wsX0_writeRow_r2 : List Cond := [Cond.selects RX2 yX2_secondOf yX2_secondOf, Cond.code yX2_secondOf cX2_secondOf 2 (some .int), Cond.fieldLink RX2 9 "MirrorLog$RowTable" "seconds" "[I", Cond.methodLink RX0 34 yX1_addNumber, Cond.instanceMethod yX1_addNumber, Cond.selects RX1 yX1_addNumber yX1_addNumber, Cond.code yX1_addNumber cX1_addNumber 4 none, Cond.methodLink RX1 19 yX1_add, Cond.methodLink RX0 45 yX2_contentAt, Cond.instanceMethod yX2_contentAt, Cond.selects RX2 yX2_contentAt yX2_contentAt, Cond.code yX2_contentAt cX2_contentAt 3 (some .int), Cond.fieldLink RX2 23 "MirrorLog$RowTable" "contents" "[B", Cond.methodLink RX2 40 yX2_lengthOf, Cond.methodLink RX0 30 yX1_sumOf, Cond.instanceMethod yX1_sumOf, Cond.selects RX1 yX1_sumOf yX1_sumOf, Cond.code yX1_sumOf cX1_sumOf 6 (some .int), Cond.constant RX1 33 (668265263), Cond.methodLink RX1 23 yX1_get, Cond.instanceMethod yX1_get, Cond.selects RX1 yX1_get yX1_get, Cond.code yX1_get cX1_get 2 (some .int), Cond.methodLink RX1 27 yJ6_rotateLeft_7cf53]
def wsX0_writeRow_r3 : List Cond := [Cond.static yJ6_rotateLeft_7cf53, Cond.initialized RJ6, Cond.code yJ6_rotateLeft_7cf53 cJ6_rotateLeft_7cf53 2 (some .int)]
def wsX0_writeRow : List Cond := .code yX0_writeRow cX0_writeRow 6 (some .int) :: ((wsX0_writeRow_r1 ++ (wsX0_writeRow_r2 ++ wsX0_writeRow_r3)) ++ wsX10 ++ wsX20)
def wsX0_write_r1 : List Cond := [Cond.methodLink RX0 9 yX2_count, Cond.instanceMethod yX2_count, Cond.selects RX2 yX2_count yX2_count, Cond.initialized RX2, Cond.code yX2_count cX2_count 1 (some .int), Cond.fieldLink RX2 27 "MirrorLog$RowTable" "count" "I", Cond.methodLink RX0 15 yX0_writeRow, Cond.static yX0_writeRow, Cond.initialized RX0, Cond.code yX0_writeRow cX0_writeRow 6 (some .int), Cond.methodLink RX0 21 yX1_size, Cond.instanceMethod yX1_size, Cond.selects RX1 yX1_size yX1_size, Cond.initialized RX1, Cond.code yX1_size cX1_size 1 (some .int), Cond.fieldLink RX1 15 "MirrorLog$LogFile" "size" "I", Cond.methodLink RX0 38 yX2_lengthOf, Cond.instanceMethod yX2_lengthOf, Cond.selects RX2 yX2_lengthOf yX2_lengthOf, Cond.code yX2_lengthOf cX2_lengthOf 2 (some .int), Cond.fieldLink RX2 15 "MirrorLog$RowTable" "lengths" "[I", Cond.methodLink RX2 31 yX2_has, Cond.instanceMethod yX2_has, Cond.selects RX2 yX2_has yX2_has]
def wsX0_write_r2 : List Cond := [Cond.code yX2_has cX2_has 2 (some .boolean), Cond.methodLink RX0 26 yX1_add, Cond.instanceMethod yX1_add, Cond.selects RX1 yX1_add yX1_add, Cond.code yX1_add cX1_add 2 none, Cond.fieldLink RX1 9 "MirrorLog$LogFile" "bytes" "[B", Cond.methodLink RX0 42 yX2_secondOf, Cond.instanceMethod yX2_secondOf, Cond.selects RX2 yX2_secondOf yX2_secondOf, Cond.code yX2_secondOf cX2_secondOf 2 (some .int), Cond.fieldLink RX2 9 "MirrorLog$RowTable" "seconds" "[I", Cond.methodLink RX0 34 yX1_addNumber, Cond.instanceMethod yX1_addNumber, Cond.selects RX1 yX1_addNumber yX1_addNumber, Cond.code yX1_addNumber cX1_addNumber 4 none, Cond.methodLink RX1 19 yX1_add, Cond.methodLink RX0 45 yX2_contentAt, Cond.instanceMethod yX2_contentAt, Cond.selects RX2 yX2_contentAt yX2_contentAt, Cond.code yX2_contentAt cX2_contentAt 3 (some .int), Cond.fieldLink RX2 23 "MirrorLog$RowTable" "contents" "[B", Cond.methodLink RX2 40 yX2_lengthOf, Cond.methodLink RX0 30 yX1_sumOf, Cond.instanceMethod yX1_sumOf]
def wsX0_write_r3 : List Cond := [Cond.selects RX1 yX1_sumOf yX1_sumOf, Cond.code yX1_sumOf cX1_sumOf 6 (some .int), Cond.constant RX1 33 (668265263), Cond.methodLink RX1 23 yX1_get, Cond.instanceMethod yX1_get, Cond.selects RX1 yX1_get yX1_get, Cond.code yX1_get cX1_get 2 (some .int), Cond.methodLink RX1 27 yJ6_rotateLeft_7cf53, Cond.static yJ6_rotateLeft_7cf53, Cond.initialized RJ6, Cond.code yJ6_rotateLeft_7cf53 cJ6_rotateLeft_7cf53 2 (some .int)]
def wsX0_write : List Cond := .code yX0_write cX0_write 5 none :: ((wsX0_write_r1 ++ (wsX0_write_r2 ++ wsX0_write_r3)) ++ wsX20 ++ wsX10)
def wsX2_lastSecond : List Cond := .code yX2_lastSecond cX2_lastSecond 1 (some .int) :: ([.fieldLink RX2 27 "MirrorLog$RowTable" "count" "I", .methodLink RX2 35 yX2_secondOf, .instanceMethod yX2_secondOf, .selects RX2 yX2_secondOf yX2_secondOf, .initialized RX2, .code yX2_secondOf cX2_secondOf 2 (some .int), .fieldLink RX2 9 "MirrorLog$RowTable" "seconds" "[I", .methodLink RX2 31 yX2_has, .instanceMethod yX2_has, .selects RX2 yX2_has yX2_has, .code yX2_has cX2_has 2 (some .boolean)] ++ wsX20)
def wsX1_number : List Cond := .code yX1_number cX1_number 5 (some .int) :: ([.methodLink RX1 23 yX1_get, .instanceMethod yX1_get, .selects RX1 yX1_get yX1_get, .initialized RX1, .code yX1_get cX1_get 2 (some .int), .fieldLink RX1 15 "MirrorLog$LogFile" "size" "I", .fieldLink RX1 9 "MirrorLog$LogFile" "bytes" "[B"] ++ wsX10)
def wsX0_isRowGood_r1 : List Cond := [Cond.constant RX0 66 (1000000000), Cond.methodLink RX0 52 yX1_get, Cond.instanceMethod yX1_get, Cond.selects RX1 yX1_get yX1_get, Cond.initialized RX1, Cond.code yX1_get cX1_get 2 (some .int), Cond.fieldLink RX1 15 "MirrorLog$LogFile" "size" "I", Cond.fieldLink RX1 9 "MirrorLog$LogFile" "bytes" "[B", Cond.methodLink RX0 21 yX1_size, Cond.instanceMethod yX1_size, Cond.selects RX1 yX1_size yX1_size, Cond.code yX1_size cX1_size 1 (some .int), Cond.methodLink RX0 59 yX1_number, Cond.instanceMethod yX1_number, Cond.selects RX1 yX1_number yX1_number, Cond.code yX1_number cX1_number 5 (some .int), Cond.methodLink RX1 23 yX1_get, Cond.methodLink RX0 30 yX1_sumOf, Cond.instanceMethod yX1_sumOf, Cond.selects RX1 yX1_sumOf yX1_sumOf, Cond.code yX1_sumOf cX1_sumOf 6 (some .int), Cond.constant RX1 33 (668265263), Cond.methodLink RX1 27 yJ6_rotateLeft_7cf53, Cond.static yJ6_rotateLeft_7cf53]
def wsX0_isRowGood_r2 : List Cond := [Cond.initialized RJ6, Cond.code yJ6_rotateLeft_7cf53 cJ6_rotateLeft_7cf53 2 (some .int)]
def wsX0_isRowGood : List Cond := .code yX0_isRowGood cX0_isRowGood 8 (some .boolean) :: ((wsX0_isRowGood_r1 ++ wsX0_isRowGood_r2) ++ wsX10)
def wsX0_isEndGood_r1 : List Cond := [Cond.methodLink RX0 21 yX1_size, Cond.instanceMethod yX1_size, Cond.selects RX1 yX1_size yX1_size, Cond.initialized RX1, Cond.code yX1_size cX1_size 1 (some .int), Cond.fieldLink RX1 15 "MirrorLog$LogFile" "size" "I", Cond.methodLink RX0 52 yX1_get, Cond.instanceMethod yX1_get, Cond.selects RX1 yX1_get yX1_get, Cond.code yX1_get cX1_get 2 (some .int), Cond.fieldLink RX1 9 "MirrorLog$LogFile" "bytes" "[B", Cond.methodLink RX0 59 yX1_number, Cond.instanceMethod yX1_number, Cond.selects RX1 yX1_number yX1_number, Cond.code yX1_number cX1_number 5 (some .int), Cond.methodLink RX1 23 yX1_get, Cond.methodLink RX0 30 yX1_sumOf, Cond.instanceMethod yX1_sumOf, Cond.selects RX1 yX1_sumOf yX1_sumOf, Cond.code yX1_sumOf cX1_sumOf 6 (some .int), Cond.constant RX1 33 (668265263), Cond.methodLink RX1 27 yJ6_rotateLeft_7cf53, Cond.static yJ6_rotateLeft_7cf53, Cond.initialized RJ6]
def wsX0_isEndGood_r2 : List Cond := [Cond.code yJ6_rotateLeft_7cf53 cJ6_rotateLeft_7cf53 2 (some .int)]
def wsX0_isEndGood : List Cond := .code yX0_isEndGood cX0_isEndGood 4 (some .boolean) :: ((wsX0_isEndGood_r1 ++ wsX0_isEndGood_r2) ++ wsX10)
def wsX0_endOfGood_r1 : List Cond := [Cond.methodLink RX0 49 yX2_lastSecond, Cond.instanceMethod yX2_lastSecond, Cond.selects RX2 yX2_lastSecond yX2_lastSecond, Cond.initialized RX2, Cond.code yX2_lastSecond cX2_lastSecond 1 (some .int), Cond.fieldLink RX2 27 "MirrorLog$RowTable" "count" "I", Cond.methodLink RX2 35 yX2_secondOf, Cond.instanceMethod yX2_secondOf, Cond.selects RX2 yX2_secondOf yX2_secondOf, Cond.code yX2_secondOf cX2_secondOf 2 (some .int), Cond.fieldLink RX2 9 "MirrorLog$RowTable" "seconds" "[I", Cond.methodLink RX2 31 yX2_has, Cond.instanceMethod yX2_has, Cond.selects RX2 yX2_has yX2_has, Cond.code yX2_has cX2_has 2 (some .boolean), Cond.methodLink RX0 52 yX1_get, Cond.instanceMethod yX1_get, Cond.selects RX1 yX1_get yX1_get, Cond.initialized RX1, Cond.code yX1_get cX1_get 2 (some .int), Cond.fieldLink RX1 15 "MirrorLog$LogFile" "size" "I", Cond.fieldLink RX1 9 "MirrorLog$LogFile" "bytes" "[B", Cond.methodLink RX0 9 yX2_count, Cond.instanceMethod yX2_count]
def wsX0_endOfGood_r2 : List Cond := [Cond.selects RX2 yX2_count yX2_count, Cond.code yX2_count cX2_count 1 (some .int), Cond.methodLink RX0 55 yX0_isRowGood, Cond.static yX0_isRowGood, Cond.initialized RX0, Cond.code yX0_isRowGood cX0_isRowGood 8 (some .boolean), Cond.constant RX0 66 (1000000000), Cond.methodLink RX0 21 yX1_size, Cond.instanceMethod yX1_size, Cond.selects RX1 yX1_size yX1_size, Cond.code yX1_size cX1_size 1 (some .int), Cond.methodLink RX0 59 yX1_number, Cond.instanceMethod yX1_number, Cond.selects RX1 yX1_number yX1_number, Cond.code yX1_number cX1_number 5 (some .int), Cond.methodLink RX1 23 yX1_get, Cond.methodLink RX0 30 yX1_sumOf, Cond.instanceMethod yX1_sumOf, Cond.selects RX1 yX1_sumOf yX1_sumOf, Cond.code yX1_sumOf cX1_sumOf 6 (some .int), Cond.constant RX1 33 (668265263), Cond.methodLink RX1 27 yJ6_rotateLeft_7cf53, Cond.static yJ6_rotateLeft_7cf53, Cond.initialized RJ6]
def wsX0_endOfGood_r3 : List Cond := [Cond.code yJ6_rotateLeft_7cf53 cJ6_rotateLeft_7cf53 2 (some .int), Cond.methodLink RX0 62 yX0_isEndGood, Cond.static yX0_isEndGood, Cond.code yX0_isEndGood cX0_isEndGood 4 (some .boolean)]
def wsX0_endOfGood : List Cond := .code yX0_endOfGood cX0_endOfGood 6 (some .int) :: ((wsX0_endOfGood_r1 ++ (wsX0_endOfGood_r2 ++ wsX0_endOfGood_r3)) ++ wsX20 ++ wsX10)
def wsX2_begin : List Cond := .code yX2_begin cX2_begin 2 none :: ([.fieldLink RX2 27 "MirrorLog$RowTable" "count" "I", .fieldLink RX2 9 "MirrorLog$RowTable" "seconds" "[I", .fieldLink RX2 15 "MirrorLog$RowTable" "lengths" "[I", .fieldLink RX2 18 "MirrorLog$RowTable" "groupEnds" "[Z"] ++ wsX20)
def wsX2_push : List Cond := .code yX2_push cX2_push 4 none :: ([.fieldLink RX2 27 "MirrorLog$RowTable" "count" "I", .fieldLink RX2 15 "MirrorLog$RowTable" "lengths" "[I", .fieldLink RX2 23 "MirrorLog$RowTable" "contents" "[B", .methodLink RX2 31 yX2_has, .instanceMethod yX2_has, .selects RX2 yX2_has yX2_has, .initialized RX2, .code yX2_has cX2_has 2 (some .boolean)] ++ wsX20)
def wsX2_endGroupHere : List Cond := .code yX2_endGroupHere cX2_endGroupHere 1 none :: ([.fieldLink RX2 27 "MirrorLog$RowTable" "count" "I", .fieldLink RX2 18 "MirrorLog$RowTable" "groupEnds" "[Z", .methodLink RX2 31 yX2_has, .instanceMethod yX2_has, .selects RX2 yX2_has yX2_has, .initialized RX2, .code yX2_has cX2_has 2 (some .boolean)] ++ wsX20)
def wsX0_read_r1 : List Cond := [Cond.methodLink RX0 52 yX1_get, Cond.instanceMethod yX1_get, Cond.selects RX1 yX1_get yX1_get, Cond.initialized RX1, Cond.code yX1_get cX1_get 2 (some .int), Cond.fieldLink RX1 15 "MirrorLog$LogFile" "size" "I", Cond.fieldLink RX1 9 "MirrorLog$LogFile" "bytes" "[B", Cond.methodLink RX0 59 yX1_number, Cond.instanceMethod yX1_number, Cond.selects RX1 yX1_number yX1_number, Cond.code yX1_number cX1_number 5 (some .int), Cond.methodLink RX1 23 yX1_get, Cond.methodLink RX0 67 yX2_begin, Cond.instanceMethod yX2_begin, Cond.selects RX2 yX2_begin yX2_begin, Cond.initialized RX2, Cond.code yX2_begin cX2_begin 2 none, Cond.fieldLink RX2 27 "MirrorLog$RowTable" "count" "I", Cond.fieldLink RX2 9 "MirrorLog$RowTable" "seconds" "[I", Cond.fieldLink RX2 15 "MirrorLog$RowTable" "lengths" "[I", Cond.fieldLink RX2 18 "MirrorLog$RowTable" "groupEnds" "[Z", Cond.methodLink RX0 70 yX2_push, Cond.instanceMethod yX2_push, Cond.selects RX2 yX2_push yX2_push]
def wsX0_read_r2 : List Cond := [Cond.code yX2_push cX2_push 4 none, Cond.fieldLink RX2 23 "MirrorLog$RowTable" "contents" "[B", Cond.methodLink RX2 31 yX2_has, Cond.instanceMethod yX2_has, Cond.selects RX2 yX2_has yX2_has, Cond.code yX2_has cX2_has 2 (some .boolean), Cond.methodLink RX0 73 yX2_endGroupHere, Cond.instanceMethod yX2_endGroupHere, Cond.selects RX2 yX2_endGroupHere yX2_endGroupHere, Cond.code yX2_endGroupHere cX2_endGroupHere 1 none]
def wsX0_read : List Cond := .code yX0_read cX0_read 10 none :: ((wsX0_read_r1 ++ wsX0_read_r2) ++ wsX10 ++ wsX20)
def wsX1_init : List Cond := .code yX1_init cX1_init 1 none :: ([.methodLink RX1 3 objectInit, .instanceMethod objectInit, .code objectInit ⟨#[0xb1]⟩ 1 none, .arrayClass .byte, .fieldLink RX1 9 "MirrorLog$LogFile" "bytes" "[B"] ++ wsX10)
def wsX1_hasRoomFor : List Cond := .code yX1_hasRoomFor cX1_hasRoomFor 2 (some .boolean) :: ([.fieldLink RX1 9 "MirrorLog$LogFile" "bytes" "[B", .fieldLink RX1 15 "MirrorLog$LogFile" "size" "I"] ++ wsX10)
def wsX1_alter : List Cond := .code yX1_alter cX1_alter 3 none :: ([.fieldLink RX1 15 "MirrorLog$LogFile" "size" "I", .fieldLink RX1 9 "MirrorLog$LogFile" "bytes" "[B"] ++ wsX10)
def wsX1_cutTo : List Cond := .code yX1_cutTo cX1_cutTo 2 none :: ([.fieldLink RX1 15 "MirrorLog$LogFile" "size" "I"] ++ wsX10)
def wsX1_dropFirst : List Cond := .code yX1_dropFirst cX1_dropFirst 2 none :: ([.fieldLink RX1 15 "MirrorLog$LogFile" "size" "I", .fieldLink RX1 9 "MirrorLog$LogFile" "bytes" "[B", .methodLink RX1 34 arraycopyName, .native arraycopyName, .static arraycopyName, .initialized "java/lang/System"] ++ wsX10)
def wsX1_agrees : List Cond := .code yX1_agrees cX1_agrees 5 (some .boolean) :: ([.methodLink RX1 23 yX1_get, .instanceMethod yX1_get, .selects RX1 yX1_get yX1_get, .initialized RX1, .code yX1_get cX1_get 2 (some .int), .fieldLink RX1 15 "MirrorLog$LogFile" "size" "I", .fieldLink RX1 9 "MirrorLog$LogFile" "bytes" "[B"] ++ wsX10)
def wsX1_copyFrom : List Cond := .code yX1_copyFrom cX1_copyFrom 5 none :: ([.fieldLink RX1 15 "MirrorLog$LogFile" "size" "I", .fieldLink RX1 9 "MirrorLog$LogFile" "bytes" "[B", .methodLink RX1 23 yX1_get, .instanceMethod yX1_get, .selects RX1 yX1_get yX1_get, .initialized RX1, .code yX1_get cX1_get 2 (some .int), .methodLink RX1 19 yX1_add, .instanceMethod yX1_add, .selects RX1 yX1_add yX1_add, .code yX1_add cX1_add 2 none] ++ wsX10)
def wsX2_init : List Cond := .code yX2_init cX2_init 1 none :: ([.methodLink RX2 3 objectInit, .instanceMethod objectInit, .code objectInit ⟨#[0xb1]⟩ 1 none, .arrayClass .int, .fieldLink RX2 9 "MirrorLog$RowTable" "seconds" "[I", .fieldLink RX2 15 "MirrorLog$RowTable" "lengths" "[I", .arrayClass .boolean, .fieldLink RX2 18 "MirrorLog$RowTable" "groupEnds" "[Z", .constant RX2 22 (38400), .arrayClass .byte, .fieldLink RX2 23 "MirrorLog$RowTable" "contents" "[B"] ++ wsX20)
def wsX2_cutTo : List Cond := .code yX2_cutTo cX2_cutTo 2 none :: ([.fieldLink RX2 27 "MirrorLog$RowTable" "count" "I"] ++ wsX20)
def wsX2_endsGroup : List Cond := .code yX2_endsGroup cX2_endsGroup 2 (some .boolean) :: ([.fieldLink RX2 18 "MirrorLog$RowTable" "groupEnds" "[Z", .methodLink RX2 31 yX2_has, .instanceMethod yX2_has, .selects RX2 yX2_has yX2_has, .initialized RX2, .code yX2_has cX2_has 2 (some .boolean), .fieldLink RX2 27 "MirrorLog$RowTable" "count" "I"] ++ wsX20)
def wsX2_monthOf : List Cond := .code yX2_monthOf cX2_monthOf 2 (some .int) :: ([.constant RX2 39 (2592000), .methodLink RX2 35 yX2_secondOf, .instanceMethod yX2_secondOf, .selects RX2 yX2_secondOf yX2_secondOf, .initialized RX2, .code yX2_secondOf cX2_secondOf 2 (some .int), .fieldLink RX2 9 "MirrorLog$RowTable" "seconds" "[I", .methodLink RX2 31 yX2_has, .instanceMethod yX2_has, .selects RX2 yX2_has yX2_has, .code yX2_has cX2_has 2 (some .boolean), .fieldLink RX2 27 "MirrorLog$RowTable" "count" "I"] ++ wsX20)
def wsX2_bytesInFile : List Cond := .code yX2_bytesInFile cX2_bytesInFile 5 (some .int) :: ([.methodLink RX2 40 yX2_lengthOf, .instanceMethod yX2_lengthOf, .selects RX2 yX2_lengthOf yX2_lengthOf, .initialized RX2, .code yX2_lengthOf cX2_lengthOf 2 (some .int), .fieldLink RX2 15 "MirrorLog$RowTable" "lengths" "[I", .methodLink RX2 31 yX2_has, .instanceMethod yX2_has, .selects RX2 yX2_has yX2_has, .code yX2_has cX2_has 2 (some .boolean), .fieldLink RX2 27 "MirrorLog$RowTable" "count" "I", .methodLink RX2 43 yX2_endsGroup, .instanceMethod yX2_endsGroup, .selects RX2 yX2_endsGroup yX2_endsGroup, .code yX2_endsGroup cX2_endsGroup 2 (some .boolean), .fieldLink RX2 18 "MirrorLog$RowTable" "groupEnds" "[Z"] ++ wsX20)
def wsX3_init_r1 : List Cond := [Cond.methodLink RX3 3 objectInit, Cond.instanceMethod objectInit, Cond.code objectInit ⟨#[0xb1]⟩ 1 none, Cond.classLink RX3 9 RX1, Cond.instantiable RX1 2, Cond.initialized RX1, Cond.fieldLink RX3 12 "MirrorLog" "file0" "LMirrorLog$LogFile;", Cond.fieldLink RX3 16 "MirrorLog" "file1" "LMirrorLog$LogFile;", Cond.classLink RX3 19 RX2, Cond.instantiable RX2 5, Cond.initialized RX2, Cond.fieldLink RX3 22 "MirrorLog" "table" "LMirrorLog$RowTable;", Cond.arrayClass .byte, Cond.fieldLink RX3 26 "MirrorLog" "fed" "[B", Cond.fieldLink RX3 30 "MirrorLog" "badPlace" "I", Cond.instanceMethod yX1_init, Cond.code yX1_init cX1_init 1 none, Cond.methodLink RX1 3 objectInit, Cond.fieldLink RX1 9 "MirrorLog$LogFile" "bytes" "[B", Cond.instanceMethod yX2_init, Cond.code yX2_init cX2_init 1 none, Cond.methodLink RX2 3 objectInit, Cond.arrayClass .int, Cond.fieldLink RX2 9 "MirrorLog$RowTable" "seconds" "[I"]
def wsX3_init_r2 : List Cond := [Cond.fieldLink RX2 15 "MirrorLog$RowTable" "lengths" "[I", Cond.arrayClass .boolean, Cond.fieldLink RX2 18 "MirrorLog$RowTable" "groupEnds" "[Z", Cond.constant RX2 22 (38400), Cond.fieldLink RX2 23 "MirrorLog$RowTable" "contents" "[B"]
def wsX3_init : List Cond := .code yX3_init cX3_init 1 none :: ((wsX3_init_r1 ++ wsX3_init_r2) ++ wsX10 ++ wsX30 ++ wsX20)
def wsX3_feed : List Cond := .code yX3_feed cX3_feed 2 (some .boolean) :: ([.fieldLink RX3 34 "MirrorLog" "shut" "Z", .fieldLink RX3 38 "MirrorLog" "fedCount" "I", .fieldLink RX3 26 "MirrorLog" "fed" "[B"] ++ wsX30)
def wsX3_row_r1 : List Cond := [Cond.fieldLink RX3 34 "MirrorLog" "shut" "Z", Cond.fieldLink RX3 38 "MirrorLog" "fedCount" "I", Cond.constant RX3 41 (1000000000), Cond.fieldLink RX3 22 "MirrorLog" "table" "LMirrorLog$RowTable;", Cond.fieldLink RX3 49 "MirrorLog" "known" "I", Cond.fieldLink RX3 26 "MirrorLog" "fed" "[B", Cond.methodLink RX3 42 yX2_lastSecond, Cond.instanceMethod yX2_lastSecond, Cond.selects RX2 yX2_lastSecond yX2_lastSecond, Cond.initialized RX2, Cond.code yX2_lastSecond cX2_lastSecond 1 (some .int), Cond.fieldLink RX2 27 "MirrorLog$RowTable" "count" "I", Cond.methodLink RX2 35 yX2_secondOf, Cond.instanceMethod yX2_secondOf, Cond.selects RX2 yX2_secondOf yX2_secondOf, Cond.code yX2_secondOf cX2_secondOf 2 (some .int), Cond.fieldLink RX2 9 "MirrorLog$RowTable" "seconds" "[I", Cond.methodLink RX2 31 yX2_has, Cond.instanceMethod yX2_has, Cond.selects RX2 yX2_has yX2_has, Cond.code yX2_has cX2_has 2 (some .boolean), Cond.methodLink RX3 46 yX2_count, Cond.instanceMethod yX2_count, Cond.selects RX2 yX2_count yX2_count]
def wsX3_row_r2 : List Cond := [Cond.code yX2_count cX2_count 1 (some .int), Cond.methodLink RX3 52 yX2_begin, Cond.instanceMethod yX2_begin, Cond.selects RX2 yX2_begin yX2_begin, Cond.code yX2_begin cX2_begin 2 none, Cond.fieldLink RX2 15 "MirrorLog$RowTable" "lengths" "[I", Cond.fieldLink RX2 18 "MirrorLog$RowTable" "groupEnds" "[Z", Cond.methodLink RX3 56 yX2_push, Cond.instanceMethod yX2_push, Cond.selects RX2 yX2_push yX2_push, Cond.code yX2_push cX2_push 4 none, Cond.fieldLink RX2 23 "MirrorLog$RowTable" "contents" "[B"]
def wsX3_row : List Cond := .code yX3_row cX3_row 4 (some .int) :: ((wsX3_row_r1 ++ wsX3_row_r2) ++ wsX30 ++ wsX20)
def wsX3_endGroup_r1 : List Cond := [Cond.fieldLink RX3 34 "MirrorLog" "shut" "Z", Cond.fieldLink RX3 22 "MirrorLog" "table" "LMirrorLog$RowTable;", Cond.fieldLink RX3 49 "MirrorLog" "known" "I", Cond.fieldLink RX3 12 "MirrorLog" "file0" "LMirrorLog$LogFile;", Cond.fieldLink RX3 16 "MirrorLog" "file1" "LMirrorLog$LogFile;", Cond.methodLink RX3 46 yX2_count, Cond.instanceMethod yX2_count, Cond.selects RX2 yX2_count yX2_count, Cond.initialized RX2, Cond.code yX2_count cX2_count 1 (some .int), Cond.fieldLink RX2 27 "MirrorLog$RowTable" "count" "I", Cond.methodLink RX3 59 yX2_bytesInFile, Cond.instanceMethod yX2_bytesInFile, Cond.selects RX2 yX2_bytesInFile yX2_bytesInFile, Cond.code yX2_bytesInFile cX2_bytesInFile 5 (some .int), Cond.methodLink RX2 40 yX2_lengthOf, Cond.instanceMethod yX2_lengthOf, Cond.selects RX2 yX2_lengthOf yX2_lengthOf, Cond.code yX2_lengthOf cX2_lengthOf 2 (some .int), Cond.fieldLink RX2 15 "MirrorLog$RowTable" "lengths" "[I", Cond.methodLink RX2 31 yX2_has, Cond.instanceMethod yX2_has, Cond.selects RX2 yX2_has yX2_has, Cond.code yX2_has cX2_has 2 (some .boolean)]
def wsX3_endGroup_r2 : List Cond := [Cond.methodLink RX2 43 yX2_endsGroup, Cond.instanceMethod yX2_endsGroup, Cond.selects RX2 yX2_endsGroup yX2_endsGroup, Cond.code yX2_endsGroup cX2_endsGroup 2 (some .boolean), Cond.fieldLink RX2 18 "MirrorLog$RowTable" "groupEnds" "[Z", Cond.methodLink RX3 63 yX1_hasRoomFor, Cond.instanceMethod yX1_hasRoomFor, Cond.selects RX1 yX1_hasRoomFor yX1_hasRoomFor, Cond.initialized RX1, Cond.code yX1_hasRoomFor cX1_hasRoomFor 2 (some .boolean), Cond.fieldLink RX1 9 "MirrorLog$LogFile" "bytes" "[B", Cond.fieldLink RX1 15 "MirrorLog$LogFile" "size" "I", Cond.methodLink RX3 67 yX0_write, Cond.static yX0_write, Cond.initialized RX0, Cond.code yX0_write cX0_write 5 none, Cond.methodLink RX0 9 yX2_count, Cond.methodLink RX0 15 yX0_writeRow, Cond.static yX0_writeRow, Cond.code yX0_writeRow cX0_writeRow 6 (some .int), Cond.methodLink RX0 21 yX1_size, Cond.instanceMethod yX1_size, Cond.selects RX1 yX1_size yX1_size, Cond.code yX1_size cX1_size 1 (some .int)]
def wsX3_endGroup_r3 : List Cond := [Cond.methodLink RX0 38 yX2_lengthOf, Cond.methodLink RX0 26 yX1_add, Cond.instanceMethod yX1_add, Cond.selects RX1 yX1_add yX1_add, Cond.code yX1_add cX1_add 2 none, Cond.methodLink RX0 42 yX2_secondOf, Cond.instanceMethod yX2_secondOf, Cond.selects RX2 yX2_secondOf yX2_secondOf, Cond.code yX2_secondOf cX2_secondOf 2 (some .int), Cond.fieldLink RX2 9 "MirrorLog$RowTable" "seconds" "[I", Cond.methodLink RX0 34 yX1_addNumber, Cond.instanceMethod yX1_addNumber, Cond.selects RX1 yX1_addNumber yX1_addNumber, Cond.code yX1_addNumber cX1_addNumber 4 none, Cond.methodLink RX1 19 yX1_add, Cond.methodLink RX0 45 yX2_contentAt, Cond.instanceMethod yX2_contentAt, Cond.selects RX2 yX2_contentAt yX2_contentAt, Cond.code yX2_contentAt cX2_contentAt 3 (some .int), Cond.fieldLink RX2 23 "MirrorLog$RowTable" "contents" "[B", Cond.methodLink RX0 30 yX1_sumOf, Cond.instanceMethod yX1_sumOf, Cond.selects RX1 yX1_sumOf yX1_sumOf, Cond.code yX1_sumOf cX1_sumOf 6 (some .int)]
def wsX3_endGroup_r4 : List Cond := [Cond.constant RX1 33 (668265263), Cond.methodLink RX1 23 yX1_get, Cond.instanceMethod yX1_get, Cond.selects RX1 yX1_get yX1_get, Cond.code yX1_get cX1_get 2 (some .int), Cond.methodLink RX1 27 yJ6_rotateLeft_7cf53, Cond.static yJ6_rotateLeft_7cf53, Cond.initialized RJ6, Cond.code yJ6_rotateLeft_7cf53 cJ6_rotateLeft_7cf53 2 (some .int), Cond.methodLink RX3 73 yX2_endGroupHere, Cond.instanceMethod yX2_endGroupHere, Cond.selects RX2 yX2_endGroupHere yX2_endGroupHere, Cond.code yX2_endGroupHere cX2_endGroupHere 1 none]
def wsX3_endGroup : List Cond := .code yX3_endGroup cX3_endGroup 2 (some .boolean) :: ((wsX3_endGroup_r1 ++ (wsX3_endGroup_r2 ++ (wsX3_endGroup_r3 ++ wsX3_endGroup_r4))) ++ wsX30 ++ wsX20 ++ wsX10)
def wsX3_isFile : List Cond := .code yX3_isFile cX3_isFile 1 (some .boolean) :: ([])
def wsX3_fileOf : List Cond := .code yX3_fileOf cX3_fileOf 2 (some (.object "MirrorLog$LogFile")) :: ([.fieldLink RX3 12 "MirrorLog" "file0" "LMirrorLog$LogFile;", .fieldLink RX3 16 "MirrorLog" "file1" "LMirrorLog$LogFile;"] ++ wsX30)
def wsX3_forgetAllButMoved : List Cond := .code yX3_forgetAllButMoved cX3_forgetAllButMoved 1 none :: ([.fieldLink RX3 22 "MirrorLog" "table" "LMirrorLog$RowTable;", .fieldLink RX3 120 "MirrorLog" "moved" "I", .fieldLink RX3 49 "MirrorLog" "known" "I", .fieldLink RX3 38 "MirrorLog" "fedCount" "I", .methodLink RX3 133 yX2_cutTo, .instanceMethod yX2_cutTo, .selects RX2 yX2_cutTo yX2_cutTo, .initialized RX2, .code yX2_cutTo cX2_cutTo 2 none, .fieldLink RX2 27 "MirrorLog$RowTable" "count" "I"] ++ wsX30 ++ wsX20)
def wsX3_crash_r1 : List Cond := [Cond.fieldLink RX3 34 "MirrorLog" "shut" "Z", Cond.methodLink RX3 76 yX3_isFile, Cond.static yX3_isFile, Cond.initialized RX3, Cond.code yX3_isFile cX3_isFile 1 (some .boolean), Cond.methodLink RX3 79 yX3_fileOf, Cond.instanceMethod yX3_fileOf, Cond.selects RX3 yX3_fileOf yX3_fileOf, Cond.code yX3_fileOf cX3_fileOf 2 (some (.object "MirrorLog$LogFile")), Cond.fieldLink RX3 12 "MirrorLog" "file0" "LMirrorLog$LogFile;", Cond.fieldLink RX3 16 "MirrorLog" "file1" "LMirrorLog$LogFile;", Cond.methodLink RX3 83 yX1_size, Cond.instanceMethod yX1_size, Cond.selects RX1 yX1_size yX1_size, Cond.initialized RX1, Cond.code yX1_size cX1_size 1 (some .int), Cond.fieldLink RX1 15 "MirrorLog$LogFile" "size" "I", Cond.methodLink RX3 86 yX1_cutTo, Cond.instanceMethod yX1_cutTo, Cond.selects RX1 yX1_cutTo yX1_cutTo, Cond.code yX1_cutTo cX1_cutTo 2 none, Cond.methodLink RX3 89 yX3_forgetAllButMoved, Cond.instanceMethod yX3_forgetAllButMoved, Cond.selects RX3 yX3_forgetAllButMoved yX3_forgetAllButMoved]
def wsX3_crash_r2 : List Cond := [Cond.code yX3_forgetAllButMoved cX3_forgetAllButMoved 1 none, Cond.fieldLink RX3 22 "MirrorLog" "table" "LMirrorLog$RowTable;", Cond.fieldLink RX3 120 "MirrorLog" "moved" "I", Cond.fieldLink RX3 49 "MirrorLog" "known" "I", Cond.fieldLink RX3 38 "MirrorLog" "fedCount" "I", Cond.methodLink RX3 133 yX2_cutTo, Cond.instanceMethod yX2_cutTo, Cond.selects RX2 yX2_cutTo yX2_cutTo, Cond.initialized RX2, Cond.code yX2_cutTo cX2_cutTo 2 none, Cond.fieldLink RX2 27 "MirrorLog$RowTable" "count" "I"]
def wsX3_crash : List Cond := .code yX3_crash cX3_crash 3 (some .boolean) :: ((wsX3_crash_r1 ++ wsX3_crash_r2) ++ wsX30 ++ wsX10 ++ wsX20)
def wsX3_takeGroup_r1 : List Cond := [Cond.fieldLink RX3 22 "MirrorLog" "table" "LMirrorLog$RowTable;", Cond.fieldLink RX3 92 "MirrorLog" "repairedGroups" "I", Cond.methodLink RX3 138 yX0_endOfGood, Cond.static yX0_endOfGood, Cond.initialized RX0, Cond.code yX0_endOfGood cX0_endOfGood 6 (some .int), Cond.methodLink RX0 49 yX2_lastSecond, Cond.instanceMethod yX2_lastSecond, Cond.selects RX2 yX2_lastSecond yX2_lastSecond, Cond.initialized RX2, Cond.code yX2_lastSecond cX2_lastSecond 1 (some .int), Cond.fieldLink RX2 27 "MirrorLog$RowTable" "count" "I", Cond.methodLink RX2 35 yX2_secondOf, Cond.instanceMethod yX2_secondOf, Cond.selects RX2 yX2_secondOf yX2_secondOf, Cond.code yX2_secondOf cX2_secondOf 2 (some .int), Cond.fieldLink RX2 9 "MirrorLog$RowTable" "seconds" "[I", Cond.methodLink RX2 31 yX2_has, Cond.instanceMethod yX2_has, Cond.selects RX2 yX2_has yX2_has, Cond.code yX2_has cX2_has 2 (some .boolean), Cond.methodLink RX0 52 yX1_get, Cond.instanceMethod yX1_get, Cond.selects RX1 yX1_get yX1_get]
def wsX3_takeGroup_r2 : List Cond := [Cond.initialized RX1, Cond.code yX1_get cX1_get 2 (some .int), Cond.fieldLink RX1 15 "MirrorLog$LogFile" "size" "I", Cond.fieldLink RX1 9 "MirrorLog$LogFile" "bytes" "[B", Cond.methodLink RX0 9 yX2_count, Cond.instanceMethod yX2_count, Cond.selects RX2 yX2_count yX2_count, Cond.code yX2_count cX2_count 1 (some .int), Cond.methodLink RX0 55 yX0_isRowGood, Cond.static yX0_isRowGood, Cond.code yX0_isRowGood cX0_isRowGood 8 (some .boolean), Cond.constant RX0 66 (1000000000), Cond.methodLink RX0 21 yX1_size, Cond.instanceMethod yX1_size, Cond.selects RX1 yX1_size yX1_size, Cond.code yX1_size cX1_size 1 (some .int), Cond.methodLink RX0 59 yX1_number, Cond.instanceMethod yX1_number, Cond.selects RX1 yX1_number yX1_number, Cond.code yX1_number cX1_number 5 (some .int), Cond.methodLink RX1 23 yX1_get, Cond.methodLink RX0 30 yX1_sumOf, Cond.instanceMethod yX1_sumOf, Cond.selects RX1 yX1_sumOf yX1_sumOf]
def wsX3_takeGroup_r3 : List Cond := [Cond.code yX1_sumOf cX1_sumOf 6 (some .int), Cond.constant RX1 33 (668265263), Cond.methodLink RX1 27 yJ6_rotateLeft_7cf53, Cond.static yJ6_rotateLeft_7cf53, Cond.initialized RJ6, Cond.code yJ6_rotateLeft_7cf53 cJ6_rotateLeft_7cf53 2 (some .int), Cond.methodLink RX0 62 yX0_isEndGood, Cond.static yX0_isEndGood, Cond.code yX0_isEndGood cX0_isEndGood 4 (some .boolean), Cond.methodLink RX3 142 yX0_read, Cond.static yX0_read, Cond.code yX0_read cX0_read 10 none, Cond.methodLink RX0 67 yX2_begin, Cond.instanceMethod yX2_begin, Cond.selects RX2 yX2_begin yX2_begin, Cond.code yX2_begin cX2_begin 2 none, Cond.fieldLink RX2 15 "MirrorLog$RowTable" "lengths" "[I", Cond.fieldLink RX2 18 "MirrorLog$RowTable" "groupEnds" "[Z", Cond.methodLink RX0 70 yX2_push, Cond.instanceMethod yX2_push, Cond.selects RX2 yX2_push yX2_push, Cond.code yX2_push cX2_push 4 none, Cond.fieldLink RX2 23 "MirrorLog$RowTable" "contents" "[B", Cond.methodLink RX0 73 yX2_endGroupHere]
def wsX3_takeGroup_r4 : List Cond := [Cond.instanceMethod yX2_endGroupHere, Cond.selects RX2 yX2_endGroupHere yX2_endGroupHere, Cond.code yX2_endGroupHere cX2_endGroupHere 1 none, Cond.methodLink RX3 129 yX1_agrees, Cond.instanceMethod yX1_agrees, Cond.selects RX1 yX1_agrees yX1_agrees, Cond.code yX1_agrees cX1_agrees 5 (some .boolean), Cond.methodLink RX3 146 yX1_copyFrom, Cond.instanceMethod yX1_copyFrom, Cond.selects RX1 yX1_copyFrom yX1_copyFrom, Cond.code yX1_copyFrom cX1_copyFrom 5 none, Cond.methodLink RX1 19 yX1_add, Cond.instanceMethod yX1_add, Cond.selects RX1 yX1_add yX1_add, Cond.code yX1_add cX1_add 2 none]
def wsX3_takeGroup : List Cond := .code yX3_takeGroup cX3_takeGroup 5 (some .int) :: ((wsX3_takeGroup_r1 ++ (wsX3_takeGroup_r2 ++ (wsX3_takeGroup_r3 ++ wsX3_takeGroup_r4))) ++ wsX30 ++ wsX20 ++ wsX10)
def wsX3_takeGoodGroups_r1 : List Cond := [Cond.fieldLink RX3 12 "MirrorLog" "file0" "LMirrorLog$LogFile;", Cond.fieldLink RX3 16 "MirrorLog" "file1" "LMirrorLog$LogFile;", Cond.methodLink RX3 134 yX3_takeGroup, Cond.instanceMethod yX3_takeGroup, Cond.selects RX3 yX3_takeGroup yX3_takeGroup, Cond.initialized RX3, Cond.code yX3_takeGroup cX3_takeGroup 5 (some .int), Cond.fieldLink RX3 22 "MirrorLog" "table" "LMirrorLog$RowTable;", Cond.fieldLink RX3 92 "MirrorLog" "repairedGroups" "I", Cond.methodLink RX3 138 yX0_endOfGood, Cond.static yX0_endOfGood, Cond.initialized RX0, Cond.code yX0_endOfGood cX0_endOfGood 6 (some .int), Cond.methodLink RX0 49 yX2_lastSecond, Cond.instanceMethod yX2_lastSecond, Cond.selects RX2 yX2_lastSecond yX2_lastSecond, Cond.initialized RX2, Cond.code yX2_lastSecond cX2_lastSecond 1 (some .int), Cond.fieldLink RX2 27 "MirrorLog$RowTable" "count" "I", Cond.methodLink RX2 35 yX2_secondOf, Cond.instanceMethod yX2_secondOf, Cond.selects RX2 yX2_secondOf yX2_secondOf, Cond.code yX2_secondOf cX2_secondOf 2 (some .int), Cond.fieldLink RX2 9 "MirrorLog$RowTable" "seconds" "[I"]
def wsX3_takeGoodGroups_r2 : List Cond := [Cond.methodLink RX2 31 yX2_has, Cond.instanceMethod yX2_has, Cond.selects RX2 yX2_has yX2_has, Cond.code yX2_has cX2_has 2 (some .boolean), Cond.methodLink RX0 52 yX1_get, Cond.instanceMethod yX1_get, Cond.selects RX1 yX1_get yX1_get, Cond.initialized RX1, Cond.code yX1_get cX1_get 2 (some .int), Cond.fieldLink RX1 15 "MirrorLog$LogFile" "size" "I", Cond.fieldLink RX1 9 "MirrorLog$LogFile" "bytes" "[B", Cond.methodLink RX0 9 yX2_count, Cond.instanceMethod yX2_count, Cond.selects RX2 yX2_count yX2_count, Cond.code yX2_count cX2_count 1 (some .int), Cond.methodLink RX0 55 yX0_isRowGood, Cond.static yX0_isRowGood, Cond.code yX0_isRowGood cX0_isRowGood 8 (some .boolean), Cond.constant RX0 66 (1000000000), Cond.methodLink RX0 21 yX1_size, Cond.instanceMethod yX1_size, Cond.selects RX1 yX1_size yX1_size, Cond.code yX1_size cX1_size 1 (some .int), Cond.methodLink RX0 59 yX1_number]
def wsX3_takeGoodGroups_r3 : List Cond := [Cond.instanceMethod yX1_number, Cond.selects RX1 yX1_number yX1_number, Cond.code yX1_number cX1_number 5 (some .int), Cond.methodLink RX1 23 yX1_get, Cond.methodLink RX0 30 yX1_sumOf, Cond.instanceMethod yX1_sumOf, Cond.selects RX1 yX1_sumOf yX1_sumOf, Cond.code yX1_sumOf cX1_sumOf 6 (some .int), Cond.constant RX1 33 (668265263), Cond.methodLink RX1 27 yJ6_rotateLeft_7cf53, Cond.static yJ6_rotateLeft_7cf53, Cond.initialized RJ6, Cond.code yJ6_rotateLeft_7cf53 cJ6_rotateLeft_7cf53 2 (some .int), Cond.methodLink RX0 62 yX0_isEndGood, Cond.static yX0_isEndGood, Cond.code yX0_isEndGood cX0_isEndGood 4 (some .boolean), Cond.methodLink RX3 142 yX0_read, Cond.static yX0_read, Cond.code yX0_read cX0_read 10 none, Cond.methodLink RX0 67 yX2_begin, Cond.instanceMethod yX2_begin, Cond.selects RX2 yX2_begin yX2_begin, Cond.code yX2_begin cX2_begin 2 none, Cond.fieldLink RX2 15 "MirrorLog$RowTable" "lengths" "[I"]
def wsX3_takeGoodGroups_r4 : List Cond := [Cond.fieldLink RX2 18 "MirrorLog$RowTable" "groupEnds" "[Z", Cond.methodLink RX0 70 yX2_push, Cond.instanceMethod yX2_push, Cond.selects RX2 yX2_push yX2_push, Cond.code yX2_push cX2_push 4 none, Cond.fieldLink RX2 23 "MirrorLog$RowTable" "contents" "[B", Cond.methodLink RX0 73 yX2_endGroupHere, Cond.instanceMethod yX2_endGroupHere, Cond.selects RX2 yX2_endGroupHere yX2_endGroupHere, Cond.code yX2_endGroupHere cX2_endGroupHere 1 none, Cond.methodLink RX3 129 yX1_agrees, Cond.instanceMethod yX1_agrees, Cond.selects RX1 yX1_agrees yX1_agrees, Cond.code yX1_agrees cX1_agrees 5 (some .boolean), Cond.methodLink RX3 146 yX1_copyFrom, Cond.instanceMethod yX1_copyFrom, Cond.selects RX1 yX1_copyFrom yX1_copyFrom, Cond.code yX1_copyFrom cX1_copyFrom 5 none, Cond.methodLink RX1 19 yX1_add, Cond.instanceMethod yX1_add, Cond.selects RX1 yX1_add yX1_add, Cond.code yX1_add cX1_add 2 none]
def wsX3_takeGoodGroups : List Cond := .code yX3_takeGoodGroups cX3_takeGoodGroups 4 (some .int) :: ((wsX3_takeGoodGroups_r1 ++ (wsX3_takeGoodGroups_r2 ++ (wsX3_takeGoodGroups_r3 ++ wsX3_takeGoodGroups_r4))) ++ wsX30 ++ wsX20 ++ wsX10)
def wsX3_reopen_r1 : List Cond := [Cond.fieldLink RX3 34 "MirrorLog" "shut" "Z", Cond.fieldLink RX3 92 "MirrorLog" "repairedGroups" "I", Cond.fieldLink RX3 12 "MirrorLog" "file0" "LMirrorLog$LogFile;", Cond.fieldLink RX3 16 "MirrorLog" "file1" "LMirrorLog$LogFile;", Cond.fieldLink RX3 30 "MirrorLog" "badPlace" "I", Cond.fieldLink RX3 22 "MirrorLog" "table" "LMirrorLog$RowTable;", Cond.fieldLink RX3 49 "MirrorLog" "known" "I", Cond.methodLink RX3 89 yX3_forgetAllButMoved, Cond.instanceMethod yX3_forgetAllButMoved, Cond.selects RX3 yX3_forgetAllButMoved yX3_forgetAllButMoved, Cond.initialized RX3, Cond.code yX3_forgetAllButMoved cX3_forgetAllButMoved 1 none, Cond.fieldLink RX3 120 "MirrorLog" "moved" "I", Cond.fieldLink RX3 38 "MirrorLog" "fedCount" "I", Cond.methodLink RX3 133 yX2_cutTo, Cond.instanceMethod yX2_cutTo, Cond.selects RX2 yX2_cutTo yX2_cutTo, Cond.initialized RX2, Cond.code yX2_cutTo cX2_cutTo 2 none, Cond.fieldLink RX2 27 "MirrorLog$RowTable" "count" "I", Cond.methodLink RX3 95 yX3_takeGoodGroups, Cond.instanceMethod yX3_takeGoodGroups, Cond.selects RX3 yX3_takeGoodGroups yX3_takeGoodGroups, Cond.code yX3_takeGoodGroups cX3_takeGoodGroups 4 (some .int)]
def wsX3_reopen_r2 : List Cond := [Cond.methodLink RX3 134 yX3_takeGroup, Cond.instanceMethod yX3_takeGroup, Cond.selects RX3 yX3_takeGroup yX3_takeGroup, Cond.code yX3_takeGroup cX3_takeGroup 5 (some .int), Cond.methodLink RX3 138 yX0_endOfGood, Cond.static yX0_endOfGood, Cond.initialized RX0, Cond.code yX0_endOfGood cX0_endOfGood 6 (some .int), Cond.methodLink RX0 49 yX2_lastSecond, Cond.instanceMethod yX2_lastSecond, Cond.selects RX2 yX2_lastSecond yX2_lastSecond, Cond.code yX2_lastSecond cX2_lastSecond 1 (some .int), Cond.methodLink RX2 35 yX2_secondOf, Cond.instanceMethod yX2_secondOf, Cond.selects RX2 yX2_secondOf yX2_secondOf, Cond.code yX2_secondOf cX2_secondOf 2 (some .int), Cond.fieldLink RX2 9 "MirrorLog$RowTable" "seconds" "[I", Cond.methodLink RX2 31 yX2_has, Cond.instanceMethod yX2_has, Cond.selects RX2 yX2_has yX2_has, Cond.code yX2_has cX2_has 2 (some .boolean), Cond.methodLink RX0 52 yX1_get, Cond.instanceMethod yX1_get, Cond.selects RX1 yX1_get yX1_get]
def wsX3_reopen_r3 : List Cond := [Cond.initialized RX1, Cond.code yX1_get cX1_get 2 (some .int), Cond.fieldLink RX1 15 "MirrorLog$LogFile" "size" "I", Cond.fieldLink RX1 9 "MirrorLog$LogFile" "bytes" "[B", Cond.methodLink RX0 9 yX2_count, Cond.instanceMethod yX2_count, Cond.selects RX2 yX2_count yX2_count, Cond.code yX2_count cX2_count 1 (some .int), Cond.methodLink RX0 55 yX0_isRowGood, Cond.static yX0_isRowGood, Cond.code yX0_isRowGood cX0_isRowGood 8 (some .boolean), Cond.constant RX0 66 (1000000000), Cond.methodLink RX0 21 yX1_size, Cond.instanceMethod yX1_size, Cond.selects RX1 yX1_size yX1_size, Cond.code yX1_size cX1_size 1 (some .int), Cond.methodLink RX0 59 yX1_number, Cond.instanceMethod yX1_number, Cond.selects RX1 yX1_number yX1_number, Cond.code yX1_number cX1_number 5 (some .int), Cond.methodLink RX1 23 yX1_get, Cond.methodLink RX0 30 yX1_sumOf, Cond.instanceMethod yX1_sumOf, Cond.selects RX1 yX1_sumOf yX1_sumOf]
def wsX3_reopen_r4 : List Cond := [Cond.code yX1_sumOf cX1_sumOf 6 (some .int), Cond.constant RX1 33 (668265263), Cond.methodLink RX1 27 yJ6_rotateLeft_7cf53, Cond.static yJ6_rotateLeft_7cf53, Cond.initialized RJ6, Cond.code yJ6_rotateLeft_7cf53 cJ6_rotateLeft_7cf53 2 (some .int), Cond.methodLink RX0 62 yX0_isEndGood, Cond.static yX0_isEndGood, Cond.code yX0_isEndGood cX0_isEndGood 4 (some .boolean), Cond.methodLink RX3 142 yX0_read, Cond.static yX0_read, Cond.code yX0_read cX0_read 10 none, Cond.methodLink RX0 67 yX2_begin, Cond.instanceMethod yX2_begin, Cond.selects RX2 yX2_begin yX2_begin, Cond.code yX2_begin cX2_begin 2 none, Cond.fieldLink RX2 15 "MirrorLog$RowTable" "lengths" "[I", Cond.fieldLink RX2 18 "MirrorLog$RowTable" "groupEnds" "[Z", Cond.methodLink RX0 70 yX2_push, Cond.instanceMethod yX2_push, Cond.selects RX2 yX2_push yX2_push, Cond.code yX2_push cX2_push 4 none, Cond.fieldLink RX2 23 "MirrorLog$RowTable" "contents" "[B", Cond.methodLink RX0 73 yX2_endGroupHere]
def wsX3_reopen_r5 : List Cond := [Cond.instanceMethod yX2_endGroupHere, Cond.selects RX2 yX2_endGroupHere yX2_endGroupHere, Cond.code yX2_endGroupHere cX2_endGroupHere 1 none, Cond.methodLink RX3 129 yX1_agrees, Cond.instanceMethod yX1_agrees, Cond.selects RX1 yX1_agrees yX1_agrees, Cond.code yX1_agrees cX1_agrees 5 (some .boolean), Cond.methodLink RX3 146 yX1_copyFrom, Cond.instanceMethod yX1_copyFrom, Cond.selects RX1 yX1_copyFrom yX1_copyFrom, Cond.code yX1_copyFrom cX1_copyFrom 5 none, Cond.methodLink RX1 19 yX1_add, Cond.instanceMethod yX1_add, Cond.selects RX1 yX1_add yX1_add, Cond.code yX1_add cX1_add 2 none, Cond.methodLink RX3 83 yX1_size, Cond.methodLink RX3 86 yX1_cutTo, Cond.instanceMethod yX1_cutTo, Cond.selects RX1 yX1_cutTo yX1_cutTo, Cond.code yX1_cutTo cX1_cutTo 2 none, Cond.methodLink RX3 46 yX2_count]
def wsX3_reopen : List Cond := .code yX3_reopen cX3_reopen 2 (some .int) :: ((wsX3_reopen_r1 ++ (wsX3_reopen_r2 ++ (wsX3_reopen_r3 ++ (wsX3_reopen_r4 ++ wsX3_reopen_r5)))) ++ wsX30 ++ wsX20 ++ wsX10)
def wsX3_byteAt : List Cond := .code yX3_byteAt cX3_byteAt 3 (some .int) :: ([.fieldLink RX3 49 "MirrorLog" "known" "I", .classLink RX3 98 RJx00060, .instantiable RJx00060 6, .initialized RJx00060, .fieldLink RX3 22 "MirrorLog" "table" "LMirrorLog$RowTable;", .methodLink RX3 105 yX2_contentAt, .instanceMethod yX2_contentAt, .selects RX2 yX2_contentAt yX2_contentAt, .initialized RX2, .code yX2_contentAt cX2_contentAt 3 (some .int), .fieldLink RX2 23 "MirrorLog$RowTable" "contents" "[B", .methodLink RX2 40 yX2_lengthOf, .instanceMethod yX2_lengthOf, .selects RX2 yX2_lengthOf yX2_lengthOf, .code yX2_lengthOf cX2_lengthOf 2 (some .int), .fieldLink RX2 15 "MirrorLog$RowTable" "lengths" "[I", .methodLink RX2 31 yX2_has, .instanceMethod yX2_has, .selects RX2 yX2_has yX2_has, .code yX2_has cX2_has 2 (some .boolean), .fieldLink RX2 27 "MirrorLog$RowTable" "count" "I"] ++ wsX30 ++ wsJx000600 ++ wsX20)
def wsX3_poke : List Cond := .code yX3_poke cX3_poke 4 (some .boolean) :: ([.methodLink RX3 76 yX3_isFile, .static yX3_isFile, .initialized RX3, .code yX3_isFile cX3_isFile 1 (some .boolean), .methodLink RX3 79 yX3_fileOf, .instanceMethod yX3_fileOf, .selects RX3 yX3_fileOf yX3_fileOf, .code yX3_fileOf cX3_fileOf 2 (some (.object "MirrorLog$LogFile")), .fieldLink RX3 12 "MirrorLog" "file0" "LMirrorLog$LogFile;", .fieldLink RX3 16 "MirrorLog" "file1" "LMirrorLog$LogFile;", .methodLink RX3 83 yX1_size, .instanceMethod yX1_size, .selects RX1 yX1_size yX1_size, .initialized RX1, .code yX1_size cX1_size 1 (some .int), .fieldLink RX1 15 "MirrorLog$LogFile" "size" "I", .methodLink RX3 108 yX1_alter, .instanceMethod yX1_alter, .selects RX1 yX1_alter yX1_alter, .code yX1_alter cX1_alter 3 none, .fieldLink RX1 9 "MirrorLog$LogFile" "bytes" "[B"] ++ wsX30 ++ wsX10)
def wsX3_repaired : List Cond := .code yX3_repaired cX3_repaired 1 (some .int) :: ([.fieldLink RX3 92 "MirrorLog" "repairedGroups" "I"] ++ wsX30)
def wsX3_badAt : List Cond := .code yX3_badAt cX3_badAt 1 (some .int) :: ([.fieldLink RX3 30 "MirrorLog" "badPlace" "I"] ++ wsX30)
def wsX3_same : List Cond := .code yX3_same cX3_same 1 (some .boolean) :: ([.fieldLink RX3 12 "MirrorLog" "file0" "LMirrorLog$LogFile;", .fieldLink RX3 16 "MirrorLog" "file1" "LMirrorLog$LogFile;", .methodLink RX3 83 yX1_size, .instanceMethod yX1_size, .selects RX1 yX1_size yX1_size, .initialized RX1, .code yX1_size cX1_size 1 (some .int), .fieldLink RX1 15 "MirrorLog$LogFile" "size" "I", .methodLink RX3 129 yX1_agrees, .instanceMethod yX1_agrees, .selects RX1 yX1_agrees yX1_agrees, .code yX1_agrees cX1_agrees 5 (some .boolean), .methodLink RX1 23 yX1_get, .instanceMethod yX1_get, .selects RX1 yX1_get yX1_get, .code yX1_get cX1_get 2 (some .int), .fieldLink RX1 9 "MirrorLog$LogFile" "bytes" "[B"] ++ wsX30 ++ wsX10)
def wsX3_endOfGroupsUpTo : List Cond := .code yX3_endOfGroupsUpTo cX3_endOfGroupsUpTo 4 (some .int) :: ([.fieldLink RX3 120 "MirrorLog" "moved" "I", .fieldLink RX3 49 "MirrorLog" "known" "I", .fieldLink RX3 22 "MirrorLog" "table" "LMirrorLog$RowTable;", .methodLink RX3 126 yX2_monthOf, .instanceMethod yX2_monthOf, .selects RX2 yX2_monthOf yX2_monthOf, .initialized RX2, .code yX2_monthOf cX2_monthOf 2 (some .int), .constant RX2 39 (2592000), .methodLink RX2 35 yX2_secondOf, .instanceMethod yX2_secondOf, .selects RX2 yX2_secondOf yX2_secondOf, .code yX2_secondOf cX2_secondOf 2 (some .int), .fieldLink RX2 9 "MirrorLog$RowTable" "seconds" "[I", .methodLink RX2 31 yX2_has, .instanceMethod yX2_has, .selects RX2 yX2_has yX2_has, .code yX2_has cX2_has 2 (some .boolean), .fieldLink RX2 27 "MirrorLog$RowTable" "count" "I", .methodLink RX3 150 yX2_endsGroup, .instanceMethod yX2_endsGroup, .selects RX2 yX2_endsGroup yX2_endsGroup, .code yX2_endsGroup cX2_endsGroup 2 (some .boolean), .fieldLink RX2 18 "MirrorLog$RowTable" "groupEnds" "[Z"] ++ wsX30 ++ wsX20)
def wsX3_move_r1 : List Cond := [Cond.fieldLink RX3 34 "MirrorLog" "shut" "Z", Cond.fieldLink RX3 22 "MirrorLog" "table" "LMirrorLog$RowTable;", Cond.fieldLink RX3 49 "MirrorLog" "known" "I", Cond.fieldLink RX3 120 "MirrorLog" "moved" "I", Cond.fieldLink RX3 12 "MirrorLog" "file0" "LMirrorLog$LogFile;", Cond.fieldLink RX3 16 "MirrorLog" "file1" "LMirrorLog$LogFile;", Cond.methodLink RX3 46 yX2_count, Cond.instanceMethod yX2_count, Cond.selects RX2 yX2_count yX2_count, Cond.initialized RX2, Cond.code yX2_count cX2_count 1 (some .int), Cond.fieldLink RX2 27 "MirrorLog$RowTable" "count" "I", Cond.methodLink RX3 112 yX3_same, Cond.instanceMethod yX3_same, Cond.selects RX3 yX3_same yX3_same, Cond.initialized RX3, Cond.code yX3_same cX3_same 1 (some .boolean), Cond.methodLink RX3 83 yX1_size, Cond.instanceMethod yX1_size, Cond.selects RX1 yX1_size yX1_size, Cond.initialized RX1, Cond.code yX1_size cX1_size 1 (some .int), Cond.fieldLink RX1 15 "MirrorLog$LogFile" "size" "I", Cond.methodLink RX3 129 yX1_agrees]
def wsX3_move_r2 : List Cond := [Cond.instanceMethod yX1_agrees, Cond.selects RX1 yX1_agrees yX1_agrees, Cond.code yX1_agrees cX1_agrees 5 (some .boolean), Cond.methodLink RX1 23 yX1_get, Cond.instanceMethod yX1_get, Cond.selects RX1 yX1_get yX1_get, Cond.code yX1_get cX1_get 2 (some .int), Cond.fieldLink RX1 9 "MirrorLog$LogFile" "bytes" "[B", Cond.methodLink RX3 116 yX3_endOfGroupsUpTo, Cond.instanceMethod yX3_endOfGroupsUpTo, Cond.selects RX3 yX3_endOfGroupsUpTo yX3_endOfGroupsUpTo, Cond.code yX3_endOfGroupsUpTo cX3_endOfGroupsUpTo 4 (some .int), Cond.methodLink RX3 126 yX2_monthOf, Cond.instanceMethod yX2_monthOf, Cond.selects RX2 yX2_monthOf yX2_monthOf, Cond.code yX2_monthOf cX2_monthOf 2 (some .int), Cond.constant RX2 39 (2592000), Cond.methodLink RX2 35 yX2_secondOf, Cond.instanceMethod yX2_secondOf, Cond.selects RX2 yX2_secondOf yX2_secondOf, Cond.code yX2_secondOf cX2_secondOf 2 (some .int), Cond.fieldLink RX2 9 "MirrorLog$RowTable" "seconds" "[I", Cond.methodLink RX2 31 yX2_has, Cond.instanceMethod yX2_has]
def wsX3_move_r3 : List Cond := [Cond.selects RX2 yX2_has yX2_has, Cond.code yX2_has cX2_has 2 (some .boolean), Cond.methodLink RX3 150 yX2_endsGroup, Cond.instanceMethod yX2_endsGroup, Cond.selects RX2 yX2_endsGroup yX2_endsGroup, Cond.code yX2_endsGroup cX2_endsGroup 2 (some .boolean), Cond.fieldLink RX2 18 "MirrorLog$RowTable" "groupEnds" "[Z", Cond.methodLink RX3 59 yX2_bytesInFile, Cond.instanceMethod yX2_bytesInFile, Cond.selects RX2 yX2_bytesInFile yX2_bytesInFile, Cond.code yX2_bytesInFile cX2_bytesInFile 5 (some .int), Cond.methodLink RX2 40 yX2_lengthOf, Cond.instanceMethod yX2_lengthOf, Cond.selects RX2 yX2_lengthOf yX2_lengthOf, Cond.code yX2_lengthOf cX2_lengthOf 2 (some .int), Cond.fieldLink RX2 15 "MirrorLog$RowTable" "lengths" "[I", Cond.methodLink RX2 43 yX2_endsGroup, Cond.methodLink RX3 123 yX1_dropFirst, Cond.instanceMethod yX1_dropFirst, Cond.selects RX1 yX1_dropFirst yX1_dropFirst, Cond.code yX1_dropFirst cX1_dropFirst 2 none, Cond.methodLink RX1 34 arraycopyName, Cond.native arraycopyName, Cond.static arraycopyName]
def wsX3_move_r4 : List Cond := [Cond.initialized "java/lang/System"]
def wsX3_move : List Cond := .code yX3_move cX3_move 4 (some .boolean) :: ((wsX3_move_r1 ++ (wsX3_move_r2 ++ (wsX3_move_r3 ++ wsX3_move_r4))) ++ wsX30 ++ wsX20 ++ wsX10)
def wsX3_rows : List Cond := .code yX3_rows cX3_rows 4 (some .int) :: ([.fieldLink RX3 49 "MirrorLog" "known" "I", .fieldLink RX3 22 "MirrorLog" "table" "LMirrorLog$RowTable;", .methodLink RX3 126 yX2_monthOf, .instanceMethod yX2_monthOf, .selects RX2 yX2_monthOf yX2_monthOf, .initialized RX2, .code yX2_monthOf cX2_monthOf 2 (some .int), .constant RX2 39 (2592000), .methodLink RX2 35 yX2_secondOf, .instanceMethod yX2_secondOf, .selects RX2 yX2_secondOf yX2_secondOf, .code yX2_secondOf cX2_secondOf 2 (some .int), .fieldLink RX2 9 "MirrorLog$RowTable" "seconds" "[I", .methodLink RX2 31 yX2_has, .instanceMethod yX2_has, .selects RX2 yX2_has yX2_has, .code yX2_has cX2_has 2 (some .boolean), .fieldLink RX2 27 "MirrorLog$RowTable" "count" "I"] ++ wsX30 ++ wsX20)
def wsX4_init : List Cond := .code yX4_init cX4_init 1 none :: ([.methodLink RX4 1 objectInit, .instanceMethod objectInit, .code objectInit ⟨#[0xb1]⟩ 1 none, .arrayClass .int, .fieldLink RX4 9 "MirrorLogModel" "bytes" "[I", .fieldLink RX4 13 "MirrorLogModel" "sizes" "[I", .fieldLink RX4 16 "MirrorLogModel" "seconds" "[I", .fieldLink RX4 19 "MirrorLogModel" "lengths" "[I", .constant RX4 22 (38400), .fieldLink RX4 23 "MirrorLogModel" "contents" "[I", .fieldLink RX4 26 "MirrorLogModel" "groupRows" "[I", .fieldLink RX4 29 "MirrorLogModel" "groupBytes" "[I", .fieldLink RX4 32 "MirrorLogModel" "newSeconds" "[I", .fieldLink RX4 35 "MirrorLogModel" "newLengths" "[I", .fieldLink RX4 38 "MirrorLogModel" "newContents" "[I", .fieldLink RX4 41 "MirrorLogModel" "fed" "[I", .fieldLink RX4 44 "MirrorLogModel" "badAt" "I"] ++ wsX40)
def wsX4_thrown : List Cond := .code yX4_thrown cX4_thrown 1 (some .int) :: ([.fieldLink RX4 48 "MirrorLogModel" "thrown" "I"] ++ wsX40)
def wsX4_summed : List Cond := .code yX4_summed cX4_summed 3 (some .int) :: ([.constant RX4 51 (668265263)])
def wsX4_feed : List Cond := .code yX4_feed cX4_feed 2 (some .boolean) :: ([.fieldLink RX4 48 "MirrorLogModel" "thrown" "I", .fieldLink RX4 52 "MirrorLogModel" "shut" "Z", .fieldLink RX4 56 "MirrorLogModel" "feeding" "I", .fieldLink RX4 41 "MirrorLogModel" "fed" "[I"] ++ wsX40)
def wsX4_lastSecond : List Cond := .code yX4_lastSecond cX4_lastSecond 1 (some .int) :: ([.fieldLink RX4 59 "MirrorLogModel" "newRows" "I", .fieldLink RX4 32 "MirrorLogModel" "newSeconds" "[I", .fieldLink RX4 62 "MirrorLogModel" "known" "I", .fieldLink RX4 16 "MirrorLogModel" "seconds" "[I"] ++ wsX40)
def wsX4_row : List Cond := .code yX4_row cX4_row 3 (some .int) :: ([.fieldLink RX4 48 "MirrorLogModel" "thrown" "I", .fieldLink RX4 52 "MirrorLogModel" "shut" "Z", .fieldLink RX4 56 "MirrorLogModel" "feeding" "I", .constant RX4 65 (1000000000), .fieldLink RX4 59 "MirrorLogModel" "newRows" "I", .fieldLink RX4 62 "MirrorLogModel" "known" "I", .fieldLink RX4 32 "MirrorLogModel" "newSeconds" "[I", .fieldLink RX4 35 "MirrorLogModel" "newLengths" "[I", .fieldLink RX4 38 "MirrorLogModel" "newContents" "[I", .fieldLink RX4 41 "MirrorLogModel" "fed" "[I", .methodLink RX4 66 yX4_lastSecond, .instanceMethod yX4_lastSecond, .selects RX4 yX4_lastSecond yX4_lastSecond, .initialized RX4, .code yX4_lastSecond cX4_lastSecond 1 (some .int), .fieldLink RX4 16 "MirrorLogModel" "seconds" "[I"] ++ wsX40)
def wsX4_write : List Cond := .code yX4_write cX4_write 3 (some .int) :: ([.fieldLink RX4 9 "MirrorLogModel" "bytes" "[I", .fieldLink RX4 70 "MirrorLogModel" "at" "I", .methodLink RX4 73 yX4_summed, .static yX4_summed, .initialized RX4, .code yX4_summed cX4_summed 3 (some .int), .constant RX4 51 (668265263)] ++ wsX40)
def wsX4_four : List Cond := .code yX4_four cX4_four 4 none :: ([.methodLink RX4 77 yX4_write, .instanceMethod yX4_write, .selects RX4 yX4_write yX4_write, .initialized RX4, .code yX4_write cX4_write 3 (some .int), .fieldLink RX4 9 "MirrorLogModel" "bytes" "[I", .fieldLink RX4 70 "MirrorLogModel" "at" "I", .methodLink RX4 73 yX4_summed, .static yX4_summed, .code yX4_summed cX4_summed 3 (some .int), .constant RX4 51 (668265263)] ++ wsX40)
def wsX4_endGroup_r1 : List Cond := [Cond.fieldLink RX4 48 "MirrorLogModel" "thrown" "I", Cond.fieldLink RX4 59 "MirrorLogModel" "newRows" "I", Cond.fieldLink RX4 35 "MirrorLogModel" "newLengths" "[I", Cond.fieldLink RX4 52 "MirrorLogModel" "shut" "Z", Cond.fieldLink RX4 13 "MirrorLogModel" "sizes" "[I", Cond.fieldLink RX4 70 "MirrorLogModel" "at" "I", Cond.fieldLink RX4 32 "MirrorLogModel" "newSeconds" "[I", Cond.fieldLink RX4 38 "MirrorLogModel" "newContents" "[I", Cond.fieldLink RX4 23 "MirrorLogModel" "contents" "[I", Cond.fieldLink RX4 62 "MirrorLogModel" "known" "I", Cond.fieldLink RX4 16 "MirrorLogModel" "seconds" "[I", Cond.fieldLink RX4 19 "MirrorLogModel" "lengths" "[I", Cond.fieldLink RX4 26 "MirrorLogModel" "groupRows" "[I", Cond.fieldLink RX4 84 "MirrorLogModel" "groups" "I", Cond.fieldLink RX4 29 "MirrorLogModel" "groupBytes" "[I", Cond.methodLink RX4 77 yX4_write, Cond.instanceMethod yX4_write, Cond.selects RX4 yX4_write yX4_write, Cond.initialized RX4, Cond.code yX4_write cX4_write 3 (some .int), Cond.fieldLink RX4 9 "MirrorLogModel" "bytes" "[I", Cond.methodLink RX4 73 yX4_summed, Cond.static yX4_summed, Cond.code yX4_summed cX4_summed 3 (some .int)]
def wsX4_endGroup_r2 : List Cond := [Cond.constant RX4 51 (668265263), Cond.methodLink RX4 80 yX4_four, Cond.instanceMethod yX4_four, Cond.selects RX4 yX4_four yX4_four, Cond.code yX4_four cX4_four 4 none]
def wsX4_endGroup : List Cond := .code yX4_endGroup cX4_endGroup 5 (some .boolean) :: ((wsX4_endGroup_r1 ++ wsX4_endGroup_r2) ++ wsX40)
def wsX4_forget : List Cond := .code yX4_forget cX4_forget 1 none :: ([.fieldLink RX4 56 "MirrorLogModel" "feeding" "I", .fieldLink RX4 59 "MirrorLogModel" "newRows" "I", .fieldLink RX4 87 "MirrorLogModel" "moved" "I", .fieldLink RX4 62 "MirrorLogModel" "known" "I", .fieldLink RX4 84 "MirrorLogModel" "groups" "I"] ++ wsX40)
def wsX4_crash : List Cond := .code yX4_crash cX4_crash 3 (some .boolean) :: ([.fieldLink RX4 48 "MirrorLogModel" "thrown" "I", .fieldLink RX4 13 "MirrorLogModel" "sizes" "[I", .fieldLink RX4 52 "MirrorLogModel" "shut" "Z", .methodLink RX4 90 yX4_forget, .instanceMethod yX4_forget, .selects RX4 yX4_forget yX4_forget, .initialized RX4, .code yX4_forget cX4_forget 1 none, .fieldLink RX4 56 "MirrorLogModel" "feeding" "I", .fieldLink RX4 59 "MirrorLogModel" "newRows" "I", .fieldLink RX4 87 "MirrorLogModel" "moved" "I", .fieldLink RX4 62 "MirrorLogModel" "known" "I", .fieldLink RX4 84 "MirrorLogModel" "groups" "I"] ++ wsX40)
def wsX4_poke : List Cond := .code yX4_poke cX4_poke 4 (some .boolean) :: ([.fieldLink RX4 48 "MirrorLogModel" "thrown" "I", .fieldLink RX4 13 "MirrorLogModel" "sizes" "[I", .fieldLink RX4 9 "MirrorLogModel" "bytes" "[I"] ++ wsX40)
def wsX4_areSame : List Cond := .code yX4_areSame cX4_areSame 5 (some .boolean) :: ([.fieldLink RX4 13 "MirrorLogModel" "sizes" "[I", .fieldLink RX4 9 "MirrorLogModel" "bytes" "[I"] ++ wsX40)
def wsX4_same : List Cond := .code yX4_same cX4_same 1 (some .boolean) :: ([.fieldLink RX4 48 "MirrorLogModel" "thrown" "I", .fieldLink RX4 13 "MirrorLogModel" "sizes" "[I", .methodLink RX4 93 yX4_areSame, .instanceMethod yX4_areSame, .selects RX4 yX4_areSame yX4_areSame, .initialized RX4, .code yX4_areSame cX4_areSame 5 (some .boolean), .fieldLink RX4 9 "MirrorLogModel" "bytes" "[I"] ++ wsX40)
def wsX4_number : List Cond := .code yX4_number cX4_number 6 (some .int) :: ([.fieldLink RX4 9 "MirrorLogModel" "bytes" "[I"] ++ wsX40)
def wsX4_sumOf : List Cond := .code yX4_sumOf cX4_sumOf 7 (some .int) :: ([.fieldLink RX4 9 "MirrorLogModel" "bytes" "[I", .methodLink RX4 73 yX4_summed, .static yX4_summed, .initialized RX4, .code yX4_summed cX4_summed 3 (some .int), .constant RX4 51 (668265263)] ++ wsX40)
def wsX4_isGood : List Cond := .code yX4_isGood cX4_isGood 9 (some .boolean) :: ([.fieldLink RX4 62 "MirrorLogModel" "known" "I", .fieldLink RX4 16 "MirrorLogModel" "seconds" "[I", .fieldLink RX4 13 "MirrorLogModel" "sizes" "[I", .fieldLink RX4 9 "MirrorLogModel" "bytes" "[I", .constant RX4 65 (1000000000), .fieldLink RX4 105 "MirrorLogModel" "seenRows" "I", .fieldLink RX4 108 "MirrorLogModel" "seenBytes" "I", .methodLink RX4 97 yX4_number, .instanceMethod yX4_number, .selects RX4 yX4_number yX4_number, .initialized RX4, .code yX4_number cX4_number 6 (some .int), .methodLink RX4 101 yX4_sumOf, .instanceMethod yX4_sumOf, .selects RX4 yX4_sumOf yX4_sumOf, .code yX4_sumOf cX4_sumOf 7 (some .int), .methodLink RX4 73 yX4_summed, .static yX4_summed, .code yX4_summed cX4_summed 3 (some .int), .constant RX4 51 (668265263)] ++ wsX40)
def wsX4_take : List Cond := .code yX4_take cX4_take 7 none :: ([.fieldLink RX4 105 "MirrorLogModel" "seenRows" "I", .fieldLink RX4 9 "MirrorLogModel" "bytes" "[I", .fieldLink RX4 16 "MirrorLogModel" "seconds" "[I", .fieldLink RX4 62 "MirrorLogModel" "known" "I", .fieldLink RX4 19 "MirrorLogModel" "lengths" "[I", .fieldLink RX4 23 "MirrorLogModel" "contents" "[I", .fieldLink RX4 108 "MirrorLogModel" "seenBytes" "I", .fieldLink RX4 26 "MirrorLogModel" "groupRows" "[I", .fieldLink RX4 84 "MirrorLogModel" "groups" "I", .fieldLink RX4 29 "MirrorLogModel" "groupBytes" "[I", .methodLink RX4 97 yX4_number, .instanceMethod yX4_number, .selects RX4 yX4_number yX4_number, .initialized RX4, .code yX4_number cX4_number 6 (some .int)] ++ wsX40)
def wsX4_reopen_r1 : List Cond := [Cond.fieldLink RX4 48 "MirrorLogModel" "thrown" "I", Cond.fieldLink RX4 52 "MirrorLogModel" "shut" "Z", Cond.fieldLink RX4 111 "MirrorLogModel" "repaired" "I", Cond.fieldLink RX4 108 "MirrorLogModel" "seenBytes" "I", Cond.fieldLink RX4 13 "MirrorLogModel" "sizes" "[I", Cond.fieldLink RX4 44 "MirrorLogModel" "badAt" "I", Cond.fieldLink RX4 62 "MirrorLogModel" "known" "I", Cond.methodLink RX4 90 yX4_forget, Cond.instanceMethod yX4_forget, Cond.selects RX4 yX4_forget yX4_forget, Cond.initialized RX4, Cond.code yX4_forget cX4_forget 1 none, Cond.fieldLink RX4 56 "MirrorLogModel" "feeding" "I", Cond.fieldLink RX4 59 "MirrorLogModel" "newRows" "I", Cond.fieldLink RX4 87 "MirrorLogModel" "moved" "I", Cond.fieldLink RX4 84 "MirrorLogModel" "groups" "I", Cond.methodLink RX4 114 yX4_isGood, Cond.instanceMethod yX4_isGood, Cond.selects RX4 yX4_isGood yX4_isGood, Cond.code yX4_isGood cX4_isGood 9 (some .boolean), Cond.fieldLink RX4 16 "MirrorLogModel" "seconds" "[I", Cond.fieldLink RX4 9 "MirrorLogModel" "bytes" "[I", Cond.constant RX4 65 (1000000000), Cond.fieldLink RX4 105 "MirrorLogModel" "seenRows" "I"]
def wsX4_reopen_r2 : List Cond := [Cond.methodLink RX4 97 yX4_number, Cond.instanceMethod yX4_number, Cond.selects RX4 yX4_number yX4_number, Cond.code yX4_number cX4_number 6 (some .int), Cond.methodLink RX4 101 yX4_sumOf, Cond.instanceMethod yX4_sumOf, Cond.selects RX4 yX4_sumOf yX4_sumOf, Cond.code yX4_sumOf cX4_sumOf 7 (some .int), Cond.methodLink RX4 73 yX4_summed, Cond.static yX4_summed, Cond.code yX4_summed cX4_summed 3 (some .int), Cond.constant RX4 51 (668265263), Cond.methodLink RX4 93 yX4_areSame, Cond.instanceMethod yX4_areSame, Cond.selects RX4 yX4_areSame yX4_areSame, Cond.code yX4_areSame cX4_areSame 5 (some .boolean), Cond.methodLink RX4 117 yX4_take, Cond.instanceMethod yX4_take, Cond.selects RX4 yX4_take yX4_take, Cond.code yX4_take cX4_take 7 none, Cond.fieldLink RX4 19 "MirrorLogModel" "lengths" "[I", Cond.fieldLink RX4 23 "MirrorLogModel" "contents" "[I", Cond.fieldLink RX4 26 "MirrorLogModel" "groupRows" "[I", Cond.fieldLink RX4 29 "MirrorLogModel" "groupBytes" "[I"]
def wsX4_reopen : List Cond := .code yX4_reopen cX4_reopen 4 (some .int) :: ((wsX4_reopen_r1 ++ wsX4_reopen_r2) ++ wsX40)
def wsX4_repaired : List Cond := .code yX4_repaired cX4_repaired 1 (some .int) :: ([.fieldLink RX4 48 "MirrorLogModel" "thrown" "I", .fieldLink RX4 111 "MirrorLogModel" "repaired" "I"] ++ wsX40)
def wsX4_badAt : List Cond := .code yX4_badAt cX4_badAt 1 (some .int) :: ([.fieldLink RX4 48 "MirrorLogModel" "thrown" "I", .fieldLink RX4 44 "MirrorLogModel" "badAt" "I"] ++ wsX40)
def wsX4_byteAt : List Cond := .code yX4_byteAt cX4_byteAt 3 (some .int) :: ([.fieldLink RX4 62 "MirrorLogModel" "known" "I", .fieldLink RX4 48 "MirrorLogModel" "thrown" "I", .fieldLink RX4 19 "MirrorLogModel" "lengths" "[I", .fieldLink RX4 23 "MirrorLogModel" "contents" "[I"] ++ wsX40)
def wsX4_rows : List Cond := .code yX4_rows cX4_rows 4 (some .int) :: ([.fieldLink RX4 48 "MirrorLogModel" "thrown" "I", .fieldLink RX4 62 "MirrorLogModel" "known" "I", .fieldLink RX4 16 "MirrorLogModel" "seconds" "[I", .constant RX4 121 (2592000)] ++ wsX40)
def wsX4_move : List Cond := .code yX4_move cX4_move 7 (some .boolean) :: ([.fieldLink RX4 48 "MirrorLogModel" "thrown" "I", .fieldLink RX4 52 "MirrorLogModel" "shut" "Z", .fieldLink RX4 59 "MirrorLogModel" "newRows" "I", .fieldLink RX4 13 "MirrorLogModel" "sizes" "[I", .fieldLink RX4 87 "MirrorLogModel" "moved" "I", .fieldLink RX4 84 "MirrorLogModel" "groups" "I", .fieldLink RX4 16 "MirrorLogModel" "seconds" "[I", .fieldLink RX4 26 "MirrorLogModel" "groupRows" "[I", .constant RX4 121 (2592000), .fieldLink RX4 29 "MirrorLogModel" "groupBytes" "[I", .fieldLink RX4 9 "MirrorLogModel" "bytes" "[I", .methodLink RX4 93 yX4_areSame, .instanceMethod yX4_areSame, .selects RX4 yX4_areSame yX4_areSame, .initialized RX4, .code yX4_areSame cX4_areSame 5 (some .boolean)] ++ wsX40)
def wsJx00060_init_a7421 : List Cond := .code yJx00060_init_a7421 cJx00060_init_a7421 2 none :: ([])
def wsL_byteAt_r1 : List Cond := [Cond.methodLink RL 7 yX3_byteAt, Cond.instanceMethod yX3_byteAt, Cond.selects RX3 yX3_byteAt yX3_byteAt, Cond.initialized RX3, Cond.code yX3_byteAt cX3_byteAt 3 (some .int), Cond.fieldLink RX3 49 "MirrorLog" "known" "I", Cond.classLink RX3 98 RJx00060, Cond.instantiable RJx00060 6, Cond.initialized RJx00060, Cond.fieldLink RX3 22 "MirrorLog" "table" "LMirrorLog$RowTable;", Cond.methodLink RX3 105 yX2_contentAt, Cond.instanceMethod yX2_contentAt, Cond.selects RX2 yX2_contentAt yX2_contentAt, Cond.initialized RX2, Cond.code yX2_contentAt cX2_contentAt 3 (some .int), Cond.fieldLink RX2 23 "MirrorLog$RowTable" "contents" "[B", Cond.methodLink RX2 40 yX2_lengthOf, Cond.instanceMethod yX2_lengthOf, Cond.selects RX2 yX2_lengthOf yX2_lengthOf, Cond.code yX2_lengthOf cX2_lengthOf 2 (some .int), Cond.fieldLink RX2 15 "MirrorLog$RowTable" "lengths" "[I", Cond.methodLink RX2 31 yX2_has, Cond.instanceMethod yX2_has, Cond.selects RX2 yX2_has yX2_has]
def wsL_byteAt_r2 : List Cond := [Cond.code yX2_has cX2_has 2 (some .boolean), Cond.fieldLink RX2 27 "MirrorLog$RowTable" "count" "I"]
def wsL_byteAt : List Cond := .codeWith yL_byteAt cL_byteAt 5 (some .int) [(0, 10, 13, 13)] :: ((wsL_byteAt_r1 ++ wsL_byteAt_r2) ++ wsX30 ++ wsJx000600 ++ wsX20)
def wsL_law_r1 : List Cond := [Cond.classLink RL 8 RX3, Cond.instantiable RX3 10, Cond.initialized RX3, Cond.classLink RL 16 RX4, Cond.instantiable RX4 23, Cond.initialized RX4, Cond.arrayClass .long, Cond.methodLink RL 15 yX3_init, Cond.instanceMethod yX3_init, Cond.code yX3_init cX3_init 1 none, Cond.methodLink RX3 3 objectInit, Cond.instanceMethod objectInit, Cond.code objectInit ⟨#[0xb1]⟩ 1 none, Cond.classLink RX3 9 RX1, Cond.instantiable RX1 2, Cond.initialized RX1, Cond.fieldLink RX3 12 "MirrorLog" "file0" "LMirrorLog$LogFile;", Cond.fieldLink RX3 16 "MirrorLog" "file1" "LMirrorLog$LogFile;", Cond.classLink RX3 19 RX2, Cond.instantiable RX2 5, Cond.initialized RX2, Cond.fieldLink RX3 22 "MirrorLog" "table" "LMirrorLog$RowTable;", Cond.arrayClass .byte, Cond.fieldLink RX3 26 "MirrorLog" "fed" "[B"]
def wsL_law_r2 : List Cond := [Cond.fieldLink RX3 30 "MirrorLog" "badPlace" "I", Cond.instanceMethod yX1_init, Cond.code yX1_init cX1_init 1 none, Cond.methodLink RX1 3 objectInit, Cond.fieldLink RX1 9 "MirrorLog$LogFile" "bytes" "[B", Cond.instanceMethod yX2_init, Cond.code yX2_init cX2_init 1 none, Cond.methodLink RX2 3 objectInit, Cond.arrayClass .int, Cond.fieldLink RX2 9 "MirrorLog$RowTable" "seconds" "[I", Cond.fieldLink RX2 15 "MirrorLog$RowTable" "lengths" "[I", Cond.arrayClass .boolean, Cond.fieldLink RX2 18 "MirrorLog$RowTable" "groupEnds" "[Z", Cond.constant RX2 22 (38400), Cond.fieldLink RX2 23 "MirrorLog$RowTable" "contents" "[B", Cond.methodLink RL 18 yX4_init, Cond.instanceMethod yX4_init, Cond.code yX4_init cX4_init 1 none, Cond.methodLink RX4 1 objectInit, Cond.fieldLink RX4 9 "MirrorLogModel" "bytes" "[I", Cond.fieldLink RX4 13 "MirrorLogModel" "sizes" "[I", Cond.fieldLink RX4 16 "MirrorLogModel" "seconds" "[I", Cond.fieldLink RX4 19 "MirrorLogModel" "lengths" "[I", Cond.constant RX4 22 (38400)]
def wsL_law_r3 : List Cond := [Cond.fieldLink RX4 23 "MirrorLogModel" "contents" "[I", Cond.fieldLink RX4 26 "MirrorLogModel" "groupRows" "[I", Cond.fieldLink RX4 29 "MirrorLogModel" "groupBytes" "[I", Cond.fieldLink RX4 32 "MirrorLogModel" "newSeconds" "[I", Cond.fieldLink RX4 35 "MirrorLogModel" "newLengths" "[I", Cond.fieldLink RX4 38 "MirrorLogModel" "newContents" "[I", Cond.fieldLink RX4 41 "MirrorLogModel" "fed" "[I", Cond.fieldLink RX4 44 "MirrorLogModel" "badAt" "I", Cond.methodLink RL 19 yX3_feed, Cond.instanceMethod yX3_feed, Cond.selects RX3 yX3_feed yX3_feed, Cond.code yX3_feed cX3_feed 2 (some .boolean), Cond.fieldLink RX3 34 "MirrorLog" "shut" "Z", Cond.fieldLink RX3 38 "MirrorLog" "fedCount" "I", Cond.methodLink RL 23 yX4_feed, Cond.instanceMethod yX4_feed, Cond.selects RX4 yX4_feed yX4_feed, Cond.code yX4_feed cX4_feed 2 (some .boolean), Cond.fieldLink RX4 48 "MirrorLogModel" "thrown" "I", Cond.fieldLink RX4 52 "MirrorLogModel" "shut" "Z", Cond.fieldLink RX4 56 "MirrorLogModel" "feeding" "I", Cond.methodLink RL 24 yX3_row, Cond.instanceMethod yX3_row, Cond.selects RX3 yX3_row yX3_row]
def wsL_law_r4 : List Cond := [Cond.code yX3_row cX3_row 4 (some .int), Cond.constant RX3 41 (1000000000), Cond.fieldLink RX3 49 "MirrorLog" "known" "I", Cond.methodLink RX3 42 yX2_lastSecond, Cond.instanceMethod yX2_lastSecond, Cond.selects RX2 yX2_lastSecond yX2_lastSecond, Cond.code yX2_lastSecond cX2_lastSecond 1 (some .int), Cond.fieldLink RX2 27 "MirrorLog$RowTable" "count" "I", Cond.methodLink RX2 35 yX2_secondOf, Cond.instanceMethod yX2_secondOf, Cond.selects RX2 yX2_secondOf yX2_secondOf, Cond.code yX2_secondOf cX2_secondOf 2 (some .int), Cond.methodLink RX2 31 yX2_has, Cond.instanceMethod yX2_has, Cond.selects RX2 yX2_has yX2_has, Cond.code yX2_has cX2_has 2 (some .boolean), Cond.methodLink RX3 46 yX2_count, Cond.instanceMethod yX2_count, Cond.selects RX2 yX2_count yX2_count, Cond.code yX2_count cX2_count 1 (some .int), Cond.methodLink RX3 52 yX2_begin, Cond.instanceMethod yX2_begin, Cond.selects RX2 yX2_begin yX2_begin, Cond.code yX2_begin cX2_begin 2 none]
def wsL_law_r5 : List Cond := [Cond.methodLink RX3 56 yX2_push, Cond.instanceMethod yX2_push, Cond.selects RX2 yX2_push yX2_push, Cond.code yX2_push cX2_push 4 none, Cond.methodLink RL 28 yX4_row, Cond.instanceMethod yX4_row, Cond.selects RX4 yX4_row yX4_row, Cond.code yX4_row cX4_row 3 (some .int), Cond.constant RX4 65 (1000000000), Cond.fieldLink RX4 59 "MirrorLogModel" "newRows" "I", Cond.fieldLink RX4 62 "MirrorLogModel" "known" "I", Cond.methodLink RX4 66 yX4_lastSecond, Cond.instanceMethod yX4_lastSecond, Cond.selects RX4 yX4_lastSecond yX4_lastSecond, Cond.code yX4_lastSecond cX4_lastSecond 1 (some .int), Cond.methodLink RL 29 yX3_endGroup, Cond.instanceMethod yX3_endGroup, Cond.selects RX3 yX3_endGroup yX3_endGroup, Cond.code yX3_endGroup cX3_endGroup 2 (some .boolean), Cond.methodLink RX3 59 yX2_bytesInFile, Cond.instanceMethod yX2_bytesInFile, Cond.selects RX2 yX2_bytesInFile yX2_bytesInFile, Cond.code yX2_bytesInFile cX2_bytesInFile 5 (some .int), Cond.methodLink RX2 40 yX2_lengthOf]
def wsL_law_r6 : List Cond := [Cond.instanceMethod yX2_lengthOf, Cond.selects RX2 yX2_lengthOf yX2_lengthOf, Cond.code yX2_lengthOf cX2_lengthOf 2 (some .int), Cond.methodLink RX2 43 yX2_endsGroup, Cond.instanceMethod yX2_endsGroup, Cond.selects RX2 yX2_endsGroup yX2_endsGroup, Cond.code yX2_endsGroup cX2_endsGroup 2 (some .boolean), Cond.methodLink RX3 63 yX1_hasRoomFor, Cond.instanceMethod yX1_hasRoomFor, Cond.selects RX1 yX1_hasRoomFor yX1_hasRoomFor, Cond.code yX1_hasRoomFor cX1_hasRoomFor 2 (some .boolean), Cond.fieldLink RX1 15 "MirrorLog$LogFile" "size" "I", Cond.methodLink RX3 67 yX0_write, Cond.static yX0_write, Cond.initialized RX0, Cond.code yX0_write cX0_write 5 none, Cond.methodLink RX0 9 yX2_count, Cond.methodLink RX0 15 yX0_writeRow, Cond.static yX0_writeRow, Cond.code yX0_writeRow cX0_writeRow 6 (some .int), Cond.methodLink RX0 21 yX1_size, Cond.instanceMethod yX1_size, Cond.selects RX1 yX1_size yX1_size, Cond.code yX1_size cX1_size 1 (some .int)]
def wsL_law_r7 : List Cond := [Cond.methodLink RX0 38 yX2_lengthOf, Cond.methodLink RX0 26 yX1_add, Cond.instanceMethod yX1_add, Cond.selects RX1 yX1_add yX1_add, Cond.code yX1_add cX1_add 2 none, Cond.methodLink RX0 42 yX2_secondOf, Cond.methodLink RX0 34 yX1_addNumber, Cond.instanceMethod yX1_addNumber, Cond.selects RX1 yX1_addNumber yX1_addNumber, Cond.code yX1_addNumber cX1_addNumber 4 none, Cond.methodLink RX1 19 yX1_add, Cond.methodLink RX0 45 yX2_contentAt, Cond.instanceMethod yX2_contentAt, Cond.selects RX2 yX2_contentAt yX2_contentAt, Cond.code yX2_contentAt cX2_contentAt 3 (some .int), Cond.methodLink RX0 30 yX1_sumOf, Cond.instanceMethod yX1_sumOf, Cond.selects RX1 yX1_sumOf yX1_sumOf, Cond.code yX1_sumOf cX1_sumOf 6 (some .int), Cond.constant RX1 33 (668265263), Cond.methodLink RX1 23 yX1_get, Cond.instanceMethod yX1_get, Cond.selects RX1 yX1_get yX1_get, Cond.code yX1_get cX1_get 2 (some .int)]
def wsL_law_r8 : List Cond := [Cond.methodLink RX1 27 yJ6_rotateLeft_7cf53, Cond.static yJ6_rotateLeft_7cf53, Cond.initialized RJ6, Cond.code yJ6_rotateLeft_7cf53 cJ6_rotateLeft_7cf53 2 (some .int), Cond.methodLink RX3 73 yX2_endGroupHere, Cond.instanceMethod yX2_endGroupHere, Cond.selects RX2 yX2_endGroupHere yX2_endGroupHere, Cond.code yX2_endGroupHere cX2_endGroupHere 1 none, Cond.methodLink RL 33 yX4_endGroup, Cond.instanceMethod yX4_endGroup, Cond.selects RX4 yX4_endGroup yX4_endGroup, Cond.code yX4_endGroup cX4_endGroup 5 (some .boolean), Cond.fieldLink RX4 70 "MirrorLogModel" "at" "I", Cond.fieldLink RX4 84 "MirrorLogModel" "groups" "I", Cond.methodLink RX4 77 yX4_write, Cond.instanceMethod yX4_write, Cond.selects RX4 yX4_write yX4_write, Cond.code yX4_write cX4_write 3 (some .int), Cond.methodLink RX4 73 yX4_summed, Cond.static yX4_summed, Cond.code yX4_summed cX4_summed 3 (some .int), Cond.constant RX4 51 (668265263), Cond.methodLink RX4 80 yX4_four, Cond.instanceMethod yX4_four]
def wsL_law_r9 : List Cond := [Cond.selects RX4 yX4_four yX4_four, Cond.code yX4_four cX4_four 4 none, Cond.methodLink RL 34 yX3_crash, Cond.instanceMethod yX3_crash, Cond.selects RX3 yX3_crash yX3_crash, Cond.code yX3_crash cX3_crash 3 (some .boolean), Cond.methodLink RX3 76 yX3_isFile, Cond.static yX3_isFile, Cond.code yX3_isFile cX3_isFile 1 (some .boolean), Cond.methodLink RX3 79 yX3_fileOf, Cond.instanceMethod yX3_fileOf, Cond.selects RX3 yX3_fileOf yX3_fileOf, Cond.code yX3_fileOf cX3_fileOf 2 (some (.object "MirrorLog$LogFile")), Cond.methodLink RX3 83 yX1_size, Cond.methodLink RX3 86 yX1_cutTo, Cond.instanceMethod yX1_cutTo, Cond.selects RX1 yX1_cutTo yX1_cutTo, Cond.code yX1_cutTo cX1_cutTo 2 none, Cond.methodLink RX3 89 yX3_forgetAllButMoved, Cond.instanceMethod yX3_forgetAllButMoved, Cond.selects RX3 yX3_forgetAllButMoved yX3_forgetAllButMoved, Cond.code yX3_forgetAllButMoved cX3_forgetAllButMoved 1 none, Cond.fieldLink RX3 120 "MirrorLog" "moved" "I", Cond.methodLink RX3 133 yX2_cutTo]
def wsL_law_r10 : List Cond := [Cond.instanceMethod yX2_cutTo, Cond.selects RX2 yX2_cutTo yX2_cutTo, Cond.code yX2_cutTo cX2_cutTo 2 none, Cond.methodLink RL 38 yX4_crash, Cond.instanceMethod yX4_crash, Cond.selects RX4 yX4_crash yX4_crash, Cond.code yX4_crash cX4_crash 3 (some .boolean), Cond.methodLink RX4 90 yX4_forget, Cond.instanceMethod yX4_forget, Cond.selects RX4 yX4_forget yX4_forget, Cond.code yX4_forget cX4_forget 1 none, Cond.fieldLink RX4 87 "MirrorLogModel" "moved" "I", Cond.methodLink RL 39 yX3_reopen, Cond.instanceMethod yX3_reopen, Cond.selects RX3 yX3_reopen yX3_reopen, Cond.code yX3_reopen cX3_reopen 2 (some .int), Cond.fieldLink RX3 92 "MirrorLog" "repairedGroups" "I", Cond.methodLink RX3 95 yX3_takeGoodGroups, Cond.instanceMethod yX3_takeGoodGroups, Cond.selects RX3 yX3_takeGoodGroups yX3_takeGoodGroups, Cond.code yX3_takeGoodGroups cX3_takeGoodGroups 4 (some .int), Cond.methodLink RX3 134 yX3_takeGroup, Cond.instanceMethod yX3_takeGroup, Cond.selects RX3 yX3_takeGroup yX3_takeGroup]
def wsL_law_r11 : List Cond := [Cond.code yX3_takeGroup cX3_takeGroup 5 (some .int), Cond.methodLink RX3 138 yX0_endOfGood, Cond.static yX0_endOfGood, Cond.code yX0_endOfGood cX0_endOfGood 6 (some .int), Cond.methodLink RX0 49 yX2_lastSecond, Cond.methodLink RX0 52 yX1_get, Cond.methodLink RX0 55 yX0_isRowGood, Cond.static yX0_isRowGood, Cond.code yX0_isRowGood cX0_isRowGood 8 (some .boolean), Cond.constant RX0 66 (1000000000), Cond.methodLink RX0 59 yX1_number, Cond.instanceMethod yX1_number, Cond.selects RX1 yX1_number yX1_number, Cond.code yX1_number cX1_number 5 (some .int), Cond.methodLink RX0 62 yX0_isEndGood, Cond.static yX0_isEndGood, Cond.code yX0_isEndGood cX0_isEndGood 4 (some .boolean), Cond.methodLink RX3 142 yX0_read, Cond.static yX0_read, Cond.code yX0_read cX0_read 10 none, Cond.methodLink RX0 67 yX2_begin, Cond.methodLink RX0 70 yX2_push, Cond.methodLink RX0 73 yX2_endGroupHere, Cond.methodLink RX3 129 yX1_agrees]
def wsL_law_r12 : List Cond := [Cond.instanceMethod yX1_agrees, Cond.selects RX1 yX1_agrees yX1_agrees, Cond.code yX1_agrees cX1_agrees 5 (some .boolean), Cond.methodLink RX3 146 yX1_copyFrom, Cond.instanceMethod yX1_copyFrom, Cond.selects RX1 yX1_copyFrom yX1_copyFrom, Cond.code yX1_copyFrom cX1_copyFrom 5 none, Cond.methodLink RL 43 yX4_reopen, Cond.instanceMethod yX4_reopen, Cond.selects RX4 yX4_reopen yX4_reopen, Cond.code yX4_reopen cX4_reopen 4 (some .int), Cond.fieldLink RX4 111 "MirrorLogModel" "repaired" "I", Cond.fieldLink RX4 108 "MirrorLogModel" "seenBytes" "I", Cond.methodLink RX4 114 yX4_isGood, Cond.instanceMethod yX4_isGood, Cond.selects RX4 yX4_isGood yX4_isGood, Cond.code yX4_isGood cX4_isGood 9 (some .boolean), Cond.fieldLink RX4 105 "MirrorLogModel" "seenRows" "I", Cond.methodLink RX4 97 yX4_number, Cond.instanceMethod yX4_number, Cond.selects RX4 yX4_number yX4_number, Cond.code yX4_number cX4_number 6 (some .int), Cond.methodLink RX4 101 yX4_sumOf, Cond.instanceMethod yX4_sumOf]
def wsL_law_r13 : List Cond := [Cond.selects RX4 yX4_sumOf yX4_sumOf, Cond.code yX4_sumOf cX4_sumOf 7 (some .int), Cond.methodLink RX4 93 yX4_areSame, Cond.instanceMethod yX4_areSame, Cond.selects RX4 yX4_areSame yX4_areSame, Cond.code yX4_areSame cX4_areSame 5 (some .boolean), Cond.methodLink RX4 117 yX4_take, Cond.instanceMethod yX4_take, Cond.selects RX4 yX4_take yX4_take, Cond.code yX4_take cX4_take 7 none, Cond.methodLink RL 44 yL_byteAt, Cond.static yL_byteAt, Cond.initialized RL, Cond.codeWith yL_byteAt cL_byteAt 5 (some .int) [(0, 10, 13, 13)], Cond.methodLink RL 7 yX3_byteAt, Cond.instanceMethod yX3_byteAt, Cond.selects RX3 yX3_byteAt yX3_byteAt, Cond.code yX3_byteAt cX3_byteAt 3 (some .int), Cond.classLink RX3 98 RJx00060, Cond.instantiable RJx00060 6, Cond.initialized RJx00060, Cond.methodLink RX3 105 yX2_contentAt, Cond.methodLink RL 49 yX4_byteAt, Cond.instanceMethod yX4_byteAt]
def wsL_law_r14 : List Cond := [Cond.selects RX4 yX4_byteAt yX4_byteAt, Cond.code yX4_byteAt cX4_byteAt 3 (some .int), Cond.methodLink RL 50 yX4_thrown, Cond.instanceMethod yX4_thrown, Cond.selects RX4 yX4_thrown yX4_thrown, Cond.code yX4_thrown cX4_thrown 1 (some .int), Cond.methodLink RL 53 yX3_poke, Cond.instanceMethod yX3_poke, Cond.selects RX3 yX3_poke yX3_poke, Cond.code yX3_poke cX3_poke 4 (some .boolean), Cond.methodLink RX3 108 yX1_alter, Cond.instanceMethod yX1_alter, Cond.selects RX1 yX1_alter yX1_alter, Cond.code yX1_alter cX1_alter 3 none, Cond.methodLink RL 57 yX4_poke, Cond.instanceMethod yX4_poke, Cond.selects RX4 yX4_poke yX4_poke, Cond.code yX4_poke cX4_poke 4 (some .boolean), Cond.methodLink RL 58 yX3_repaired, Cond.instanceMethod yX3_repaired, Cond.selects RX3 yX3_repaired yX3_repaired, Cond.code yX3_repaired cX3_repaired 1 (some .int), Cond.methodLink RL 61 yX4_repaired, Cond.instanceMethod yX4_repaired]
def wsL_law_r15 : List Cond := [Cond.selects RX4 yX4_repaired yX4_repaired, Cond.code yX4_repaired cX4_repaired 1 (some .int), Cond.methodLink RL 62 yX3_badAt, Cond.instanceMethod yX3_badAt, Cond.selects RX3 yX3_badAt yX3_badAt, Cond.code yX3_badAt cX3_badAt 1 (some .int), Cond.methodLink RL 65 yX4_badAt, Cond.instanceMethod yX4_badAt, Cond.selects RX4 yX4_badAt yX4_badAt, Cond.code yX4_badAt cX4_badAt 1 (some .int), Cond.methodLink RL 66 yX3_move, Cond.instanceMethod yX3_move, Cond.selects RX3 yX3_move yX3_move, Cond.code yX3_move cX3_move 4 (some .boolean), Cond.methodLink RX3 112 yX3_same, Cond.instanceMethod yX3_same, Cond.selects RX3 yX3_same yX3_same, Cond.code yX3_same cX3_same 1 (some .boolean), Cond.methodLink RX3 116 yX3_endOfGroupsUpTo, Cond.instanceMethod yX3_endOfGroupsUpTo, Cond.selects RX3 yX3_endOfGroupsUpTo yX3_endOfGroupsUpTo, Cond.code yX3_endOfGroupsUpTo cX3_endOfGroupsUpTo 4 (some .int), Cond.methodLink RX3 126 yX2_monthOf, Cond.instanceMethod yX2_monthOf]
def wsL_law_r16 : List Cond := [Cond.selects RX2 yX2_monthOf yX2_monthOf, Cond.code yX2_monthOf cX2_monthOf 2 (some .int), Cond.constant RX2 39 (2592000), Cond.methodLink RX3 150 yX2_endsGroup, Cond.methodLink RX3 123 yX1_dropFirst, Cond.instanceMethod yX1_dropFirst, Cond.selects RX1 yX1_dropFirst yX1_dropFirst, Cond.code yX1_dropFirst cX1_dropFirst 2 none, Cond.methodLink RX1 34 arraycopyName, Cond.native arraycopyName, Cond.static arraycopyName, Cond.initialized "java/lang/System", Cond.methodLink RL 69 yX4_move, Cond.instanceMethod yX4_move, Cond.selects RX4 yX4_move yX4_move, Cond.code yX4_move cX4_move 7 (some .boolean), Cond.constant RX4 121 (2592000), Cond.methodLink RL 70 yX3_rows, Cond.instanceMethod yX3_rows, Cond.selects RX3 yX3_rows yX3_rows, Cond.code yX3_rows cX3_rows 4 (some .int), Cond.methodLink RL 73 yX4_rows, Cond.instanceMethod yX4_rows, Cond.selects RX4 yX4_rows yX4_rows]
def wsL_law_r17 : List Cond := [Cond.code yX4_rows cX4_rows 4 (some .int), Cond.methodLink RL 74 yX3_same, Cond.methodLink RL 77 yX4_same, Cond.instanceMethod yX4_same, Cond.selects RX4 yX4_same yX4_same, Cond.code yX4_same cX4_same 1 (some .boolean)]
def wsL_law : List Cond := (wsL_law_r1 ++ (wsL_law_r2 ++ (wsL_law_r3 ++ (wsL_law_r4 ++ (wsL_law_r5 ++ (wsL_law_r6 ++ (wsL_law_r7 ++ (wsL_law_r8 ++ (wsL_law_r9 ++ (wsL_law_r10 ++ (wsL_law_r11 ++ (wsL_law_r12 ++ (wsL_law_r13 ++ (wsL_law_r14 ++ (wsL_law_r15 ++ (wsL_law_r16 ++ wsL_law_r17)))))))))))))))) ++ wsX30 ++ wsX40 ++ wsX10 ++ wsX20 ++ wsJx000600 ++ ([] : List Cond)
set_option maxRecDepth 20000 in
theorem in_ps {big ws : List Cond} (ps : List Nat) (h : ws = ps.filterMap (fun i => big[i]?)) : ∀ w ∈ ws, w ∈ big := fun w hw => by
  rw [h] at hw
  obtain ⟨i, -, hi⟩ := List.mem_filterMap.mp hw
  exact List.mem_of_getElem? hi
theorem in_app {big a b : List Cond} (ha : ∀ w ∈ a, w ∈ big) (hb : ∀ w ∈ b, w ∈ big) : ∀ w ∈ a ++ b, w ∈ big := fun w h => (List.mem_append.mp h).elim (ha w) (hb w)
set_option maxRecDepth 20000 in
theorem in_wsL_law_r1 : ∀ w ∈ wsL_law_r1, w ∈ lw_tbl := in_ps [29, 30, 17, 393, 394, 20, 564, 31, 32, 33, 34, 35, 36, 37, 38, 18, 76, 77, 51, 52, 19, 78, 50, 79] (by decide +kernel)
set_option maxRecDepth 20000 in
theorem in_wsL_law_r2 : ∀ w ∈ wsL_law_r2, w ∈ lw_tbl := in_ps [85, 40, 41, 42, 43, 54, 55, 56, 74, 58, 59, 75, 60, 57, 61, 395, 396, 397, 398, 400, 401, 402, 403, 399] (by decide +kernel)
set_option maxRecDepth 20000 in
theorem in_wsL_law_r3 : ∀ w ∈ wsL_law_r3, w ∈ lw_tbl := in_ps [404, 407, 408, 410, 411, 412, 414, 418, 107, 108, 109, 110, 83, 80, 474, 475, 476, 477, 419, 416, 415, 111, 112, 113] (by decide +kernel)
set_option maxRecDepth 20000 in
theorem in_wsL_law_r4 : ∀ w ∈ wsL_law_r4, w ∈ lw_tbl := in_ps [114, 115, 82, 116, 117, 118, 119, 62, 120, 121, 122, 123, 124, 126, 0, 127, 128, 129, 130, 131, 132, 133, 134, 135] (by decide +kernel)
set_option maxRecDepth 20000 in
theorem in_wsL_law_r5 : ∀ w ∈ wsL_law_r5, w ∈ lw_tbl := in_ps [136, 137, 138, 139, 478, 479, 480, 481, 482, 413, 405, 483, 485, 7, 486, 140, 141, 142, 143, 144, 145, 146, 147, 148] (by decide +kernel)
set_option maxRecDepth 20000 in
theorem in_wsL_law_r6 : ∀ w ∈ wsL_law_r6, w ∈ lw_tbl := in_ps [149, 150, 151, 152, 153, 154, 155, 156, 157, 158, 159, 44, 160, 161, 21, 162, 163, 164, 165, 166, 167, 168, 169, 170] (by decide +kernel)
set_option maxRecDepth 20000 in
theorem in_wsL_law_r7 : ∀ w ∈ wsL_law_r7, w ∈ lw_tbl := in_ps [171, 172, 173, 174, 175, 176, 177, 178, 179, 180, 181, 182, 183, 184, 185, 186, 187, 188, 189, 197, 190, 191, 192, 193] (by decide +kernel)
set_option maxRecDepth 20000 in
theorem in_wsL_law_r8 : ∀ w ∈ wsL_law_r8, w ∈ lw_tbl := in_ps [194, 195, 22, 196, 198, 199, 200, 201, 487, 488, 489, 490, 422, 409, 491, 493, 8, 494, 495, 496, 497, 498, 499, 501] (by decide +kernel)
set_option maxRecDepth 20000 in
theorem in_wsL_law_r9 : ∀ w ∈ wsL_law_r9, w ∈ lw_tbl := in_ps [9, 502, 202, 203, 204, 205, 206, 207, 208, 209, 211, 1, 212, 213, 214, 215, 216, 217, 218, 220, 2, 221, 81, 222] (by decide +kernel)
set_option maxRecDepth 20000 in
theorem in_wsL_law_r10 : ∀ w ∈ wsL_law_r10, w ∈ lw_tbl := in_ps [223, 224, 225, 503, 504, 505, 506, 507, 509, 10, 510, 406, 226, 227, 228, 229, 84, 230, 232, 3, 233, 234, 236, 4] (by decide +kernel)
set_option maxRecDepth 20000 in
theorem in_wsL_law_r11 : ∀ w ∈ wsL_law_r11, w ∈ lw_tbl := in_ps [237, 238, 239, 240, 241, 242, 243, 244, 245, 250, 246, 247, 248, 249, 251, 252, 253, 254, 255, 256, 257, 258, 259, 260] (by decide +kernel)
set_option maxRecDepth 20000 in
theorem in_wsL_law_r12 : ∀ w ∈ wsL_law_r12, w ∈ lw_tbl := in_ps [261, 262, 263, 264, 265, 266, 267, 523, 524, 525, 526, 417, 421, 527, 529, 12, 530, 420, 531, 533, 13, 534, 535, 537] (by decide +kernel)
set_option maxRecDepth 20000 in
theorem in_wsL_law_r13 : ∀ w ∈ wsL_law_r13, w ∈ lw_tbl := in_ps [14, 538, 519, 521, 11, 522, 539, 541, 15, 542, 314, 315, 16, 316, 318, 319, 320, 321, 322, 323, 27, 392, 551, 552] (by decide +kernel)
set_option maxRecDepth 20000 in
theorem in_wsL_law_r14 : ∀ w ∈ wsL_law_r14, w ∈ lw_tbl := in_ps [553, 554, 470, 471, 472, 473, 268, 269, 270, 271, 272, 273, 274, 275, 511, 512, 513, 514, 276, 277, 278, 279, 543, 544] (by decide +kernel)
set_option maxRecDepth 20000 in
theorem in_wsL_law_r15 : ∀ w ∈ wsL_law_r15, w ∈ lw_tbl := in_ps [545, 546, 280, 281, 282, 283, 547, 548, 549, 550, 284, 285, 286, 287, 288, 289, 290, 291, 292, 294, 5, 295, 296, 297] (by decide +kernel)
set_option maxRecDepth 20000 in
theorem in_wsL_law_r16 : ∀ w ∈ wsL_law_r16, w ∈ lw_tbl := in_ps [298, 299, 300, 301, 302, 303, 304, 305, 306, 308, 307, 28, 560, 561, 562, 563, 559, 309, 310, 311, 312, 555, 556, 557] (by decide +kernel)
set_option maxRecDepth 20000 in
theorem in_wsL_law_r17 : ∀ w ∈ wsL_law_r17, w ∈ lw_tbl := in_ps [558, 313, 515, 516, 517, 518] (by decide +kernel)
theorem in_wsX30 : ∀ w ∈ wsX30, w ∈ lw_tbl := by decide +kernel
theorem in_wsX40 : ∀ w ∈ wsX40, w ∈ lw_tbl := by decide +kernel
theorem in_wsX10 : ∀ w ∈ wsX10, w ∈ lw_tbl := by decide +kernel
theorem in_wsX20 : ∀ w ∈ wsX20, w ∈ lw_tbl := by decide +kernel
theorem in_wsJx000600 : ∀ w ∈ wsJx000600, w ∈ lw_tbl := by decide +kernel
theorem wsL_law_in : ∀ w ∈ wsL_law, w ∈ lw_tbl := in_app (in_app (in_app (in_app (in_app (in_app (in_app in_wsL_law_r1 (in_app in_wsL_law_r2 (in_app in_wsL_law_r3 (in_app in_wsL_law_r4 (in_app in_wsL_law_r5 (in_app in_wsL_law_r6 (in_app in_wsL_law_r7 (in_app in_wsL_law_r8 (in_app in_wsL_law_r9 (in_app in_wsL_law_r10 (in_app in_wsL_law_r11 (in_app in_wsL_law_r12 (in_app in_wsL_law_r13 (in_app in_wsL_law_r14 (in_app in_wsL_law_r15 (in_app in_wsL_law_r16 in_wsL_law_r17)))))))))))))))) in_wsX30) in_wsX40) in_wsX10) in_wsX20) in_wsJx000600) (fun _ h => absurd h List.not_mem_nil)
theorem inX0 : ∀ w ∈ wsX00, w ∈ lw_tbl := by decide +kernel
theorem inlX1 : ∀ w ∈ wsX10, w ∈ wsL_law := fun _ h => List.mem_append_left _ (List.mem_append_left _ (List.mem_append_left _ (List.mem_append_right _ h)))
theorem inX1 : ∀ w ∈ wsX10, w ∈ lw_tbl := fun w h => wsL_law_in w (inlX1 w h)
theorem inlX2 : ∀ w ∈ wsX20, w ∈ wsL_law := fun _ h => List.mem_append_left _ (List.mem_append_left _ (List.mem_append_right _ h))
theorem inX2 : ∀ w ∈ wsX20, w ∈ lw_tbl := fun w h => wsL_law_in w (inlX2 w h)
theorem inlX3 : ∀ w ∈ wsX30, w ∈ wsL_law := fun _ h => List.mem_append_left _ (List.mem_append_left _ (List.mem_append_left _ (List.mem_append_left _ (List.mem_append_left _ (List.mem_append_right _ h)))))
theorem inX3 : ∀ w ∈ wsX30, w ∈ lw_tbl := fun w h => wsL_law_in w (inlX3 w h)
theorem inlX4 : ∀ w ∈ wsX40, w ∈ wsL_law := fun _ h => List.mem_append_left _ (List.mem_append_left _ (List.mem_append_left _ (List.mem_append_left _ (List.mem_append_right _ h))))
theorem inX4 : ∀ w ∈ wsX40, w ∈ lw_tbl := fun w h => wsL_law_in w (inlX4 w h)
theorem inlJx00060 : ∀ w ∈ wsJx000600, w ∈ wsL_law := fun _ h => List.mem_append_left _ (List.mem_append_right _ h)
theorem inJx00060 : ∀ w ∈ wsJx000600, w ∈ lw_tbl := fun w h => wsL_law_in w (inlJx00060 w h)
theorem inJ6 : ∀ w ∈ wsJ60, w ∈ lw_tbl := by decide +kernel
theorem inJ0 : ∀ w ∈ wsJ00, w ∈ lw_tbl := by decide +kernel
theorem inJ10 : ∀ w ∈ wsJ100, w ∈ lw_tbl := by decide +kernel
set_option maxRecDepth 20000 in
theorem ggX0_write_X2_count : GoodIn wsX0_write wsX2_count := goodIn_r _ [5, 6, 60, 61, 62, 63, 64] (by decide +kernel) (by decide +kernel)
set_option maxRecDepth 20000 in
theorem gX0_write_X2_count : GoodIn wsX0_write (wsV RX0 9 RX2 yX2_count wsX2_count) := goodIn_app (goodIn_of _ (by decide +kernel)) ggX0_write_X2_count
set_option maxRecDepth 20000 in
theorem ggX0_write_X0_writeRow : GoodIn wsX0_write wsX0_writeRow := goodIn_r _ [10, 11, 12, 13, 14, 15, 16, 17, 18, 19, 4, 20, 21, 22, 23, 24, 25, 6, 26, 27, 28, 29, 30, 31, 32, 33, 34, 35, 36, 37, 38, 39, 40, 41, 42, 43, 44, 45, 46, 47, 48, 49, 50, 51, 52, 53, 54, 55, 56, 57, 58, 59, 65, 66, 60, 61, 62, 63, 64] (by decide +kernel) (by decide +kernel)
set_option maxRecDepth 20000 in
theorem gX0_write_X0_writeRow : GoodIn wsX0_write (va_wsS RX0 15 yX0_writeRow wsX0_writeRow) := goodIn_app (goodIn_of _ (by decide +kernel)) ggX0_write_X0_writeRow
set_option maxRecDepth 20000 in
theorem ggX0_write_X1_size : GoodIn wsX0_write wsX1_size := goodIn_r _ [15, 16, 65, 66] (by decide +kernel) (by decide +kernel)
set_option maxRecDepth 20000 in
theorem gX0_write_X1_size : GoodIn wsX0_write (wsV RX0 21 RX1 yX1_size wsX1_size) := goodIn_app (goodIn_of _ (by decide +kernel)) ggX0_write_X1_size
set_option maxRecDepth 20000 in
theorem ggX0_write_X1_add : GoodIn wsX0_write wsX1_add := goodIn_r _ [29, 16, 30, 65, 66] (by decide +kernel) (by decide +kernel)
set_option maxRecDepth 20000 in
theorem gX0_write_X1_add : GoodIn wsX0_write (wsV RX0 26 RX1 yX1_add wsX1_add) := goodIn_app (goodIn_of _ (by decide +kernel)) ggX0_write_X1_add
set_option maxRecDepth 20000 in
theorem ggX0_write_X1_sumOf : GoodIn wsX0_write wsX1_sumOf := goodIn_r _ [50, 51, 52, 53, 54, 14, 55, 16, 30, 56, 57, 58, 59, 65, 66] (by decide +kernel) (by decide +kernel)
set_option maxRecDepth 20000 in
theorem gX0_write_X1_sumOf : GoodIn wsX0_write (wsV RX0 30 RX1 yX1_sumOf wsX1_sumOf) := goodIn_app (goodIn_of _ (by decide +kernel)) ggX0_write_X1_sumOf
set_option maxRecDepth 20000 in
theorem ggX0_write_X1_addNumber : GoodIn wsX0_write wsX1_addNumber := goodIn_r _ [39, 40, 27, 28, 14, 29, 16, 30, 65, 66] (by decide +kernel) (by decide +kernel)
set_option maxRecDepth 20000 in
theorem gX0_write_X1_addNumber : GoodIn wsX0_write (wsV RX0 34 RX1 yX1_addNumber wsX1_addNumber) := goodIn_app (goodIn_of _ (by decide +kernel)) ggX0_write_X1_addNumber
set_option maxRecDepth 20000 in
theorem ggX0_writeRow_X1_size : GoodIn wsX0_writeRow wsX1_size := goodIn_r _ [5, 6, 52, 53] (by decide +kernel) (by decide +kernel)
set_option maxRecDepth 20000 in
theorem gX0_writeRow_X1_size : GoodIn wsX0_writeRow (wsV RX0 21 RX1 yX1_size wsX1_size) := goodIn_app (goodIn_of _ (by decide +kernel)) ggX0_writeRow_X1_size
set_option maxRecDepth 20000 in
theorem ggX0_writeRow_X2_lengthOf : GoodIn wsX0_writeRow wsX2_lengthOf := goodIn_r _ [11, 12, 13, 14, 15, 10, 16, 17, 54, 55, 56, 57, 58] (by decide +kernel) (by decide +kernel)
set_option maxRecDepth 20000 in
theorem gX0_writeRow_X2_lengthOf : GoodIn wsX0_writeRow (wsV RX0 38 RX2 yX2_lengthOf wsX2_lengthOf) := goodIn_app (goodIn_of _ (by decide +kernel)) ggX0_writeRow_X2_lengthOf
set_option maxRecDepth 20000 in
theorem ggX0_writeRow_X1_add : GoodIn wsX0_writeRow wsX1_add := goodIn_r _ [21, 6, 22, 52, 53] (by decide +kernel) (by decide +kernel)
set_option maxRecDepth 20000 in
theorem gX0_writeRow_X1_add : GoodIn wsX0_writeRow (wsV RX0 26 RX1 yX1_add wsX1_add) := goodIn_app (goodIn_of _ (by decide +kernel)) ggX0_writeRow_X1_add
set_option maxRecDepth 20000 in
theorem ggX0_writeRow_X2_secondOf : GoodIn wsX0_writeRow wsX2_secondOf := goodIn_r _ [26, 27, 13, 14, 15, 10, 16, 17, 54, 55, 56, 57, 58] (by decide +kernel) (by decide +kernel)
set_option maxRecDepth 20000 in
theorem gX0_writeRow_X2_secondOf : GoodIn wsX0_writeRow (wsV RX0 42 RX2 yX2_secondOf wsX2_secondOf) := goodIn_app (goodIn_of _ (by decide +kernel)) ggX0_writeRow_X2_secondOf
set_option maxRecDepth 20000 in
theorem ggX0_writeRow_X1_addNumber : GoodIn wsX0_writeRow wsX1_addNumber := goodIn_r _ [31, 32, 19, 20, 4, 21, 6, 22, 52, 53] (by decide +kernel) (by decide +kernel)
set_option maxRecDepth 20000 in
theorem gX0_writeRow_X1_addNumber : GoodIn wsX0_writeRow (wsV RX0 34 RX1 yX1_addNumber wsX1_addNumber) := goodIn_app (goodIn_of _ (by decide +kernel)) ggX0_writeRow_X1_addNumber
set_option maxRecDepth 20000 in
theorem ggX0_writeRow_X2_contentAt : GoodIn wsX0_writeRow wsX2_contentAt := goodIn_r _ [36, 37, 38, 8, 9, 10, 11, 12, 13, 14, 15, 16, 17, 54, 55, 56, 57, 58] (by decide +kernel) (by decide +kernel)
set_option maxRecDepth 20000 in
theorem gX0_writeRow_X2_contentAt : GoodIn wsX0_writeRow (wsV RX0 45 RX2 yX2_contentAt wsX2_contentAt) := goodIn_app (goodIn_of _ (by decide +kernel)) ggX0_writeRow_X2_contentAt
set_option maxRecDepth 20000 in
theorem ggX0_writeRow_X1_sumOf : GoodIn wsX0_writeRow wsX1_sumOf := goodIn_r _ [42, 43, 44, 45, 46, 4, 47, 6, 22, 48, 49, 50, 51, 52, 53] (by decide +kernel) (by decide +kernel)
set_option maxRecDepth 20000 in
theorem gX0_writeRow_X1_sumOf : GoodIn wsX0_writeRow (wsV RX0 30 RX1 yX1_sumOf wsX1_sumOf) := goodIn_app (goodIn_of _ (by decide +kernel)) ggX0_writeRow_X1_sumOf
set_option maxRecDepth 20000 in
theorem ggX0_endOfGood_X2_lastSecond : GoodIn wsX0_endOfGood wsX2_lastSecond := goodIn_r _ [5, 6, 7, 8, 9, 4, 10, 11, 12, 13, 14, 15, 53, 54, 55, 56, 57] (by decide +kernel) (by decide +kernel)
set_option maxRecDepth 20000 in
theorem gX0_endOfGood_X2_lastSecond : GoodIn wsX0_endOfGood (wsV RX0 49 RX2 yX2_lastSecond wsX2_lastSecond) := goodIn_app (goodIn_of _ (by decide +kernel)) ggX0_endOfGood_X2_lastSecond
set_option maxRecDepth 20000 in
theorem ggX0_endOfGood_X1_get : GoodIn wsX0_endOfGood wsX1_get := goodIn_r _ [20, 21, 22, 58, 59] (by decide +kernel) (by decide +kernel)
set_option maxRecDepth 20000 in
theorem gX0_endOfGood_X1_get : GoodIn wsX0_endOfGood (wsV RX0 52 RX1 yX1_get wsX1_get) := goodIn_app (goodIn_of _ (by decide +kernel)) ggX0_endOfGood_X1_get
set_option maxRecDepth 20000 in
theorem ggX0_endOfGood_X2_count : GoodIn wsX0_endOfGood wsX2_count := goodIn_r _ [26, 6, 53, 54, 55, 56, 57] (by decide +kernel) (by decide +kernel)
set_option maxRecDepth 20000 in
theorem gX0_endOfGood_X2_count : GoodIn wsX0_endOfGood (wsV RX0 9 RX2 yX2_count wsX2_count) := goodIn_app (goodIn_of _ (by decide +kernel)) ggX0_endOfGood_X2_count
set_option maxRecDepth 20000 in
theorem ggX0_endOfGood_X0_isRowGood : GoodIn wsX0_endOfGood wsX0_isRowGood := goodIn_r _ [30, 31, 16, 17, 18, 19, 20, 21, 22, 32, 33, 34, 35, 36, 37, 38, 39, 40, 41, 42, 43, 44, 45, 46, 47, 48, 49, 58, 59] (by decide +kernel) (by decide +kernel)
set_option maxRecDepth 20000 in
theorem gX0_endOfGood_X0_isRowGood : GoodIn wsX0_endOfGood (va_wsS RX0 55 yX0_isRowGood wsX0_isRowGood) := goodIn_app (goodIn_of _ (by decide +kernel)) ggX0_endOfGood_X0_isRowGood
set_option maxRecDepth 20000 in
theorem ggX0_endOfGood_X1_number : GoodIn wsX0_endOfGood wsX1_number := goodIn_r _ [39, 40, 17, 18, 19, 20, 21, 22, 58, 59] (by decide +kernel) (by decide +kernel)
set_option maxRecDepth 20000 in
theorem gX0_endOfGood_X1_number : GoodIn wsX0_endOfGood (wsV RX0 59 RX1 yX1_number wsX1_number) := goodIn_app (goodIn_of _ (by decide +kernel)) ggX0_endOfGood_X1_number
set_option maxRecDepth 20000 in
theorem ggX0_endOfGood_X0_isEndGood : GoodIn wsX0_endOfGood wsX0_isEndGood := goodIn_r _ [52, 32, 33, 34, 19, 35, 21, 16, 17, 18, 20, 22, 36, 37, 38, 39, 40, 41, 42, 43, 44, 45, 46, 47, 48, 49, 58, 59] (by decide +kernel) (by decide +kernel)
set_option maxRecDepth 20000 in
theorem gX0_endOfGood_X0_isEndGood : GoodIn wsX0_endOfGood (va_wsS RX0 62 yX0_isEndGood wsX0_isEndGood) := goodIn_app (goodIn_of _ (by decide +kernel)) ggX0_endOfGood_X0_isEndGood
set_option maxRecDepth 20000 in
theorem ggX0_isRowGood_X1_get : GoodIn wsX0_isRowGood wsX1_get := goodIn_r _ [6, 7, 8, 27, 28] (by decide +kernel) (by decide +kernel)
set_option maxRecDepth 20000 in
theorem gX0_isRowGood_X1_get : GoodIn wsX0_isRowGood (wsV RX0 52 RX1 yX1_get wsX1_get) := goodIn_app (goodIn_of _ (by decide +kernel)) ggX0_isRowGood_X1_get
set_option maxRecDepth 20000 in
theorem ggX0_isRowGood_X1_size : GoodIn wsX0_isRowGood wsX1_size := goodIn_r _ [12, 7, 27, 28] (by decide +kernel) (by decide +kernel)
set_option maxRecDepth 20000 in
theorem gX0_isRowGood_X1_size : GoodIn wsX0_isRowGood (wsV RX0 21 RX1 yX1_size wsX1_size) := goodIn_app (goodIn_of _ (by decide +kernel)) ggX0_isRowGood_X1_size
set_option maxRecDepth 20000 in
theorem ggX0_isRowGood_X1_number : GoodIn wsX0_isRowGood wsX1_number := goodIn_r _ [16, 17, 3, 4, 5, 6, 7, 8, 27, 28] (by decide +kernel) (by decide +kernel)
set_option maxRecDepth 20000 in
theorem gX0_isRowGood_X1_number : GoodIn wsX0_isRowGood (wsV RX0 59 RX1 yX1_number wsX1_number) := goodIn_app (goodIn_of _ (by decide +kernel)) ggX0_isRowGood_X1_number
set_option maxRecDepth 20000 in
theorem ggX0_isRowGood_X1_sumOf : GoodIn wsX0_isRowGood wsX1_sumOf := goodIn_r _ [21, 22, 17, 3, 4, 5, 6, 7, 8, 23, 24, 25, 26, 27, 28] (by decide +kernel) (by decide +kernel)
set_option maxRecDepth 20000 in
theorem gX0_isRowGood_X1_sumOf : GoodIn wsX0_isRowGood (wsV RX0 30 RX1 yX1_sumOf wsX1_sumOf) := goodIn_app (goodIn_of _ (by decide +kernel)) ggX0_isRowGood_X1_sumOf
set_option maxRecDepth 20000 in
theorem ggX0_isEndGood_X1_size : GoodIn wsX0_isEndGood wsX1_size := goodIn_r _ [5, 6, 26, 27] (by decide +kernel) (by decide +kernel)
set_option maxRecDepth 20000 in
theorem gX0_isEndGood_X1_size : GoodIn wsX0_isEndGood (wsV RX0 21 RX1 yX1_size wsX1_size) := goodIn_app (goodIn_of _ (by decide +kernel)) ggX0_isEndGood_X1_size
set_option maxRecDepth 20000 in
theorem ggX0_isEndGood_X1_get : GoodIn wsX0_isEndGood wsX1_get := goodIn_r _ [10, 6, 11, 26, 27] (by decide +kernel) (by decide +kernel)
set_option maxRecDepth 20000 in
theorem gX0_isEndGood_X1_get : GoodIn wsX0_isEndGood (wsV RX0 52 RX1 yX1_get wsX1_get) := goodIn_app (goodIn_of _ (by decide +kernel)) ggX0_isEndGood_X1_get
set_option maxRecDepth 20000 in
theorem ggX0_isEndGood_X1_number : GoodIn wsX0_isEndGood wsX1_number := goodIn_r _ [15, 16, 8, 9, 4, 10, 6, 11, 26, 27] (by decide +kernel) (by decide +kernel)
set_option maxRecDepth 20000 in
theorem gX0_isEndGood_X1_number : GoodIn wsX0_isEndGood (wsV RX0 59 RX1 yX1_number wsX1_number) := goodIn_app (goodIn_of _ (by decide +kernel)) ggX0_isEndGood_X1_number
set_option maxRecDepth 20000 in
theorem ggX0_isEndGood_X1_sumOf : GoodIn wsX0_isEndGood wsX1_sumOf := goodIn_r _ [20, 21, 16, 8, 9, 4, 10, 6, 11, 22, 23, 24, 25, 26, 27] (by decide +kernel) (by decide +kernel)
set_option maxRecDepth 20000 in
theorem gX0_isEndGood_X1_sumOf : GoodIn wsX0_isEndGood (wsV RX0 30 RX1 yX1_sumOf wsX1_sumOf) := goodIn_app (goodIn_of _ (by decide +kernel)) ggX0_isEndGood_X1_sumOf
set_option maxRecDepth 20000 in
theorem ggX0_read_X1_get : GoodIn wsX0_read wsX1_get := goodIn_r _ [5, 6, 7, 35, 36] (by decide +kernel) (by decide +kernel)
set_option maxRecDepth 20000 in
theorem gX0_read_X1_get : GoodIn wsX0_read (wsV RX0 52 RX1 yX1_get wsX1_get) := goodIn_app (goodIn_of _ (by decide +kernel)) ggX0_read_X1_get
set_option maxRecDepth 20000 in
theorem ggX0_read_X1_number : GoodIn wsX0_read wsX1_number := goodIn_r _ [11, 12, 2, 3, 4, 5, 6, 7, 35, 36] (by decide +kernel) (by decide +kernel)
set_option maxRecDepth 20000 in
theorem gX0_read_X1_number : GoodIn wsX0_read (wsV RX0 59 RX1 yX1_number wsX1_number) := goodIn_app (goodIn_of _ (by decide +kernel)) ggX0_read_X1_number
set_option maxRecDepth 20000 in
theorem ggX0_read_X2_begin : GoodIn wsX0_read wsX2_begin := goodIn_r _ [17, 18, 19, 20, 21, 37, 38, 39, 40, 41] (by decide +kernel) (by decide +kernel)
set_option maxRecDepth 20000 in
theorem gX0_read_X2_begin : GoodIn wsX0_read (wsV RX0 67 RX2 yX2_begin wsX2_begin) := goodIn_app (goodIn_of _ (by decide +kernel)) ggX0_read_X2_begin
set_option maxRecDepth 20000 in
theorem ggX0_read_X2_push : GoodIn wsX0_read wsX2_push := goodIn_r _ [25, 18, 20, 26, 27, 28, 29, 16, 30, 37, 38, 39, 40, 41] (by decide +kernel) (by decide +kernel)
set_option maxRecDepth 20000 in
theorem gX0_read_X2_push : GoodIn wsX0_read (wsV RX0 70 RX2 yX2_push wsX2_push) := goodIn_app (goodIn_of _ (by decide +kernel)) ggX0_read_X2_push
set_option maxRecDepth 20000 in
theorem ggX0_read_X2_endGroupHere : GoodIn wsX0_read wsX2_endGroupHere := goodIn_r _ [34, 18, 21, 27, 28, 29, 16, 30, 37, 38, 39, 40, 41] (by decide +kernel) (by decide +kernel)
set_option maxRecDepth 20000 in
theorem gX0_read_X2_endGroupHere : GoodIn wsX0_read (wsV RX0 73 RX2 yX2_endGroupHere wsX2_endGroupHere) := goodIn_app (goodIn_of _ (by decide +kernel)) ggX0_read_X2_endGroupHere
set_option maxRecDepth 20000 in
theorem ggX1_addNumber_X1_add : GoodIn wsX1_addNumber wsX1_add := goodIn_r _ [5, 6, 7, 8, 9] (by decide +kernel) (by decide +kernel)
set_option maxRecDepth 20000 in
theorem gX1_addNumber_X1_add : GoodIn wsX1_addNumber (wsV RX1 19 RX1 yX1_add wsX1_add) := goodIn_app (goodIn_of _ (by decide +kernel)) ggX1_addNumber_X1_add
set_option maxRecDepth 20000 in
theorem ggX1_number_X1_get : GoodIn wsX1_number wsX1_get := goodIn_r _ [5, 6, 7, 8, 9] (by decide +kernel) (by decide +kernel)
set_option maxRecDepth 20000 in
theorem gX1_number_X1_get : GoodIn wsX1_number (wsV RX1 23 RX1 yX1_get wsX1_get) := goodIn_app (goodIn_of _ (by decide +kernel)) ggX1_number_X1_get
set_option maxRecDepth 20000 in
theorem ggX1_sumOf_X1_get : GoodIn wsX1_sumOf wsX1_get := goodIn_r _ [6, 7, 8, 13, 14] (by decide +kernel) (by decide +kernel)
set_option maxRecDepth 20000 in
theorem gX1_sumOf_X1_get : GoodIn wsX1_sumOf (wsV RX1 23 RX1 yX1_get wsX1_get) := goodIn_app (goodIn_of _ (by decide +kernel)) ggX1_sumOf_X1_get
set_option maxRecDepth 20000 in
theorem ggX1_sumOf_J6_rotateLeft_7cf53 : GoodIn wsX1_sumOf wsJ6_rotateLeft_7cf53 := goodIn_r _ [12] (by decide +kernel) (by decide +kernel)
set_option maxRecDepth 20000 in
theorem gX1_sumOf_J6_rotateLeft_7cf53 : GoodIn wsX1_sumOf (va_wsS RX1 27 yJ6_rotateLeft_7cf53 wsJ6_rotateLeft_7cf53) := goodIn_app (goodIn_of _ (by decide +kernel)) ggX1_sumOf_J6_rotateLeft_7cf53
set_option maxRecDepth 20000 in
theorem ggX1_agrees_X1_get : GoodIn wsX1_agrees wsX1_get := goodIn_r _ [5, 6, 7, 8, 9] (by decide +kernel) (by decide +kernel)
set_option maxRecDepth 20000 in
theorem gX1_agrees_X1_get : GoodIn wsX1_agrees (wsV RX1 23 RX1 yX1_get wsX1_get) := goodIn_app (goodIn_of _ (by decide +kernel)) ggX1_agrees_X1_get
set_option maxRecDepth 20000 in
theorem ggX1_copyFrom_X1_get : GoodIn wsX1_copyFrom wsX1_get := goodIn_r _ [7, 1, 2, 12, 13] (by decide +kernel) (by decide +kernel)
set_option maxRecDepth 20000 in
theorem gX1_copyFrom_X1_get : GoodIn wsX1_copyFrom (wsV RX1 23 RX1 yX1_get wsX1_get) := goodIn_app (goodIn_of _ (by decide +kernel)) ggX1_copyFrom_X1_get
set_option maxRecDepth 20000 in
theorem ggX1_copyFrom_X1_add : GoodIn wsX1_copyFrom wsX1_add := goodIn_r _ [11, 1, 2, 12, 13] (by decide +kernel) (by decide +kernel)
set_option maxRecDepth 20000 in
theorem gX1_copyFrom_X1_add : GoodIn wsX1_copyFrom (wsV RX1 19 RX1 yX1_add wsX1_add) := goodIn_app (goodIn_of _ (by decide +kernel)) ggX1_copyFrom_X1_add
set_option maxRecDepth 20000 in
theorem ggX2_push_X2_has : GoodIn wsX2_push wsX2_has := goodIn_r _ [8, 1, 9, 10, 11, 12, 13] (by decide +kernel) (by decide +kernel)
set_option maxRecDepth 20000 in
theorem gX2_push_X2_has : GoodIn wsX2_push (wsV RX2 31 RX2 yX2_has wsX2_has) := goodIn_app (goodIn_of _ (by decide +kernel)) ggX2_push_X2_has
set_option maxRecDepth 20000 in
theorem ggX2_endGroupHere_X2_has : GoodIn wsX2_endGroupHere wsX2_has := goodIn_r _ [7, 1, 8, 9, 10, 11, 12] (by decide +kernel) (by decide +kernel)
set_option maxRecDepth 20000 in
theorem gX2_endGroupHere_X2_has : GoodIn wsX2_endGroupHere (wsV RX2 31 RX2 yX2_has wsX2_has) := goodIn_app (goodIn_of _ (by decide +kernel)) ggX2_endGroupHere_X2_has
set_option maxRecDepth 20000 in
theorem ggX2_endsGroup_X2_has : GoodIn wsX2_endsGroup wsX2_has := goodIn_r _ [6, 7, 8, 9, 10, 11, 12] (by decide +kernel) (by decide +kernel)
set_option maxRecDepth 20000 in
theorem gX2_endsGroup_X2_has : GoodIn wsX2_endsGroup (wsV RX2 31 RX2 yX2_has wsX2_has) := goodIn_app (goodIn_of _ (by decide +kernel)) ggX2_endsGroup_X2_has
set_option maxRecDepth 20000 in
theorem ggX2_secondOf_X2_has : GoodIn wsX2_secondOf wsX2_has := goodIn_r _ [6, 7, 8, 9, 10, 11, 12] (by decide +kernel) (by decide +kernel)
set_option maxRecDepth 20000 in
theorem gX2_secondOf_X2_has : GoodIn wsX2_secondOf (wsV RX2 31 RX2 yX2_has wsX2_has) := goodIn_app (goodIn_of _ (by decide +kernel)) ggX2_secondOf_X2_has
set_option maxRecDepth 20000 in
theorem ggX2_lastSecond_X2_secondOf : GoodIn wsX2_lastSecond wsX2_secondOf := goodIn_r _ [6, 7, 8, 9, 10, 5, 11, 1, 12, 13, 14, 15, 16] (by decide +kernel) (by decide +kernel)
set_option maxRecDepth 20000 in
theorem gX2_lastSecond_X2_secondOf : GoodIn wsX2_lastSecond (wsV RX2 35 RX2 yX2_secondOf wsX2_secondOf) := goodIn_app (goodIn_of _ (by decide +kernel)) ggX2_lastSecond_X2_secondOf
set_option maxRecDepth 20000 in
theorem ggX2_monthOf_X2_secondOf : GoodIn wsX2_monthOf wsX2_secondOf := goodIn_r _ [6, 7, 8, 9, 10, 5, 11, 12, 13, 14, 15, 16, 17] (by decide +kernel) (by decide +kernel)
set_option maxRecDepth 20000 in
theorem gX2_monthOf_X2_secondOf : GoodIn wsX2_monthOf (wsV RX2 35 RX2 yX2_secondOf wsX2_secondOf) := goodIn_app (goodIn_of _ (by decide +kernel)) ggX2_monthOf_X2_secondOf
set_option maxRecDepth 20000 in
theorem ggX2_lengthOf_X2_has : GoodIn wsX2_lengthOf wsX2_has := goodIn_r _ [6, 7, 8, 9, 10, 11, 12] (by decide +kernel) (by decide +kernel)
set_option maxRecDepth 20000 in
theorem gX2_lengthOf_X2_has : GoodIn wsX2_lengthOf (wsV RX2 31 RX2 yX2_has wsX2_has) := goodIn_app (goodIn_of _ (by decide +kernel)) ggX2_lengthOf_X2_has
set_option maxRecDepth 20000 in
theorem ggX2_contentAt_X2_lengthOf : GoodIn wsX2_contentAt wsX2_lengthOf := goodIn_r _ [6, 7, 8, 9, 10, 5, 11, 12, 13, 14, 15, 16, 17] (by decide +kernel) (by decide +kernel)
set_option maxRecDepth 20000 in
theorem gX2_contentAt_X2_lengthOf : GoodIn wsX2_contentAt (wsV RX2 40 RX2 yX2_lengthOf wsX2_lengthOf) := goodIn_app (goodIn_of _ (by decide +kernel)) ggX2_contentAt_X2_lengthOf
set_option maxRecDepth 20000 in
theorem ggX2_bytesInFile_X2_lengthOf : GoodIn wsX2_bytesInFile wsX2_lengthOf := goodIn_r _ [5, 6, 7, 8, 9, 4, 10, 11, 17, 18, 19, 20, 21] (by decide +kernel) (by decide +kernel)
set_option maxRecDepth 20000 in
theorem gX2_bytesInFile_X2_lengthOf : GoodIn wsX2_bytesInFile (wsV RX2 40 RX2 yX2_lengthOf wsX2_lengthOf) := goodIn_app (goodIn_of _ (by decide +kernel)) ggX2_bytesInFile_X2_lengthOf
set_option maxRecDepth 20000 in
theorem ggX2_bytesInFile_X2_endsGroup : GoodIn wsX2_bytesInFile wsX2_endsGroup := goodIn_r _ [15, 16, 7, 8, 9, 4, 10, 11, 17, 18, 19, 20, 21] (by decide +kernel) (by decide +kernel)
set_option maxRecDepth 20000 in
theorem gX2_bytesInFile_X2_endsGroup : GoodIn wsX2_bytesInFile (wsV RX2 43 RX2 yX2_endsGroup wsX2_endsGroup) := goodIn_app (goodIn_of _ (by decide +kernel)) ggX2_bytesInFile_X2_endsGroup
set_option maxRecDepth 20000 in
theorem ggX3_init_X1_init : GoodIn wsX3_init wsX1_init := goodIn_r _ [17, 18, 2, 3, 13, 19, 30, 31] (by decide +kernel) (by decide +kernel)
set_option maxRecDepth 20000 in
theorem gX3_init_X1_init_n11 : GoodIn wsX3_init (wsX1_init) := ggX3_init_X1_init
set_option maxRecDepth 20000 in
theorem ggX3_init_X2_init : GoodIn wsX3_init wsX2_init := goodIn_r _ [21, 22, 2, 3, 23, 24, 25, 26, 27, 28, 13, 29, 42, 43, 44, 45, 46] (by decide +kernel) (by decide +kernel)
set_option maxRecDepth 20000 in
theorem gX3_init_X2_init_n21 : GoodIn wsX3_init (wsX2_init) := ggX3_init_X2_init
set_option maxRecDepth 20000 in
theorem ggX3_row_X2_lastSecond : GoodIn wsX3_row wsX2_lastSecond := goodIn_r _ [11, 12, 13, 14, 15, 10, 16, 17, 18, 19, 20, 21, 47, 48, 49, 50, 51] (by decide +kernel) (by decide +kernel)
set_option maxRecDepth 20000 in
theorem gX3_row_X2_lastSecond : GoodIn wsX3_row (wsV RX3 42 RX2 yX2_lastSecond wsX2_lastSecond) := goodIn_app (goodIn_of _ (by decide +kernel)) ggX3_row_X2_lastSecond
set_option maxRecDepth 20000 in
theorem ggX3_row_X2_count : GoodIn wsX3_row wsX2_count := goodIn_r _ [25, 12, 47, 48, 49, 50, 51] (by decide +kernel) (by decide +kernel)
set_option maxRecDepth 20000 in
theorem gX3_row_X2_count : GoodIn wsX3_row (wsV RX3 46 RX2 yX2_count wsX2_count) := goodIn_app (goodIn_of _ (by decide +kernel)) ggX3_row_X2_count
set_option maxRecDepth 20000 in
theorem ggX3_row_X2_begin : GoodIn wsX3_row wsX2_begin := goodIn_r _ [29, 12, 17, 30, 31, 47, 48, 49, 50, 51] (by decide +kernel) (by decide +kernel)
set_option maxRecDepth 20000 in
theorem gX3_row_X2_begin : GoodIn wsX3_row (wsV RX3 52 RX2 yX2_begin wsX2_begin) := goodIn_app (goodIn_of _ (by decide +kernel)) ggX3_row_X2_begin
set_option maxRecDepth 20000 in
theorem ggX3_row_X2_push : GoodIn wsX3_row wsX2_push := goodIn_r _ [35, 12, 30, 36, 18, 19, 20, 10, 21, 47, 48, 49, 50, 51] (by decide +kernel) (by decide +kernel)
set_option maxRecDepth 20000 in
theorem gX3_row_X2_push : GoodIn wsX3_row (wsV RX3 56 RX2 yX2_push wsX2_push) := goodIn_app (goodIn_of _ (by decide +kernel)) ggX3_row_X2_push
set_option maxRecDepth 20000 in
theorem ggX3_endGroup_X2_count : GoodIn wsX3_endGroup wsX2_count := goodIn_r _ [10, 11, 96, 97, 98, 99, 100] (by decide +kernel) (by decide +kernel)
set_option maxRecDepth 20000 in
theorem gX3_endGroup_X2_count : GoodIn wsX3_endGroup (wsV RX3 46 RX2 yX2_count wsX2_count) := goodIn_app (goodIn_of _ (by decide +kernel)) ggX3_endGroup_X2_count
set_option maxRecDepth 20000 in
theorem ggX3_endGroup_X2_bytesInFile : GoodIn wsX3_endGroup wsX2_bytesInFile := goodIn_r _ [15, 16, 17, 18, 9, 19, 20, 21, 22, 23, 24, 11, 25, 26, 27, 28, 29, 96, 97, 98, 99, 100] (by decide +kernel) (by decide +kernel)
set_option maxRecDepth 20000 in
theorem gX3_endGroup_X2_bytesInFile : GoodIn wsX3_endGroup (wsV RX3 59 RX2 yX2_bytesInFile wsX2_bytesInFile) := goodIn_app (goodIn_of _ (by decide +kernel)) ggX3_endGroup_X2_bytesInFile
set_option maxRecDepth 20000 in
theorem ggX3_endGroup_X1_hasRoomFor : GoodIn wsX3_endGroup wsX1_hasRoomFor := goodIn_r _ [34, 35, 36, 101, 102] (by decide +kernel) (by decide +kernel)
set_option maxRecDepth 20000 in
theorem gX3_endGroup_X1_hasRoomFor : GoodIn wsX3_endGroup (wsV RX3 63 RX1 yX1_hasRoomFor wsX1_hasRoomFor) := goodIn_app (goodIn_of _ (by decide +kernel)) ggX3_endGroup_X1_hasRoomFor
set_option maxRecDepth 20000 in
theorem ggX3_endGroup_X0_write : GoodIn wsX3_endGroup wsX0_write := goodIn_r _ [40, 41, 7, 8, 9, 10, 11, 42, 43, 39, 44, 45, 46, 47, 33, 48, 36, 49, 17, 18, 19, 20, 21, 22, 23, 24, 50, 51, 52, 53, 35, 54, 55, 56, 57, 58, 59, 60, 61, 62, 63, 64, 65, 66, 67, 68, 16, 69, 70, 71, 72, 73, 74, 75, 76, 77, 78, 79, 80, 81, 96, 97, 98, 99, 100, 101, 102] (by decide +kernel) (by decide +kernel)
set_option maxRecDepth 20000 in
theorem gX3_endGroup_X0_write : GoodIn wsX3_endGroup (va_wsS RX3 67 yX0_write wsX0_write) := goodIn_app (goodIn_of _ (by decide +kernel)) ggX3_endGroup_X0_write
set_option maxRecDepth 20000 in
theorem ggX3_endGroup_X2_endGroupHere : GoodIn wsX3_endGroup wsX2_endGroupHere := goodIn_r _ [85, 11, 29, 21, 22, 23, 9, 24, 96, 97, 98, 99, 100] (by decide +kernel) (by decide +kernel)
set_option maxRecDepth 20000 in
theorem gX3_endGroup_X2_endGroupHere : GoodIn wsX3_endGroup (wsV RX3 73 RX2 yX2_endGroupHere wsX2_endGroupHere) := goodIn_app (goodIn_of _ (by decide +kernel)) ggX3_endGroup_X2_endGroupHere
set_option maxRecDepth 20000 in
theorem ggX3_crash_X3_isFile : GoodIn wsX3_crash wsX3_isFile := goodIn_r _ [5] (by decide +kernel) (by decide +kernel)
set_option maxRecDepth 20000 in
theorem gX3_crash_X3_isFile : GoodIn wsX3_crash (va_wsS RX3 76 yX3_isFile wsX3_isFile) := goodIn_app (goodIn_of _ (by decide +kernel)) ggX3_crash_X3_isFile
set_option maxRecDepth 20000 in
theorem ggX3_crash_X3_fileOf : GoodIn wsX3_crash wsX3_fileOf := goodIn_r _ [9, 10, 11, 36, 37, 38, 39, 40, 41, 42, 43, 44, 45] (by decide +kernel) (by decide +kernel)
set_option maxRecDepth 20000 in
theorem gX3_crash_X3_fileOf : GoodIn wsX3_crash (wsV RX3 79 RX3 yX3_fileOf wsX3_fileOf) := goodIn_app (goodIn_of _ (by decide +kernel)) ggX3_crash_X3_fileOf
set_option maxRecDepth 20000 in
theorem ggX3_crash_X1_size : GoodIn wsX3_crash wsX1_size := goodIn_r _ [16, 17, 46, 47] (by decide +kernel) (by decide +kernel)
set_option maxRecDepth 20000 in
theorem gX3_crash_X1_size : GoodIn wsX3_crash (wsV RX3 83 RX1 yX1_size wsX1_size) := goodIn_app (goodIn_of _ (by decide +kernel)) ggX3_crash_X1_size
set_option maxRecDepth 20000 in
theorem ggX3_crash_X1_cutTo : GoodIn wsX3_crash wsX1_cutTo := goodIn_r _ [21, 17, 46, 47] (by decide +kernel) (by decide +kernel)
set_option maxRecDepth 20000 in
theorem gX3_crash_X1_cutTo : GoodIn wsX3_crash (wsV RX3 86 RX1 yX1_cutTo wsX1_cutTo) := goodIn_app (goodIn_of _ (by decide +kernel)) ggX3_crash_X1_cutTo
set_option maxRecDepth 20000 in
theorem ggX3_crash_X3_forgetAllButMoved : GoodIn wsX3_crash wsX3_forgetAllButMoved := goodIn_r _ [25, 26, 27, 28, 29, 30, 31, 32, 33, 34, 35, 36, 37, 38, 39, 40, 41, 42, 43, 44, 45, 48, 49, 50, 51, 52] (by decide +kernel) (by decide +kernel)
set_option maxRecDepth 20000 in
theorem gX3_crash_X3_forgetAllButMoved : GoodIn wsX3_crash (wsV RX3 89 RX3 yX3_forgetAllButMoved wsX3_forgetAllButMoved) := goodIn_app (goodIn_of _ (by decide +kernel)) ggX3_crash_X3_forgetAllButMoved
set_option maxRecDepth 20000 in
theorem ggX3_reopen_X3_forgetAllButMoved : GoodIn wsX3_reopen wsX3_forgetAllButMoved := goodIn_r _ [12, 6, 13, 7, 14, 15, 16, 17, 18, 19, 20, 118, 119, 120, 121, 122, 123, 124, 125, 126, 127, 128, 129, 130, 131, 132] (by decide +kernel) (by decide +kernel)
set_option maxRecDepth 20000 in
theorem gX3_reopen_X3_forgetAllButMoved : GoodIn wsX3_reopen (wsV RX3 89 RX3 yX3_forgetAllButMoved wsX3_forgetAllButMoved) := goodIn_app (goodIn_of _ (by decide +kernel)) ggX3_reopen_X3_forgetAllButMoved
set_option maxRecDepth 20000 in
theorem ggX3_reopen_X3_takeGoodGroups : GoodIn wsX3_reopen wsX3_takeGoodGroups := goodIn_r _ [24, 3, 4, 25, 26, 27, 11, 28, 6, 2, 29, 30, 31, 32, 33, 34, 35, 18, 36, 20, 37, 38, 39, 40, 41, 42, 43, 44, 45, 46, 47, 48, 49, 50, 51, 52, 53, 54, 55, 56, 57, 58, 59, 60, 61, 62, 63, 64, 65, 66, 67, 68, 69, 70, 71, 72, 73, 74, 75, 76, 77, 78, 79, 80, 81, 82, 83, 84, 85, 86, 87, 88, 89, 90, 91, 92, 93, 94, 95, 96, 97, 98, 99, 100, 101, 102, 103, 104, 105, 106, 107, 108, 109, 110, 111, 118, 119, 120, 121, 122, 123, 124, 125, 126, 127, 128, 129, 130, 131, 132, 133, 134] (by decide +kernel) (by decide +kernel)
set_option maxRecDepth 20000 in
theorem gX3_reopen_X3_takeGoodGroups : GoodIn wsX3_reopen (wsV RX3 95 RX3 yX3_takeGoodGroups wsX3_takeGoodGroups) := goodIn_app (goodIn_of _ (by decide +kernel)) ggX3_reopen_X3_takeGoodGroups
set_option maxRecDepth 20000 in
theorem ggX3_reopen_X1_size : GoodIn wsX3_reopen wsX1_size := goodIn_r _ [64, 51, 133, 134] (by decide +kernel) (by decide +kernel)
set_option maxRecDepth 20000 in
theorem gX3_reopen_X1_size : GoodIn wsX3_reopen (wsV RX3 83 RX1 yX1_size wsX1_size) := goodIn_app (goodIn_of _ (by decide +kernel)) ggX3_reopen_X1_size
set_option maxRecDepth 20000 in
theorem ggX3_reopen_X1_cutTo : GoodIn wsX3_reopen wsX1_cutTo := goodIn_r _ [116, 51, 133, 134] (by decide +kernel) (by decide +kernel)
set_option maxRecDepth 20000 in
theorem gX3_reopen_X1_cutTo : GoodIn wsX3_reopen (wsV RX3 86 RX1 yX1_cutTo wsX1_cutTo) := goodIn_app (goodIn_of _ (by decide +kernel)) ggX3_reopen_X1_cutTo
set_option maxRecDepth 20000 in
theorem ggX3_reopen_X2_count : GoodIn wsX3_reopen wsX2_count := goodIn_r _ [56, 20, 128, 129, 130, 131, 132] (by decide +kernel) (by decide +kernel)
set_option maxRecDepth 20000 in
theorem gX3_reopen_X2_count : GoodIn wsX3_reopen (wsV RX3 46 RX2 yX2_count wsX2_count) := goodIn_app (goodIn_of _ (by decide +kernel)) ggX3_reopen_X2_count
set_option maxRecDepth 20000 in
theorem ggX3_byteAt_X2_contentAt : GoodIn wsX3_byteAt wsX2_contentAt := goodIn_r _ [10, 11, 12, 13, 14, 9, 15, 16, 17, 18, 19, 20, 21, 38, 39, 40, 41, 42] (by decide +kernel) (by decide +kernel)
set_option maxRecDepth 20000 in
theorem gX3_byteAt_X2_contentAt : GoodIn wsX3_byteAt (wsV RX3 105 RX2 yX2_contentAt wsX2_contentAt) := goodIn_app (goodIn_of _ (by decide +kernel)) ggX3_byteAt_X2_contentAt
set_option maxRecDepth 20000 in
theorem ggX3_poke_X3_isFile : GoodIn wsX3_poke wsX3_isFile := goodIn_r _ [4] (by decide +kernel) (by decide +kernel)
set_option maxRecDepth 20000 in
theorem gX3_poke_X3_isFile : GoodIn wsX3_poke (va_wsS RX3 76 yX3_isFile wsX3_isFile) := goodIn_app (goodIn_of _ (by decide +kernel)) ggX3_poke_X3_isFile
set_option maxRecDepth 20000 in
theorem ggX3_poke_X3_fileOf : GoodIn wsX3_poke wsX3_fileOf := goodIn_r _ [8, 9, 10, 22, 23, 24, 25, 26, 27, 28, 29, 30, 31] (by decide +kernel) (by decide +kernel)
set_option maxRecDepth 20000 in
theorem gX3_poke_X3_fileOf : GoodIn wsX3_poke (wsV RX3 79 RX3 yX3_fileOf wsX3_fileOf) := goodIn_app (goodIn_of _ (by decide +kernel)) ggX3_poke_X3_fileOf
set_option maxRecDepth 20000 in
theorem ggX3_poke_X1_size : GoodIn wsX3_poke wsX1_size := goodIn_r _ [15, 16, 32, 33] (by decide +kernel) (by decide +kernel)
set_option maxRecDepth 20000 in
theorem gX3_poke_X1_size : GoodIn wsX3_poke (wsV RX3 83 RX1 yX1_size wsX1_size) := goodIn_app (goodIn_of _ (by decide +kernel)) ggX3_poke_X1_size
set_option maxRecDepth 20000 in
theorem ggX3_poke_X1_alter : GoodIn wsX3_poke wsX1_alter := goodIn_r _ [20, 16, 21, 32, 33] (by decide +kernel) (by decide +kernel)
set_option maxRecDepth 20000 in
theorem gX3_poke_X1_alter : GoodIn wsX3_poke (wsV RX3 108 RX1 yX1_alter wsX1_alter) := goodIn_app (goodIn_of _ (by decide +kernel)) ggX3_poke_X1_alter
set_option maxRecDepth 20000 in
theorem ggX3_move_X2_count : GoodIn wsX3_move wsX2_count := goodIn_r _ [11, 12, 84, 85, 86, 87, 88] (by decide +kernel) (by decide +kernel)
set_option maxRecDepth 20000 in
theorem gX3_move_X2_count : GoodIn wsX3_move (wsV RX3 46 RX2 yX2_count wsX2_count) := goodIn_app (goodIn_of _ (by decide +kernel)) ggX3_move_X2_count
set_option maxRecDepth 20000 in
theorem ggX3_move_X3_same : GoodIn wsX3_move wsX3_same := goodIn_r _ [17, 5, 6, 18, 19, 20, 21, 22, 23, 24, 25, 26, 27, 28, 29, 30, 31, 32, 74, 75, 76, 77, 78, 79, 80, 81, 82, 83, 89, 90] (by decide +kernel) (by decide +kernel)
set_option maxRecDepth 20000 in
theorem gX3_move_X3_same : GoodIn wsX3_move (wsV RX3 112 RX3 yX3_same wsX3_same) := goodIn_app (goodIn_of _ (by decide +kernel)) ggX3_move_X3_same
set_option maxRecDepth 20000 in
theorem ggX3_move_X3_endOfGroupsUpTo : GoodIn wsX3_move wsX3_endOfGroupsUpTo := goodIn_r _ [36, 4, 3, 2, 37, 38, 39, 10, 40, 41, 42, 43, 44, 45, 46, 47, 48, 49, 50, 12, 51, 52, 53, 54, 55, 74, 75, 76, 77, 78, 79, 80, 81, 82, 83, 84, 85, 86, 87, 88] (by decide +kernel) (by decide +kernel)
set_option maxRecDepth 20000 in
theorem gX3_move_X3_endOfGroupsUpTo : GoodIn wsX3_move (wsV RX3 116 RX3 yX3_endOfGroupsUpTo wsX3_endOfGroupsUpTo) := goodIn_app (goodIn_of _ (by decide +kernel)) ggX3_move_X3_endOfGroupsUpTo
set_option maxRecDepth 20000 in
theorem ggX3_move_X2_bytesInFile : GoodIn wsX3_move wsX2_bytesInFile := goodIn_r _ [59, 60, 61, 62, 10, 63, 64, 47, 48, 49, 50, 12, 65, 52, 53, 54, 55, 84, 85, 86, 87, 88] (by decide +kernel) (by decide +kernel)
set_option maxRecDepth 20000 in
theorem gX3_move_X2_bytesInFile : GoodIn wsX3_move (wsV RX3 59 RX2 yX2_bytesInFile wsX2_bytesInFile) := goodIn_app (goodIn_of _ (by decide +kernel)) ggX3_move_X2_bytesInFile
set_option maxRecDepth 20000 in
theorem ggX3_move_X1_dropFirst : GoodIn wsX3_move wsX1_dropFirst := goodIn_r _ [69, 23, 32, 70, 71, 72, 73, 89, 90] (by decide +kernel) (by decide +kernel)
set_option maxRecDepth 20000 in
theorem gX3_move_X1_dropFirst : GoodIn wsX3_move (wsV RX3 123 RX1 yX1_dropFirst wsX1_dropFirst) := goodIn_app (goodIn_of _ (by decide +kernel)) ggX3_move_X1_dropFirst
set_option maxRecDepth 20000 in
theorem ggX3_rows_X2_monthOf : GoodIn wsX3_rows wsX2_monthOf := goodIn_r _ [7, 8, 9, 10, 11, 6, 12, 13, 14, 15, 16, 17, 18, 29, 30, 31, 32, 33] (by decide +kernel) (by decide +kernel)
set_option maxRecDepth 20000 in
theorem gX3_rows_X2_monthOf : GoodIn wsX3_rows (wsV RX3 126 RX2 yX2_monthOf wsX2_monthOf) := goodIn_app (goodIn_of _ (by decide +kernel)) ggX3_rows_X2_monthOf
set_option maxRecDepth 20000 in
theorem ggX3_same_X1_size : GoodIn wsX3_same wsX1_size := goodIn_r _ [7, 8, 28, 29] (by decide +kernel) (by decide +kernel)
set_option maxRecDepth 20000 in
theorem gX3_same_X1_size : GoodIn wsX3_same (wsV RX3 83 RX1 yX1_size wsX1_size) := goodIn_app (goodIn_of _ (by decide +kernel)) ggX3_same_X1_size
set_option maxRecDepth 20000 in
theorem ggX3_same_X1_agrees : GoodIn wsX3_same wsX1_agrees := goodIn_r _ [12, 13, 14, 15, 6, 16, 8, 17, 28, 29] (by decide +kernel) (by decide +kernel)
set_option maxRecDepth 20000 in
theorem gX3_same_X1_agrees : GoodIn wsX3_same (wsV RX3 129 RX1 yX1_agrees wsX1_agrees) := goodIn_app (goodIn_of _ (by decide +kernel)) ggX3_same_X1_agrees
set_option maxRecDepth 20000 in
theorem ggX3_forgetAllButMoved_X2_cutTo : GoodIn wsX3_forgetAllButMoved wsX2_cutTo := goodIn_r _ [9, 10, 21, 22, 23, 24, 25] (by decide +kernel) (by decide +kernel)
set_option maxRecDepth 20000 in
theorem gX3_forgetAllButMoved_X2_cutTo : GoodIn wsX3_forgetAllButMoved (wsV RX3 133 RX2 yX2_cutTo wsX2_cutTo) := goodIn_app (goodIn_of _ (by decide +kernel)) ggX3_forgetAllButMoved_X2_cutTo
set_option maxRecDepth 20000 in
theorem ggX3_takeGoodGroups_X3_takeGroup : GoodIn wsX3_takeGoodGroups wsX3_takeGroup := goodIn_r _ [7, 8, 9, 10, 11, 12, 13, 14, 15, 16, 17, 18, 19, 20, 21, 22, 23, 24, 25, 26, 27, 28, 29, 30, 31, 32, 33, 34, 35, 36, 37, 38, 39, 40, 41, 42, 43, 44, 45, 46, 47, 48, 49, 50, 51, 52, 53, 54, 55, 56, 57, 58, 59, 60, 61, 62, 63, 64, 65, 66, 67, 68, 69, 70, 71, 72, 73, 74, 75, 76, 77, 78, 79, 80, 81, 82, 83, 84, 85, 86, 87, 88, 89, 90, 91, 92, 93, 94, 95, 96, 97, 98, 99, 100, 101, 102, 103, 104, 105, 106, 107, 108, 109, 110, 111] (by decide +kernel) (by decide +kernel)
set_option maxRecDepth 20000 in
theorem gX3_takeGoodGroups_X3_takeGroup : GoodIn wsX3_takeGoodGroups (wsV RX3 134 RX3 yX3_takeGroup wsX3_takeGroup) := goodIn_app (goodIn_of _ (by decide +kernel)) ggX3_takeGoodGroups_X3_takeGroup
set_option maxRecDepth 20000 in
theorem ggX3_takeGroup_X0_endOfGood : GoodIn wsX3_takeGroup wsX0_endOfGood := goodIn_r _ [6, 7, 8, 9, 10, 11, 12, 13, 14, 15, 16, 17, 18, 19, 20, 21, 22, 23, 24, 25, 26, 27, 28, 29, 30, 31, 32, 33, 34, 5, 35, 36, 37, 38, 39, 40, 41, 42, 43, 44, 45, 46, 47, 48, 49, 50, 51, 52, 53, 54, 55, 56, 57, 98, 99, 100, 101, 102, 103, 104] (by decide +kernel) (by decide +kernel)
set_option maxRecDepth 20000 in
theorem gX3_takeGroup_X0_endOfGood : GoodIn wsX3_takeGroup (va_wsS RX3 138 yX0_endOfGood wsX0_endOfGood) := goodIn_app (goodIn_of _ (by decide +kernel)) ggX3_takeGroup_X0_endOfGood
set_option maxRecDepth 20000 in
theorem ggX3_takeGroup_X0_read : GoodIn wsX3_takeGroup wsX0_read := goodIn_r _ [60, 22, 23, 24, 25, 26, 27, 28, 41, 42, 43, 44, 45, 61, 62, 63, 10, 64, 12, 17, 65, 66, 67, 68, 69, 70, 71, 18, 19, 20, 21, 72, 73, 74, 75, 103, 104, 98, 99, 100, 101, 102] (by decide +kernel) (by decide +kernel)
set_option maxRecDepth 20000 in
theorem gX3_takeGroup_X0_read : GoodIn wsX3_takeGroup (va_wsS RX3 142 yX0_read wsX0_read) := goodIn_app (goodIn_of _ (by decide +kernel)) ggX3_takeGroup_X0_read
set_option maxRecDepth 20000 in
theorem ggX3_takeGroup_X1_agrees : GoodIn wsX3_takeGroup wsX1_agrees := goodIn_r _ [79, 45, 23, 24, 25, 26, 27, 28, 103, 104] (by decide +kernel) (by decide +kernel)
set_option maxRecDepth 20000 in
theorem gX3_takeGroup_X1_agrees : GoodIn wsX3_takeGroup (wsV RX3 129 RX1 yX1_agrees wsX1_agrees) := goodIn_app (goodIn_of _ (by decide +kernel)) ggX3_takeGroup_X1_agrees
set_option maxRecDepth 20000 in
theorem ggX3_takeGroup_X1_copyFrom : GoodIn wsX3_takeGroup wsX1_copyFrom := goodIn_r _ [83, 27, 28, 45, 23, 24, 25, 26, 84, 85, 86, 87, 103, 104] (by decide +kernel) (by decide +kernel)
set_option maxRecDepth 20000 in
theorem gX3_takeGroup_X1_copyFrom : GoodIn wsX3_takeGroup (wsV RX3 146 RX1 yX1_copyFrom wsX1_copyFrom) := goodIn_app (goodIn_of _ (by decide +kernel)) ggX3_takeGroup_X1_copyFrom
set_option maxRecDepth 20000 in
theorem ggX3_endOfGroupsUpTo_X2_monthOf : GoodIn wsX3_endOfGroupsUpTo wsX2_monthOf := goodIn_r _ [8, 9, 10, 11, 12, 7, 13, 14, 15, 16, 17, 18, 19, 35, 36, 37, 38, 39] (by decide +kernel) (by decide +kernel)
set_option maxRecDepth 20000 in
theorem gX3_endOfGroupsUpTo_X2_monthOf : GoodIn wsX3_endOfGroupsUpTo (wsV RX3 126 RX2 yX2_monthOf wsX2_monthOf) := goodIn_app (goodIn_of _ (by decide +kernel)) ggX3_endOfGroupsUpTo_X2_monthOf
set_option maxRecDepth 20000 in
theorem ggX3_endOfGroupsUpTo_X2_endsGroup : GoodIn wsX3_endOfGroupsUpTo wsX2_endsGroup := goodIn_r _ [23, 24, 15, 16, 17, 7, 18, 19, 35, 36, 37, 38, 39] (by decide +kernel) (by decide +kernel)
set_option maxRecDepth 20000 in
theorem gX3_endOfGroupsUpTo_X2_endsGroup : GoodIn wsX3_endOfGroupsUpTo (wsV RX3 150 RX2 yX2_endsGroup wsX2_endsGroup) := goodIn_app (goodIn_of _ (by decide +kernel)) ggX3_endOfGroupsUpTo_X2_endsGroup
set_option maxRecDepth 20000 in
theorem ggX4_row_X4_lastSecond : GoodIn wsX4_row wsX4_lastSecond := goodIn_r _ [15, 5, 7, 6, 16, 17, 18, 19, 20, 21, 22, 23, 24, 25, 26, 27, 28, 29, 30, 31, 32, 33, 34, 35, 36, 37, 38, 39] (by decide +kernel) (by decide +kernel)
set_option maxRecDepth 20000 in
theorem gX4_row_X4_lastSecond : GoodIn wsX4_row (wsV RX4 66 RX4 yX4_lastSecond wsX4_lastSecond) := goodIn_app (goodIn_of _ (by decide +kernel)) ggX4_row_X4_lastSecond
set_option maxRecDepth 20000 in
theorem ggX4_write_X4_summed : GoodIn wsX4_write wsX4_summed := goodIn_r _ [6, 7] (by decide +kernel) (by decide +kernel)
set_option maxRecDepth 20000 in
theorem gX4_write_X4_summed : GoodIn wsX4_write (va_wsS RX4 73 yX4_summed wsX4_summed) := goodIn_app (goodIn_of _ (by decide +kernel)) ggX4_write_X4_summed
set_option maxRecDepth 20000 in
theorem ggX4_four_X4_write : GoodIn wsX4_four wsX4_write := goodIn_r _ [5, 6, 7, 8, 9, 4, 10, 11, 12, 13, 14, 15, 16, 17, 18, 19, 20, 21, 22, 23, 24, 25, 26, 27, 28, 29, 30, 31, 32, 33, 34] (by decide +kernel) (by decide +kernel)
set_option maxRecDepth 20000 in
theorem gX4_four_X4_write : GoodIn wsX4_four (wsV RX4 77 RX4 yX4_write wsX4_write) := goodIn_app (goodIn_of _ (by decide +kernel)) ggX4_four_X4_write
set_option maxRecDepth 20000 in
theorem ggX4_endGroup_X4_write : GoodIn wsX4_endGroup wsX4_write := goodIn_r _ [20, 21, 6, 22, 23, 19, 24, 25, 30, 31, 32, 33, 34, 35, 36, 37, 38, 39, 40, 41, 42, 43, 44, 45, 46, 47, 48, 49, 50, 51, 52] (by decide +kernel) (by decide +kernel)
set_option maxRecDepth 20000 in
theorem gX4_endGroup_X4_write : GoodIn wsX4_endGroup (wsV RX4 77 RX4 yX4_write wsX4_write) := goodIn_app (goodIn_of _ (by decide +kernel)) ggX4_endGroup_X4_write
set_option maxRecDepth 20000 in
theorem ggX4_endGroup_X4_four : GoodIn wsX4_endGroup wsX4_four := goodIn_r _ [29, 16, 17, 18, 19, 20, 21, 6, 22, 23, 24, 25, 30, 31, 32, 33, 34, 35, 36, 37, 38, 39, 40, 41, 42, 43, 44, 45, 46, 47, 48, 49, 50, 51, 52] (by decide +kernel) (by decide +kernel)
set_option maxRecDepth 20000 in
theorem gX4_endGroup_X4_four : GoodIn wsX4_endGroup (wsV RX4 80 RX4 yX4_four wsX4_four) := goodIn_app (goodIn_of _ (by decide +kernel)) ggX4_endGroup_X4_four
set_option maxRecDepth 20000 in
theorem ggX4_crash_X4_forget : GoodIn wsX4_crash wsX4_forget := goodIn_r _ [8, 9, 10, 11, 12, 13, 14, 15, 16, 17, 18, 19, 20, 21, 22, 23, 24, 25, 26, 27, 28, 29, 30, 31, 32, 33, 34, 35, 36] (by decide +kernel) (by decide +kernel)
set_option maxRecDepth 20000 in
theorem gX4_crash_X4_forget : GoodIn wsX4_crash (wsV RX4 90 RX4 yX4_forget wsX4_forget) := goodIn_app (goodIn_of _ (by decide +kernel)) ggX4_crash_X4_forget
set_option maxRecDepth 20000 in
theorem ggX4_same_X4_areSame : GoodIn wsX4_same wsX4_areSame := goodIn_r _ [7, 2, 8, 9, 10, 11, 12, 13, 14, 15, 16, 17, 18, 19, 20, 21, 22, 23, 24, 25, 26, 27, 28, 29, 30, 31] (by decide +kernel) (by decide +kernel)
set_option maxRecDepth 20000 in
theorem gX4_same_X4_areSame : GoodIn wsX4_same (wsV RX4 93 RX4 yX4_areSame wsX4_areSame) := goodIn_app (goodIn_of _ (by decide +kernel)) ggX4_same_X4_areSame
set_option maxRecDepth 20000 in
theorem ggX4_sumOf_X4_summed : GoodIn wsX4_sumOf wsX4_summed := goodIn_r _ [5, 6] (by decide +kernel) (by decide +kernel)
set_option maxRecDepth 20000 in
theorem gX4_sumOf_X4_summed : GoodIn wsX4_sumOf (va_wsS RX4 73 yX4_summed wsX4_summed) := goodIn_app (goodIn_of _ (by decide +kernel)) ggX4_sumOf_X4_summed
set_option maxRecDepth 20000 in
theorem ggX4_isGood_X4_number : GoodIn wsX4_isGood wsX4_number := goodIn_r _ [12, 4, 21, 22, 23, 24, 25, 26, 27, 28, 29, 30, 31, 32, 33, 34, 35, 36, 37, 38, 39, 40, 41, 42, 43] (by decide +kernel) (by decide +kernel)
set_option maxRecDepth 20000 in
theorem gX4_isGood_X4_number : GoodIn wsX4_isGood (wsV RX4 97 RX4 yX4_number wsX4_number) := goodIn_app (goodIn_of _ (by decide +kernel)) ggX4_isGood_X4_number
set_option maxRecDepth 20000 in
theorem ggX4_isGood_X4_sumOf : GoodIn wsX4_isGood wsX4_sumOf := goodIn_r _ [16, 4, 17, 18, 11, 19, 20, 21, 22, 23, 24, 25, 26, 27, 28, 29, 30, 31, 32, 33, 34, 35, 36, 37, 38, 39, 40, 41, 42, 43] (by decide +kernel) (by decide +kernel)
set_option maxRecDepth 20000 in
theorem gX4_isGood_X4_sumOf : GoodIn wsX4_isGood (wsV RX4 101 RX4 yX4_sumOf wsX4_sumOf) := goodIn_app (goodIn_of _ (by decide +kernel)) ggX4_isGood_X4_sumOf
set_option maxRecDepth 20000 in
theorem ggX4_take_X4_number : GoodIn wsX4_take wsX4_number := goodIn_r _ [15, 2, 16, 17, 18, 19, 20, 21, 22, 23, 24, 25, 26, 27, 28, 29, 30, 31, 32, 33, 34, 35, 36, 37, 38] (by decide +kernel) (by decide +kernel)
set_option maxRecDepth 20000 in
theorem gX4_take_X4_number : GoodIn wsX4_take (wsV RX4 97 RX4 yX4_number wsX4_number) := goodIn_app (goodIn_of _ (by decide +kernel)) ggX4_take_X4_number
set_option maxRecDepth 20000 in
theorem ggX4_reopen_X4_forget : GoodIn wsX4_reopen wsX4_forget := goodIn_r _ [12, 13, 14, 15, 7, 16, 49, 50, 51, 52, 53, 54, 55, 56, 57, 58, 59, 60, 61, 62, 63, 64, 65, 66, 67, 68, 69, 70, 71] (by decide +kernel) (by decide +kernel)
set_option maxRecDepth 20000 in
theorem gX4_reopen_X4_forget : GoodIn wsX4_reopen (wsV RX4 90 RX4 yX4_forget wsX4_forget) := goodIn_app (goodIn_of _ (by decide +kernel)) ggX4_reopen_X4_forget
set_option maxRecDepth 20000 in
theorem ggX4_reopen_X4_isGood : GoodIn wsX4_reopen wsX4_isGood := goodIn_r _ [20, 7, 21, 5, 22, 23, 24, 4, 25, 26, 27, 11, 28, 29, 30, 31, 32, 33, 34, 35, 36, 49, 50, 51, 52, 53, 54, 55, 56, 57, 58, 59, 60, 61, 62, 63, 64, 65, 66, 67, 68, 69, 70, 71] (by decide +kernel) (by decide +kernel)
set_option maxRecDepth 20000 in
theorem gX4_reopen_X4_isGood : GoodIn wsX4_reopen (wsV RX4 114 RX4 yX4_isGood wsX4_isGood) := goodIn_app (goodIn_of _ (by decide +kernel)) ggX4_reopen_X4_isGood
set_option maxRecDepth 20000 in
theorem ggX4_reopen_X4_areSame : GoodIn wsX4_reopen wsX4_areSame := goodIn_r _ [40, 5, 22, 49, 50, 51, 52, 53, 54, 55, 56, 57, 58, 59, 60, 61, 62, 63, 64, 65, 66, 67, 68, 69, 70, 71] (by decide +kernel) (by decide +kernel)
set_option maxRecDepth 20000 in
theorem gX4_reopen_X4_areSame : GoodIn wsX4_reopen (wsV RX4 93 RX4 yX4_areSame wsX4_areSame) := goodIn_app (goodIn_of _ (by decide +kernel)) ggX4_reopen_X4_areSame
set_option maxRecDepth 20000 in
theorem ggX4_reopen_X4_take : GoodIn wsX4_reopen wsX4_take := goodIn_r _ [44, 24, 22, 21, 7, 45, 46, 4, 47, 16, 48, 25, 26, 27, 11, 28, 49, 50, 51, 52, 53, 54, 55, 56, 57, 58, 59, 60, 61, 62, 63, 64, 65, 66, 67, 68, 69, 70, 71] (by decide +kernel) (by decide +kernel)
set_option maxRecDepth 20000 in
theorem gX4_reopen_X4_take : GoodIn wsX4_reopen (wsV RX4 117 RX4 yX4_take wsX4_take) := goodIn_app (goodIn_of _ (by decide +kernel)) ggX4_reopen_X4_take
set_option maxRecDepth 20000 in
theorem ggX4_move_X4_areSame : GoodIn wsX4_move wsX4_areSame := goodIn_r _ [16, 4, 11, 17, 18, 19, 20, 21, 22, 23, 24, 25, 26, 27, 28, 29, 30, 31, 32, 33, 34, 35, 36, 37, 38, 39] (by decide +kernel) (by decide +kernel)
set_option maxRecDepth 20000 in
theorem gX4_move_X4_areSame : GoodIn wsX4_move (wsV RX4 93 RX4 yX4_areSame wsX4_areSame) := goodIn_app (goodIn_of _ (by decide +kernel)) ggX4_move_X4_areSame
set_option maxRecDepth 20000 in
theorem ggL_byteAt_X3_byteAt : GoodIn wsL_byteAt wsX3_byteAt := goodIn_r _ [5, 6, 7, 8, 9, 10, 11, 12, 13, 14, 15, 16, 17, 18, 19, 20, 21, 22, 23, 24, 25, 26, 27, 28, 29, 30, 31, 32, 33, 34, 35, 36, 37, 38, 39, 40, 41, 42, 43, 44, 45, 46, 47] (by decide +kernel) (by decide +kernel)
set_option maxRecDepth 20000 in
theorem gL_byteAt_X3_byteAt : GoodIn wsL_byteAt (wsV RL 7 RX3 yX3_byteAt wsX3_byteAt) := goodIn_app (goodIn_of _ (by decide +kernel)) ggL_byteAt_X3_byteAt
set_option maxRecDepth 20000 in
theorem ggL_law_X3_init : GoodIn wsL_law wsX3_init := goodIn_r _ [9, 10, 11, 12, 13, 14, 15, 16, 17, 18, 19, 20, 21, 22, 23, 24, 25, 26, 27, 28, 29, 30, 31, 32, 33, 34, 35, 36, 37, 38, 423, 424, 390, 391, 392, 393, 394, 395, 396, 397, 398, 399, 425, 426, 427, 428, 429] (by decide +kernel) (by decide +kernel)
set_option maxRecDepth 20000 in
theorem gL_law_X3_init : GoodIn wsL_law (wsX3_init) := ggL_law_X3_init
set_option maxRecDepth 20000 in
theorem ggL_law_X4_init : GoodIn wsL_law wsX4_init := goodIn_r _ [41, 42, 11, 12, 32, 43, 44, 45, 46, 47, 48, 49, 50, 51, 52, 53, 54, 55, 400, 401, 402, 403, 404, 405, 406, 407, 408, 409, 410, 411, 412, 413, 414, 415, 416, 417, 418, 419, 420, 421, 422] (by decide +kernel) (by decide +kernel)
set_option maxRecDepth 20000 in
theorem gL_law_X4_init : GoodIn wsL_law (wsX4_init) := ggL_law_X4_init
set_option maxRecDepth 20000 in
theorem ggL_law_X3_feed : GoodIn wsL_law wsX3_feed := goodIn_r _ [59, 60, 61, 23, 390, 391, 392, 393, 394, 395, 396, 397, 398, 399] (by decide +kernel) (by decide +kernel)
set_option maxRecDepth 20000 in
theorem gL_law_X3_feed : GoodIn wsL_law (wsV RL 19 RX3 yX3_feed wsX3_feed) := goodIn_app (goodIn_of _ (by decide +kernel)) ggL_law_X3_feed
set_option maxRecDepth 20000 in
theorem ggL_law_X4_feed : GoodIn wsL_law wsX4_feed := goodIn_r _ [65, 66, 67, 68, 54, 400, 401, 402, 403, 404, 405, 406, 407, 408, 409, 410, 411, 412, 413, 414, 415, 416, 417, 418, 419, 420, 421, 422] (by decide +kernel) (by decide +kernel)
set_option maxRecDepth 20000 in
theorem gL_law_X4_feed : GoodIn wsL_law (wsV RL 23 RX4 yX4_feed wsX4_feed) := goodIn_app (goodIn_of _ (by decide +kernel)) ggL_law_X4_feed
set_option maxRecDepth 20000 in
theorem ggL_law_X3_row : GoodIn wsL_law wsX3_row := goodIn_r _ [72, 60, 61, 73, 21, 74, 23, 75, 76, 77, 20, 78, 79, 80, 81, 82, 83, 33, 84, 85, 86, 87, 88, 89, 90, 91, 92, 93, 94, 95, 34, 36, 96, 97, 98, 99, 38, 390, 391, 392, 393, 394, 395, 396, 397, 398, 399, 425, 426, 427, 428, 429] (by decide +kernel) (by decide +kernel)
set_option maxRecDepth 20000 in
theorem gL_law_X3_row : GoodIn wsL_law (wsV RL 24 RX3 yX3_row wsX3_row) := goodIn_app (goodIn_of _ (by decide +kernel)) ggL_law_X3_row
set_option maxRecDepth 20000 in
theorem ggL_law_X4_row : GoodIn wsL_law wsX4_row := goodIn_r _ [103, 66, 67, 68, 104, 105, 106, 51, 52, 53, 54, 107, 108, 109, 5, 110, 45, 400, 401, 402, 403, 404, 405, 406, 407, 408, 409, 410, 411, 412, 413, 414, 415, 416, 417, 418, 419, 420, 421, 422] (by decide +kernel) (by decide +kernel)
set_option maxRecDepth 20000 in
theorem gL_law_X4_row : GoodIn wsL_law (wsV RL 28 RX4 yX4_row wsX4_row) := goodIn_app (goodIn_of _ (by decide +kernel)) ggL_law_X4_row
set_option maxRecDepth 20000 in
theorem ggL_law_X3_endGroup : GoodIn wsL_law wsX3_endGroup := goodIn_r _ [114, 60, 21, 74, 16, 17, 88, 89, 90, 20, 91, 79, 115, 116, 117, 118, 119, 120, 121, 122, 34, 84, 85, 86, 87, 123, 124, 125, 126, 36, 127, 128, 129, 15, 130, 28, 131, 132, 133, 134, 135, 136, 137, 138, 139, 140, 141, 142, 143, 144, 145, 146, 147, 148, 149, 81, 82, 83, 33, 150, 151, 152, 153, 154, 155, 156, 157, 158, 38, 159, 160, 161, 162, 163, 164, 165, 166, 167, 168, 169, 170, 171, 172, 173, 174, 175, 390, 391, 392, 393, 394, 395, 396, 397, 398, 399, 425, 426, 427, 428, 429, 423, 424] (by decide +kernel) (by decide +kernel)
set_option maxRecDepth 20000 in
theorem gL_law_X3_endGroup : GoodIn wsL_law (wsV RL 29 RX3 yX3_endGroup wsX3_endGroup) := goodIn_app (goodIn_of _ (by decide +kernel)) ggL_law_X3_endGroup
set_option maxRecDepth 20000 in
theorem ggL_law_X4_endGroup : GoodIn wsL_law wsX4_endGroup := goodIn_r _ [179, 66, 105, 52, 67, 44, 180, 51, 53, 48, 106, 45, 46, 49, 181, 50, 182, 183, 184, 5, 185, 43, 186, 187, 188, 189, 190, 191, 192, 193, 400, 401, 402, 403, 404, 405, 406, 407, 408, 409, 410, 411, 412, 413, 414, 415, 416, 417, 418, 419, 420, 421, 422] (by decide +kernel) (by decide +kernel)
set_option maxRecDepth 20000 in
theorem gL_law_X4_endGroup : GoodIn wsL_law (wsV RL 33 RX4 yX4_endGroup wsX4_endGroup) := goodIn_app (goodIn_of _ (by decide +kernel)) ggL_law_X4_endGroup
set_option maxRecDepth 20000 in
theorem ggL_law_X3_crash : GoodIn wsL_law wsX3_crash := goodIn_r _ [197, 60, 198, 199, 2, 200, 201, 202, 203, 204, 16, 17, 205, 141, 142, 15, 143, 131, 206, 207, 208, 209, 210, 211, 212, 213, 21, 214, 74, 61, 215, 216, 217, 20, 218, 79, 390, 391, 392, 393, 394, 395, 396, 397, 398, 399, 423, 424, 425, 426, 427, 428, 429] (by decide +kernel) (by decide +kernel)
set_option maxRecDepth 20000 in
theorem gL_law_X3_crash : GoodIn wsL_law (wsV RL 34 RX3 yX3_crash wsX3_crash) := goodIn_app (goodIn_of _ (by decide +kernel)) ggL_law_X3_crash
set_option maxRecDepth 20000 in
theorem ggL_law_X4_crash : GoodIn wsL_law wsX4_crash := goodIn_r _ [222, 66, 44, 67, 223, 224, 225, 5, 226, 68, 105, 227, 106, 181, 400, 401, 402, 403, 404, 405, 406, 407, 408, 409, 410, 411, 412, 413, 414, 415, 416, 417, 418, 419, 420, 421, 422] (by decide +kernel) (by decide +kernel)
set_option maxRecDepth 20000 in
theorem gL_law_X4_crash : GoodIn wsL_law (wsV RL 38 RX4 yX4_crash wsX4_crash) := goodIn_app (goodIn_of _ (by decide +kernel)) ggL_law_X4_crash
set_option maxRecDepth 20000 in
theorem ggL_law_X3_reopen : GoodIn wsL_law wsX3_reopen := goodIn_r _ [231, 60, 232, 16, 17, 24, 21, 74, 210, 211, 212, 2, 213, 214, 61, 215, 216, 217, 20, 218, 79, 233, 234, 235, 236, 237, 238, 239, 240, 241, 242, 134, 243, 244, 76, 77, 78, 80, 81, 82, 83, 33, 84, 85, 86, 87, 245, 165, 166, 15, 167, 131, 28, 136, 89, 90, 91, 246, 247, 248, 249, 140, 141, 142, 143, 250, 251, 252, 253, 164, 159, 160, 161, 162, 163, 168, 169, 170, 171, 254, 255, 256, 257, 258, 259, 260, 93, 94, 95, 34, 36, 261, 97, 98, 99, 38, 262, 173, 174, 175, 263, 264, 265, 266, 267, 268, 269, 270, 154, 146, 147, 148, 205, 206, 207, 208, 209, 88, 390, 391, 392, 393, 394, 395, 396, 397, 398, 399, 425, 426, 427, 428, 429, 423, 424] (by decide +kernel) (by decide +kernel)
set_option maxRecDepth 20000 in
theorem gL_law_X3_reopen : GoodIn wsL_law (wsV RL 39 RX3 yX3_reopen wsX3_reopen) := goodIn_app (goodIn_of _ (by decide +kernel)) ggL_law_X3_reopen
set_option maxRecDepth 20000 in
theorem ggL_law_X4_reopen : GoodIn wsL_law wsX4_reopen := goodIn_r _ [274, 66, 67, 275, 276, 44, 55, 106, 223, 224, 225, 5, 226, 68, 105, 227, 181, 277, 278, 279, 280, 45, 43, 104, 281, 282, 283, 284, 285, 286, 287, 288, 289, 186, 187, 188, 189, 290, 291, 292, 293, 294, 295, 296, 297, 46, 48, 49, 50, 400, 401, 402, 403, 404, 405, 406, 407, 408, 409, 410, 411, 412, 413, 414, 415, 416, 417, 418, 419, 420, 421, 422] (by decide +kernel) (by decide +kernel)
set_option maxRecDepth 20000 in
theorem gL_law_X4_reopen : GoodIn wsL_law (wsV RL 43 RX4 yX4_reopen wsX4_reopen) := goodIn_app (goodIn_of _ (by decide +kernel)) ggL_law_X4_reopen
set_option maxRecDepth 20000 in
theorem ggL_law_L_byteAt : GoodIn wsL_law wsL_byteAt := goodIn_r _ [301, 302, 303, 304, 2, 305, 74, 306, 307, 308, 21, 309, 156, 157, 20, 158, 38, 119, 120, 121, 122, 34, 84, 85, 86, 87, 79, 390, 391, 392, 393, 394, 395, 396, 397, 398, 399, 430, 431, 432, 433, 434, 435, 425, 426, 427, 428, 429] (by decide +kernel) (by decide +kernel)
set_option maxRecDepth 20000 in
theorem gL_law_L_byteAt : GoodIn wsL_law (va_wsS RL 44 yL_byteAt wsL_byteAt) := goodIn_app (goodIn_of _ (by decide +kernel)) ggL_law_L_byteAt
set_option maxRecDepth 20000 in
theorem ggL_law_X4_byteAt : GoodIn wsL_law wsX4_byteAt := goodIn_r _ [313, 106, 66, 46, 48, 400, 401, 402, 403, 404, 405, 406, 407, 408, 409, 410, 411, 412, 413, 414, 415, 416, 417, 418, 419, 420, 421, 422] (by decide +kernel) (by decide +kernel)
set_option maxRecDepth 20000 in
theorem gL_law_X4_byteAt : GoodIn wsL_law (wsV RL 49 RX4 yX4_byteAt wsX4_byteAt) := goodIn_app (goodIn_of _ (by decide +kernel)) ggL_law_X4_byteAt
set_option maxRecDepth 20000 in
theorem ggL_law_X4_thrown : GoodIn wsL_law wsX4_thrown := goodIn_r _ [317, 66, 400, 401, 402, 403, 404, 405, 406, 407, 408, 409, 410, 411, 412, 413, 414, 415, 416, 417, 418, 419, 420, 421, 422] (by decide +kernel) (by decide +kernel)
set_option maxRecDepth 20000 in
theorem gL_law_X4_thrown : GoodIn wsL_law (wsV RL 50 RX4 yX4_thrown wsX4_thrown) := goodIn_app (goodIn_of _ (by decide +kernel)) ggL_law_X4_thrown
set_option maxRecDepth 20000 in
theorem ggL_law_X3_poke : GoodIn wsL_law wsX3_poke := goodIn_r _ [321, 198, 199, 2, 200, 201, 202, 203, 204, 16, 17, 205, 141, 142, 15, 143, 131, 322, 323, 324, 325, 28, 390, 391, 392, 393, 394, 395, 396, 397, 398, 399, 423, 424] (by decide +kernel) (by decide +kernel)
set_option maxRecDepth 20000 in
theorem gL_law_X3_poke : GoodIn wsL_law (wsV RL 53 RX3 yX3_poke wsX3_poke) := goodIn_app (goodIn_of _ (by decide +kernel)) ggL_law_X3_poke
set_option maxRecDepth 20000 in
theorem ggL_law_X4_poke : GoodIn wsL_law wsX4_poke := goodIn_r _ [329, 66, 44, 43, 400, 401, 402, 403, 404, 405, 406, 407, 408, 409, 410, 411, 412, 413, 414, 415, 416, 417, 418, 419, 420, 421, 422] (by decide +kernel) (by decide +kernel)
set_option maxRecDepth 20000 in
theorem gL_law_X4_poke : GoodIn wsL_law (wsV RL 57 RX4 yX4_poke wsX4_poke) := goodIn_app (goodIn_of _ (by decide +kernel)) ggL_law_X4_poke
set_option maxRecDepth 20000 in
theorem ggL_law_X3_repaired : GoodIn wsL_law wsX3_repaired := goodIn_r _ [333, 232, 390, 391, 392, 393, 394, 395, 396, 397, 398, 399] (by decide +kernel) (by decide +kernel)
set_option maxRecDepth 20000 in
theorem gL_law_X3_repaired : GoodIn wsL_law (wsV RL 58 RX3 yX3_repaired wsX3_repaired) := goodIn_app (goodIn_of _ (by decide +kernel)) ggL_law_X3_repaired
set_option maxRecDepth 20000 in
theorem ggL_law_X4_repaired : GoodIn wsL_law wsX4_repaired := goodIn_r _ [337, 66, 275, 400, 401, 402, 403, 404, 405, 406, 407, 408, 409, 410, 411, 412, 413, 414, 415, 416, 417, 418, 419, 420, 421, 422] (by decide +kernel) (by decide +kernel)
set_option maxRecDepth 20000 in
theorem gL_law_X4_repaired : GoodIn wsL_law (wsV RL 61 RX4 yX4_repaired wsX4_repaired) := goodIn_app (goodIn_of _ (by decide +kernel)) ggL_law_X4_repaired
set_option maxRecDepth 20000 in
theorem ggL_law_X3_badAt : GoodIn wsL_law wsX3_badAt := goodIn_r _ [341, 24, 390, 391, 392, 393, 394, 395, 396, 397, 398, 399] (by decide +kernel) (by decide +kernel)
set_option maxRecDepth 20000 in
theorem gL_law_X3_badAt : GoodIn wsL_law (wsV RL 62 RX3 yX3_badAt wsX3_badAt) := goodIn_app (goodIn_of _ (by decide +kernel)) ggL_law_X3_badAt
set_option maxRecDepth 20000 in
theorem ggL_law_X4_badAt : GoodIn wsL_law wsX4_badAt := goodIn_r _ [345, 66, 55, 400, 401, 402, 403, 404, 405, 406, 407, 408, 409, 410, 411, 412, 413, 414, 415, 416, 417, 418, 419, 420, 421, 422] (by decide +kernel) (by decide +kernel)
set_option maxRecDepth 20000 in
theorem gL_law_X4_badAt : GoodIn wsL_law (wsV RL 65 RX4 yX4_badAt wsX4_badAt) := goodIn_app (goodIn_of _ (by decide +kernel)) ggL_law_X4_badAt
set_option maxRecDepth 20000 in
theorem ggL_law_X3_move : GoodIn wsL_law wsX3_move := goodIn_r _ [349, 60, 21, 74, 214, 16, 17, 88, 89, 90, 20, 91, 79, 350, 351, 352, 2, 353, 205, 141, 142, 15, 143, 131, 263, 264, 265, 266, 164, 165, 166, 167, 28, 354, 355, 356, 357, 358, 359, 360, 361, 362, 80, 81, 82, 83, 33, 84, 85, 86, 87, 363, 124, 125, 126, 36, 115, 116, 117, 118, 119, 120, 121, 122, 34, 123, 364, 365, 366, 367, 368, 369, 370, 371, 390, 391, 392, 393, 394, 395, 396, 397, 398, 399, 425, 426, 427, 428, 429, 423, 424] (by decide +kernel) (by decide +kernel)
set_option maxRecDepth 20000 in
theorem gL_law_X3_move : GoodIn wsL_law (wsV RL 66 RX3 yX3_move wsX3_move) := goodIn_app (goodIn_of _ (by decide +kernel)) ggL_law_X3_move
set_option maxRecDepth 20000 in
theorem ggL_law_X4_move : GoodIn wsL_law wsX4_move := goodIn_r _ [375, 66, 67, 105, 44, 227, 181, 45, 49, 376, 50, 43, 290, 291, 292, 5, 293, 400, 401, 402, 403, 404, 405, 406, 407, 408, 409, 410, 411, 412, 413, 414, 415, 416, 417, 418, 419, 420, 421, 422] (by decide +kernel) (by decide +kernel)
set_option maxRecDepth 20000 in
theorem gL_law_X4_move : GoodIn wsL_law (wsV RL 69 RX4 yX4_move wsX4_move) := goodIn_app (goodIn_of _ (by decide +kernel)) ggL_law_X4_move
set_option maxRecDepth 20000 in
theorem ggL_law_X3_rows : GoodIn wsL_law wsX3_rows := goodIn_r _ [380, 74, 21, 358, 359, 360, 20, 361, 362, 80, 81, 82, 83, 33, 84, 85, 86, 87, 79, 390, 391, 392, 393, 394, 395, 396, 397, 398, 399, 425, 426, 427, 428, 429] (by decide +kernel) (by decide +kernel)
set_option maxRecDepth 20000 in
theorem gL_law_X3_rows : GoodIn wsL_law (wsV RL 70 RX3 yX3_rows wsX3_rows) := goodIn_app (goodIn_of _ (by decide +kernel)) ggL_law_X3_rows
set_option maxRecDepth 20000 in
theorem ggL_law_X4_rows : GoodIn wsL_law wsX4_rows := goodIn_r _ [384, 66, 106, 45, 376, 400, 401, 402, 403, 404, 405, 406, 407, 408, 409, 410, 411, 412, 413, 414, 415, 416, 417, 418, 419, 420, 421, 422] (by decide +kernel) (by decide +kernel)
set_option maxRecDepth 20000 in
theorem gL_law_X4_rows : GoodIn wsL_law (wsV RL 73 RX4 yX4_rows wsX4_rows) := goodIn_app (goodIn_of _ (by decide +kernel)) ggL_law_X4_rows
set_option maxRecDepth 20000 in
theorem ggL_law_X3_same : GoodIn wsL_law wsX3_same := goodIn_r _ [353, 16, 17, 205, 141, 142, 15, 143, 131, 263, 264, 265, 266, 164, 165, 166, 167, 28, 390, 391, 392, 393, 394, 395, 396, 397, 398, 399, 423, 424] (by decide +kernel) (by decide +kernel)
set_option maxRecDepth 20000 in
theorem gL_law_X3_same : GoodIn wsL_law (wsV RL 74 RX3 yX3_same wsX3_same) := goodIn_app (goodIn_of _ (by decide +kernel)) ggL_law_X3_same
set_option maxRecDepth 20000 in
theorem ggL_law_X4_same : GoodIn wsL_law wsX4_same := goodIn_r _ [389, 66, 44, 290, 291, 292, 5, 293, 43, 400, 401, 402, 403, 404, 405, 406, 407, 408, 409, 410, 411, 412, 413, 414, 415, 416, 417, 418, 419, 420, 421, 422] (by decide +kernel) (by decide +kernel)
set_option maxRecDepth 20000 in
theorem gL_law_X4_same : GoodIn wsL_law (wsV RL 77 RX4 yX4_same wsX4_same) := goodIn_app (goodIn_of _ (by decide +kernel)) ggL_law_X4_same
abbrev vwCl : List vw_C := [(RJx00060, TJx00060, 6), (RX1, TX1, 2), (RX2, TX2, 5), (RX3, TX3, 10), (RX4, TX4, 23)]
end
section
theorem dX0_write_0 : decode cX0_write 0 = .ok (.iconst 0, 1) := by decide +kernel
theorem dX0_write_1 : decode cX0_write 1 = .ok (.istore_n 3, 1) := by decide +kernel
theorem dX0_write_2 : decode cX0_write 2 = .ok (.iload_n 2, 1) := by decide +kernel
theorem dX0_write_3 : decode cX0_write 3 = .ok (.istore 4, 2) := by decide +kernel
theorem dX0_write_5 : decode cX0_write 5 = .ok (.iload 4, 2) := by decide +kernel
theorem dX0_write_7 : decode cX0_write 7 = .ok (.aload_n 1, 1) := by decide +kernel
theorem dX0_write_8 : decode cX0_write 8 = .ok (.invokevirtual 9, 3) := by decide +kernel
theorem dX0_write_11 : decode cX0_write 11 = .ok (.if_icmp .ge 17, 3) := by decide +kernel
theorem dX0_write_14 : decode cX0_write 14 = .ok (.aload_n 0, 1) := by decide +kernel
theorem dX0_write_15 : decode cX0_write 15 = .ok (.aload_n 1, 1) := by decide +kernel
theorem dX0_write_16 : decode cX0_write 16 = .ok (.iload 4, 2) := by decide +kernel
theorem dX0_write_18 : decode cX0_write 18 = .ok (.invokestatic 15, 3) := by decide +kernel
theorem dX0_write_21 : decode cX0_write 21 = .ok (.istore_n 3, 1) := by decide +kernel
theorem dX0_write_22 : decode cX0_write 22 = .ok (.iinc 4 1, 3) := by decide +kernel
theorem dX0_write_25 : decode cX0_write 25 = .ok (.goto (-20), 3) := by decide +kernel
theorem dX0_write_28 : decode cX0_write 28 = .ok (.aload_n 0, 1) := by decide +kernel
theorem dX0_write_29 : decode cX0_write 29 = .ok (.invokevirtual 21, 3) := by decide +kernel
theorem dX0_write_32 : decode cX0_write 32 = .ok (.istore 4, 2) := by decide +kernel
theorem dX0_write_34 : decode cX0_write 34 = .ok (.aload_n 0, 1) := by decide +kernel
theorem dX0_write_35 : decode cX0_write 35 = .ok (.iconst 0, 1) := by decide +kernel
theorem dX0_write_36 : decode cX0_write 36 = .ok (.invokevirtual 26, 3) := by decide +kernel
theorem dX0_write_39 : decode cX0_write 39 = .ok (.aload_n 0, 1) := by decide +kernel
theorem dX0_write_40 : decode cX0_write 40 = .ok (.aload_n 1, 1) := by decide +kernel
theorem dX0_write_41 : decode cX0_write 41 = .ok (.invokevirtual 9, 3) := by decide +kernel
theorem dX0_write_44 : decode cX0_write 44 = .ok (.iload_n 2, 1) := by decide +kernel
theorem dX0_write_45 : decode cX0_write 45 = .ok (.isub, 1) := by decide +kernel
theorem dX0_write_46 : decode cX0_write 46 = .ok (.invokevirtual 26, 3) := by decide +kernel
theorem dX0_write_49 : decode cX0_write 49 = .ok (.aload_n 0, 1) := by decide +kernel
theorem dX0_write_50 : decode cX0_write 50 = .ok (.aload_n 0, 1) := by decide +kernel
theorem dX0_write_51 : decode cX0_write 51 = .ok (.iload 4, 2) := by decide +kernel
theorem dX0_write_53 : decode cX0_write 53 = .ok (.iload 4, 2) := by decide +kernel
theorem dX0_write_55 : decode cX0_write 55 = .ok (.iconst 2, 1) := by decide +kernel
theorem dX0_write_56 : decode cX0_write 56 = .ok (.iadd, 1) := by decide +kernel
theorem dX0_write_57 : decode cX0_write 57 = .ok (.iload_n 3, 1) := by decide +kernel
theorem dX0_write_58 : decode cX0_write 58 = .ok (.invokevirtual 30, 3) := by decide +kernel
theorem dX0_write_61 : decode cX0_write 61 = .ok (.iconst 4, 1) := by decide +kernel
theorem dX0_write_62 : decode cX0_write 62 = .ok (.invokevirtual 34, 3) := by decide +kernel
theorem dX0_write_65 : decode cX0_write 65 = .ok (.return_, 1) := by decide +kernel
theorem dX0_writeRow_0 : decode cX0_writeRow 0 = .ok (.aload_n 0, 1) := by decide +kernel
theorem dX0_writeRow_1 : decode cX0_writeRow 1 = .ok (.invokevirtual 21, 3) := by decide +kernel
theorem dX0_writeRow_4 : decode cX0_writeRow 4 = .ok (.istore_n 3, 1) := by decide +kernel
theorem dX0_writeRow_5 : decode cX0_writeRow 5 = .ok (.aload_n 1, 1) := by decide +kernel
theorem dX0_writeRow_6 : decode cX0_writeRow 6 = .ok (.iload_n 2, 1) := by decide +kernel
theorem dX0_writeRow_7 : decode cX0_writeRow 7 = .ok (.invokevirtual 38, 3) := by decide +kernel
theorem dX0_writeRow_10 : decode cX0_writeRow 10 = .ok (.istore 4, 2) := by decide +kernel
theorem dX0_writeRow_12 : decode cX0_writeRow 12 = .ok (.aload_n 0, 1) := by decide +kernel
theorem dX0_writeRow_13 : decode cX0_writeRow 13 = .ok (.iload 4, 2) := by decide +kernel
theorem dX0_writeRow_15 : decode cX0_writeRow 15 = .ok (.invokevirtual 26, 3) := by decide +kernel
theorem dX0_writeRow_18 : decode cX0_writeRow 18 = .ok (.aload_n 0, 1) := by decide +kernel
theorem dX0_writeRow_19 : decode cX0_writeRow 19 = .ok (.aload_n 1, 1) := by decide +kernel
theorem dX0_writeRow_20 : decode cX0_writeRow 20 = .ok (.iload_n 2, 1) := by decide +kernel
theorem dX0_writeRow_21 : decode cX0_writeRow 21 = .ok (.invokevirtual 42, 3) := by decide +kernel
theorem dX0_writeRow_24 : decode cX0_writeRow 24 = .ok (.iconst 4, 1) := by decide +kernel
theorem dX0_writeRow_25 : decode cX0_writeRow 25 = .ok (.invokevirtual 34, 3) := by decide +kernel
theorem dX0_writeRow_28 : decode cX0_writeRow 28 = .ok (.iconst 0, 1) := by decide +kernel
theorem dX0_writeRow_29 : decode cX0_writeRow 29 = .ok (.istore 5, 2) := by decide +kernel
theorem dX0_writeRow_31 : decode cX0_writeRow 31 = .ok (.iload 5, 2) := by decide +kernel
theorem dX0_writeRow_33 : decode cX0_writeRow 33 = .ok (.iload 4, 2) := by decide +kernel
theorem dX0_writeRow_35 : decode cX0_writeRow 35 = .ok (.if_icmp .ge 20, 3) := by decide +kernel
theorem dX0_writeRow_38 : decode cX0_writeRow 38 = .ok (.aload_n 0, 1) := by decide +kernel
theorem dX0_writeRow_39 : decode cX0_writeRow 39 = .ok (.aload_n 1, 1) := by decide +kernel
theorem dX0_writeRow_40 : decode cX0_writeRow 40 = .ok (.iload_n 2, 1) := by decide +kernel
theorem dX0_writeRow_41 : decode cX0_writeRow 41 = .ok (.iload 5, 2) := by decide +kernel
theorem dX0_writeRow_43 : decode cX0_writeRow 43 = .ok (.invokevirtual 45, 3) := by decide +kernel
theorem dX0_writeRow_46 : decode cX0_writeRow 46 = .ok (.invokevirtual 26, 3) := by decide +kernel
theorem dX0_writeRow_49 : decode cX0_writeRow 49 = .ok (.iinc 5 1, 3) := by decide +kernel
theorem dX0_writeRow_52 : decode cX0_writeRow 52 = .ok (.goto (-21), 3) := by decide +kernel
theorem dX0_writeRow_55 : decode cX0_writeRow 55 = .ok (.aload_n 0, 1) := by decide +kernel
theorem dX0_writeRow_56 : decode cX0_writeRow 56 = .ok (.iload_n 2, 1) := by decide +kernel
theorem dX0_writeRow_57 : decode cX0_writeRow 57 = .ok (.iconst 2, 1) := by decide +kernel
theorem dX0_writeRow_58 : decode cX0_writeRow 58 = .ok (.invokevirtual 34, 3) := by decide +kernel
theorem dX0_writeRow_61 : decode cX0_writeRow 61 = .ok (.aload_n 0, 1) := by decide +kernel
theorem dX0_writeRow_62 : decode cX0_writeRow 62 = .ok (.iload_n 3, 1) := by decide +kernel
theorem dX0_writeRow_63 : decode cX0_writeRow 63 = .ok (.aload_n 0, 1) := by decide +kernel
theorem dX0_writeRow_64 : decode cX0_writeRow 64 = .ok (.invokevirtual 21, 3) := by decide +kernel
theorem dX0_writeRow_67 : decode cX0_writeRow 67 = .ok (.iconst 0, 1) := by decide +kernel
theorem dX0_writeRow_68 : decode cX0_writeRow 68 = .ok (.invokevirtual 30, 3) := by decide +kernel
theorem dX0_writeRow_71 : decode cX0_writeRow 71 = .ok (.istore 5, 2) := by decide +kernel
theorem dX0_writeRow_73 : decode cX0_writeRow 73 = .ok (.aload_n 0, 1) := by decide +kernel
theorem dX0_writeRow_74 : decode cX0_writeRow 74 = .ok (.iload 5, 2) := by decide +kernel
theorem dX0_writeRow_76 : decode cX0_writeRow 76 = .ok (.iconst 4, 1) := by decide +kernel
theorem dX0_writeRow_77 : decode cX0_writeRow 77 = .ok (.invokevirtual 34, 3) := by decide +kernel
theorem dX0_writeRow_80 : decode cX0_writeRow 80 = .ok (.iload 5, 2) := by decide +kernel
theorem dX0_writeRow_82 : decode cX0_writeRow 82 = .ok (.ireturn, 1) := by decide +kernel
theorem dX0_endOfGood_0 : decode cX0_endOfGood 0 = .ok (.iload_n 1, 1) := by decide +kernel
theorem dX0_endOfGood_1 : decode cX0_endOfGood 1 = .ok (.istore_n 3, 1) := by decide +kernel
theorem dX0_endOfGood_2 : decode cX0_endOfGood 2 = .ok (.iconst 0, 1) := by decide +kernel
theorem dX0_endOfGood_3 : decode cX0_endOfGood 3 = .ok (.istore 4, 2) := by decide +kernel
theorem dX0_endOfGood_5 : decode cX0_endOfGood 5 = .ok (.aload_n 2, 1) := by decide +kernel
theorem dX0_endOfGood_6 : decode cX0_endOfGood 6 = .ok (.invokevirtual 49, 3) := by decide +kernel
theorem dX0_endOfGood_9 : decode cX0_endOfGood 9 = .ok (.istore 5, 2) := by decide +kernel
theorem dX0_endOfGood_11 : decode cX0_endOfGood 11 = .ok (.iload 4, 2) := by decide +kernel
theorem dX0_endOfGood_13 : decode cX0_endOfGood 13 = .ok (.bipush 16, 2) := by decide +kernel
theorem dX0_endOfGood_15 : decode cX0_endOfGood 15 = .ok (.if_icmp .ge 57, 3) := by decide +kernel
theorem dX0_endOfGood_18 : decode cX0_endOfGood 18 = .ok (.aload_n 0, 1) := by decide +kernel
theorem dX0_endOfGood_19 : decode cX0_endOfGood 19 = .ok (.iload_n 3, 1) := by decide +kernel
theorem dX0_endOfGood_20 : decode cX0_endOfGood 20 = .ok (.invokevirtual 52, 3) := by decide +kernel
theorem dX0_endOfGood_23 : decode cX0_endOfGood 23 = .ok (.ifCond .le 49, 3) := by decide +kernel
theorem dX0_endOfGood_26 : decode cX0_endOfGood 26 = .ok (.aload_n 0, 1) := by decide +kernel
theorem dX0_endOfGood_27 : decode cX0_endOfGood 27 = .ok (.iload_n 3, 1) := by decide +kernel
theorem dX0_endOfGood_28 : decode cX0_endOfGood 28 = .ok (.aload_n 2, 1) := by decide +kernel
theorem dX0_endOfGood_29 : decode cX0_endOfGood 29 = .ok (.invokevirtual 9, 3) := by decide +kernel
theorem dX0_endOfGood_32 : decode cX0_endOfGood 32 = .ok (.iload 4, 2) := by decide +kernel
theorem dX0_endOfGood_34 : decode cX0_endOfGood 34 = .ok (.iadd, 1) := by decide +kernel
theorem dX0_endOfGood_35 : decode cX0_endOfGood 35 = .ok (.iload 5, 2) := by decide +kernel
theorem dX0_endOfGood_37 : decode cX0_endOfGood 37 = .ok (.invokestatic 55, 3) := by decide +kernel
theorem dX0_endOfGood_40 : decode cX0_endOfGood 40 = .ok (.ifCond .ne 5, 3) := by decide +kernel
theorem dX0_endOfGood_43 : decode cX0_endOfGood 43 = .ok (.iconst (-1), 1) := by decide +kernel
theorem dX0_endOfGood_44 : decode cX0_endOfGood 44 = .ok (.ireturn, 1) := by decide +kernel
theorem dX0_endOfGood_45 : decode cX0_endOfGood 45 = .ok (.aload_n 0, 1) := by decide +kernel
theorem dX0_endOfGood_46 : decode cX0_endOfGood 46 = .ok (.iload_n 3, 1) := by decide +kernel
theorem dX0_endOfGood_47 : decode cX0_endOfGood 47 = .ok (.iconst 1, 1) := by decide +kernel
theorem dX0_endOfGood_48 : decode cX0_endOfGood 48 = .ok (.iadd, 1) := by decide +kernel
theorem dX0_endOfGood_49 : decode cX0_endOfGood 49 = .ok (.iconst 4, 1) := by decide +kernel
theorem dX0_endOfGood_50 : decode cX0_endOfGood 50 = .ok (.invokevirtual 59, 3) := by decide +kernel
theorem dX0_endOfGood_53 : decode cX0_endOfGood 53 = .ok (.istore 5, 2) := by decide +kernel
theorem dX0_endOfGood_55 : decode cX0_endOfGood 55 = .ok (.iload_n 3, 1) := by decide +kernel
theorem dX0_endOfGood_56 : decode cX0_endOfGood 56 = .ok (.aload_n 0, 1) := by decide +kernel
theorem dX0_endOfGood_57 : decode cX0_endOfGood 57 = .ok (.iload_n 3, 1) := by decide +kernel
theorem dX0_endOfGood_58 : decode cX0_endOfGood 58 = .ok (.invokevirtual 52, 3) := by decide +kernel
theorem dX0_endOfGood_61 : decode cX0_endOfGood 61 = .ok (.bipush 11, 2) := by decide +kernel
theorem dX0_endOfGood_63 : decode cX0_endOfGood 63 = .ok (.iadd, 1) := by decide +kernel
theorem dX0_endOfGood_64 : decode cX0_endOfGood 64 = .ok (.iadd, 1) := by decide +kernel
theorem dX0_endOfGood_65 : decode cX0_endOfGood 65 = .ok (.istore_n 3, 1) := by decide +kernel
theorem dX0_endOfGood_66 : decode cX0_endOfGood 66 = .ok (.iinc 4 1, 3) := by decide +kernel
theorem dX0_endOfGood_69 : decode cX0_endOfGood 69 = .ok (.goto (-58), 3) := by decide +kernel
theorem dX0_endOfGood_72 : decode cX0_endOfGood 72 = .ok (.iload 4, 2) := by decide +kernel
theorem dX0_endOfGood_74 : decode cX0_endOfGood 74 = .ok (.ifCond .le 20, 3) := by decide +kernel
theorem dX0_endOfGood_77 : decode cX0_endOfGood 77 = .ok (.aload_n 0, 1) := by decide +kernel
theorem dX0_endOfGood_78 : decode cX0_endOfGood 78 = .ok (.iload_n 3, 1) := by decide +kernel
theorem dX0_endOfGood_79 : decode cX0_endOfGood 79 = .ok (.iload 4, 2) := by decide +kernel
theorem dX0_endOfGood_81 : decode cX0_endOfGood 81 = .ok (.invokestatic 62, 3) := by decide +kernel
theorem dX0_endOfGood_84 : decode cX0_endOfGood 84 = .ok (.ifCond .eq 10, 3) := by decide +kernel
theorem dX0_endOfGood_87 : decode cX0_endOfGood 87 = .ok (.iload_n 3, 1) := by decide +kernel
theorem dX0_endOfGood_88 : decode cX0_endOfGood 88 = .ok (.bipush 6, 2) := by decide +kernel
theorem dX0_endOfGood_90 : decode cX0_endOfGood 90 = .ok (.iadd, 1) := by decide +kernel
theorem dX0_endOfGood_91 : decode cX0_endOfGood 91 = .ok (.goto 4, 3) := by decide +kernel
theorem dX0_endOfGood_94 : decode cX0_endOfGood 94 = .ok (.iconst (-1), 1) := by decide +kernel
theorem dX0_endOfGood_95 : decode cX0_endOfGood 95 = .ok (.ireturn, 1) := by decide +kernel
theorem dX0_isRowGood_0 : decode cX0_isRowGood 0 = .ok (.aload_n 0, 1) := by decide +kernel
theorem dX0_isRowGood_1 : decode cX0_isRowGood 1 = .ok (.iload_n 1, 1) := by decide +kernel
theorem dX0_isRowGood_2 : decode cX0_isRowGood 2 = .ok (.invokevirtual 52, 3) := by decide +kernel
theorem dX0_isRowGood_5 : decode cX0_isRowGood 5 = .ok (.istore 4, 2) := by decide +kernel
theorem dX0_isRowGood_7 : decode cX0_isRowGood 7 = .ok (.iload_n 1, 1) := by decide +kernel
theorem dX0_isRowGood_8 : decode cX0_isRowGood 8 = .ok (.iload 4, 2) := by decide +kernel
theorem dX0_isRowGood_10 : decode cX0_isRowGood 10 = .ok (.iadd, 1) := by decide +kernel
theorem dX0_isRowGood_11 : decode cX0_isRowGood 11 = .ok (.bipush 11, 2) := by decide +kernel
theorem dX0_isRowGood_13 : decode cX0_isRowGood 13 = .ok (.iadd, 1) := by decide +kernel
theorem dX0_isRowGood_14 : decode cX0_isRowGood 14 = .ok (.istore 5, 2) := by decide +kernel
theorem dX0_isRowGood_16 : decode cX0_isRowGood 16 = .ok (.iload 4, 2) := by decide +kernel
theorem dX0_isRowGood_18 : decode cX0_isRowGood 18 = .ok (.iconst 1, 1) := by decide +kernel
theorem dX0_isRowGood_19 : decode cX0_isRowGood 19 = .ok (.if_icmp .lt 26, 3) := by decide +kernel
theorem dX0_isRowGood_22 : decode cX0_isRowGood 22 = .ok (.iload 4, 2) := by decide +kernel
theorem dX0_isRowGood_24 : decode cX0_isRowGood 24 = .ok (.bipush 64, 2) := by decide +kernel
theorem dX0_isRowGood_26 : decode cX0_isRowGood 26 = .ok (.if_icmp .gt 19, 3) := by decide +kernel
theorem dX0_isRowGood_29 : decode cX0_isRowGood 29 = .ok (.iload 5, 2) := by decide +kernel
theorem dX0_isRowGood_31 : decode cX0_isRowGood 31 = .ok (.aload_n 0, 1) := by decide +kernel
theorem dX0_isRowGood_32 : decode cX0_isRowGood 32 = .ok (.invokevirtual 21, 3) := by decide +kernel
theorem dX0_isRowGood_35 : decode cX0_isRowGood 35 = .ok (.if_icmp .gt 10, 3) := by decide +kernel
theorem dX0_isRowGood_38 : decode cX0_isRowGood 38 = .ok (.iload_n 2, 1) := by decide +kernel
theorem dX0_isRowGood_39 : decode cX0_isRowGood 39 = .ok (.sipush 600, 3) := by decide +kernel
theorem dX0_isRowGood_42 : decode cX0_isRowGood 42 = .ok (.if_icmp .lt 5, 3) := by decide +kernel
theorem dX0_isRowGood_45 : decode cX0_isRowGood 45 = .ok (.iconst 0, 1) := by decide +kernel
theorem dX0_isRowGood_46 : decode cX0_isRowGood 46 = .ok (.ireturn, 1) := by decide +kernel
theorem dX0_isRowGood_47 : decode cX0_isRowGood 47 = .ok (.aload_n 0, 1) := by decide +kernel
theorem dX0_isRowGood_48 : decode cX0_isRowGood 48 = .ok (.iload_n 1, 1) := by decide +kernel
theorem dX0_isRowGood_49 : decode cX0_isRowGood 49 = .ok (.iconst 1, 1) := by decide +kernel
theorem dX0_isRowGood_50 : decode cX0_isRowGood 50 = .ok (.iadd, 1) := by decide +kernel
theorem dX0_isRowGood_51 : decode cX0_isRowGood 51 = .ok (.iconst 4, 1) := by decide +kernel
theorem dX0_isRowGood_52 : decode cX0_isRowGood 52 = .ok (.invokevirtual 59, 3) := by decide +kernel
theorem dX0_isRowGood_55 : decode cX0_isRowGood 55 = .ok (.istore 6, 2) := by decide +kernel
theorem dX0_isRowGood_57 : decode cX0_isRowGood 57 = .ok (.iload 6, 2) := by decide +kernel
theorem dX0_isRowGood_59 : decode cX0_isRowGood 59 = .ok (.iload_n 3, 1) := by decide +kernel
theorem dX0_isRowGood_60 : decode cX0_isRowGood 60 = .ok (.if_icmp .lt 10, 3) := by decide +kernel
theorem dX0_isRowGood_63 : decode cX0_isRowGood 63 = .ok (.iload 6, 2) := by decide +kernel
theorem dX0_isRowGood_65 : decode cX0_isRowGood 65 = .ok (.ldc 66, 2) := by decide +kernel
theorem dX0_isRowGood_67 : decode cX0_isRowGood 67 = .ok (.if_icmp .le 5, 3) := by decide +kernel
theorem dX0_isRowGood_70 : decode cX0_isRowGood 70 = .ok (.iconst 0, 1) := by decide +kernel
theorem dX0_isRowGood_71 : decode cX0_isRowGood 71 = .ok (.ireturn, 1) := by decide +kernel
theorem dX0_isRowGood_72 : decode cX0_isRowGood 72 = .ok (.iload 5, 2) := by decide +kernel
theorem dX0_isRowGood_74 : decode cX0_isRowGood 74 = .ok (.iconst 4, 1) := by decide +kernel
theorem dX0_isRowGood_75 : decode cX0_isRowGood 75 = .ok (.isub, 1) := by decide +kernel
theorem dX0_isRowGood_76 : decode cX0_isRowGood 76 = .ok (.istore 7, 2) := by decide +kernel
theorem dX0_isRowGood_78 : decode cX0_isRowGood 78 = .ok (.aload_n 0, 1) := by decide +kernel
theorem dX0_isRowGood_79 : decode cX0_isRowGood 79 = .ok (.iload 7, 2) := by decide +kernel
theorem dX0_isRowGood_81 : decode cX0_isRowGood 81 = .ok (.iconst 2, 1) := by decide +kernel
theorem dX0_isRowGood_82 : decode cX0_isRowGood 82 = .ok (.isub, 1) := by decide +kernel
theorem dX0_isRowGood_83 : decode cX0_isRowGood 83 = .ok (.iconst 2, 1) := by decide +kernel
theorem dX0_isRowGood_84 : decode cX0_isRowGood 84 = .ok (.invokevirtual 59, 3) := by decide +kernel
theorem dX0_isRowGood_87 : decode cX0_isRowGood 87 = .ok (.iload_n 2, 1) := by decide +kernel
theorem dX0_isRowGood_88 : decode cX0_isRowGood 88 = .ok (.if_icmp .ne 25, 3) := by decide +kernel
theorem dX0_isRowGood_91 : decode cX0_isRowGood 91 = .ok (.aload_n 0, 1) := by decide +kernel
theorem dX0_isRowGood_92 : decode cX0_isRowGood 92 = .ok (.iload 7, 2) := by decide +kernel
theorem dX0_isRowGood_94 : decode cX0_isRowGood 94 = .ok (.iconst 4, 1) := by decide +kernel
theorem dX0_isRowGood_95 : decode cX0_isRowGood 95 = .ok (.invokevirtual 59, 3) := by decide +kernel
theorem dX0_isRowGood_98 : decode cX0_isRowGood 98 = .ok (.aload_n 0, 1) := by decide +kernel
theorem dX0_isRowGood_99 : decode cX0_isRowGood 99 = .ok (.iload_n 1, 1) := by decide +kernel
theorem dX0_isRowGood_100 : decode cX0_isRowGood 100 = .ok (.iload 7, 2) := by decide +kernel
theorem dX0_isRowGood_102 : decode cX0_isRowGood 102 = .ok (.iconst 0, 1) := by decide +kernel
theorem dX0_isRowGood_103 : decode cX0_isRowGood 103 = .ok (.invokevirtual 30, 3) := by decide +kernel
theorem dX0_isRowGood_106 : decode cX0_isRowGood 106 = .ok (.if_icmp .ne 7, 3) := by decide +kernel
theorem dX0_isRowGood_109 : decode cX0_isRowGood 109 = .ok (.iconst 1, 1) := by decide +kernel
theorem dX0_isRowGood_110 : decode cX0_isRowGood 110 = .ok (.goto 4, 3) := by decide +kernel
theorem dX0_isRowGood_113 : decode cX0_isRowGood 113 = .ok (.iconst 0, 1) := by decide +kernel
theorem dX0_isRowGood_114 : decode cX0_isRowGood 114 = .ok (.ireturn, 1) := by decide +kernel
theorem dX0_isEndGood_0 : decode cX0_isEndGood 0 = .ok (.iload_n 1, 1) := by decide +kernel
theorem dX0_isEndGood_1 : decode cX0_isEndGood 1 = .ok (.bipush 6, 2) := by decide +kernel
theorem dX0_isEndGood_3 : decode cX0_isEndGood 3 = .ok (.iadd, 1) := by decide +kernel
theorem dX0_isEndGood_4 : decode cX0_isEndGood 4 = .ok (.aload_n 0, 1) := by decide +kernel
theorem dX0_isEndGood_5 : decode cX0_isEndGood 5 = .ok (.invokevirtual 21, 3) := by decide +kernel
theorem dX0_isEndGood_8 : decode cX0_isEndGood 8 = .ok (.if_icmp .gt 22, 3) := by decide +kernel
theorem dX0_isEndGood_11 : decode cX0_isEndGood 11 = .ok (.aload_n 0, 1) := by decide +kernel
theorem dX0_isEndGood_12 : decode cX0_isEndGood 12 = .ok (.iload_n 1, 1) := by decide +kernel
theorem dX0_isEndGood_13 : decode cX0_isEndGood 13 = .ok (.invokevirtual 52, 3) := by decide +kernel
theorem dX0_isEndGood_16 : decode cX0_isEndGood 16 = .ok (.ifCond .ne 14, 3) := by decide +kernel
theorem dX0_isEndGood_19 : decode cX0_isEndGood 19 = .ok (.aload_n 0, 1) := by decide +kernel
theorem dX0_isEndGood_20 : decode cX0_isEndGood 20 = .ok (.iload_n 1, 1) := by decide +kernel
theorem dX0_isEndGood_21 : decode cX0_isEndGood 21 = .ok (.iconst 1, 1) := by decide +kernel
theorem dX0_isEndGood_22 : decode cX0_isEndGood 22 = .ok (.iadd, 1) := by decide +kernel
theorem dX0_isEndGood_23 : decode cX0_isEndGood 23 = .ok (.invokevirtual 52, 3) := by decide +kernel
theorem dX0_isEndGood_26 : decode cX0_isEndGood 26 = .ok (.iload_n 2, 1) := by decide +kernel
theorem dX0_isEndGood_27 : decode cX0_isEndGood 27 = .ok (.if_icmp .eq 5, 3) := by decide +kernel
theorem dX0_isEndGood_30 : decode cX0_isEndGood 30 = .ok (.iconst 0, 1) := by decide +kernel
theorem dX0_isEndGood_31 : decode cX0_isEndGood 31 = .ok (.ireturn, 1) := by decide +kernel
theorem dX0_isEndGood_32 : decode cX0_isEndGood 32 = .ok (.aload_n 0, 1) := by decide +kernel
theorem dX0_isEndGood_33 : decode cX0_isEndGood 33 = .ok (.iload_n 1, 1) := by decide +kernel
theorem dX0_isEndGood_34 : decode cX0_isEndGood 34 = .ok (.iconst 4, 1) := by decide +kernel
theorem dX0_isEndGood_35 : decode cX0_isEndGood 35 = .ok (.isub, 1) := by decide +kernel
theorem dX0_isEndGood_36 : decode cX0_isEndGood 36 = .ok (.iconst 4, 1) := by decide +kernel
theorem dX0_isEndGood_37 : decode cX0_isEndGood 37 = .ok (.invokevirtual 59, 3) := by decide +kernel
theorem dX0_isEndGood_40 : decode cX0_isEndGood 40 = .ok (.istore_n 3, 1) := by decide +kernel
theorem dX0_isEndGood_41 : decode cX0_isEndGood 41 = .ok (.aload_n 0, 1) := by decide +kernel
theorem dX0_isEndGood_42 : decode cX0_isEndGood 42 = .ok (.iload_n 1, 1) := by decide +kernel
theorem dX0_isEndGood_43 : decode cX0_isEndGood 43 = .ok (.iconst 2, 1) := by decide +kernel
theorem dX0_isEndGood_44 : decode cX0_isEndGood 44 = .ok (.iadd, 1) := by decide +kernel
theorem dX0_isEndGood_45 : decode cX0_isEndGood 45 = .ok (.iconst 4, 1) := by decide +kernel
theorem dX0_isEndGood_46 : decode cX0_isEndGood 46 = .ok (.invokevirtual 59, 3) := by decide +kernel
theorem dX0_isEndGood_49 : decode cX0_isEndGood 49 = .ok (.aload_n 0, 1) := by decide +kernel
theorem dX0_isEndGood_50 : decode cX0_isEndGood 50 = .ok (.iload_n 1, 1) := by decide +kernel
theorem dX0_isEndGood_51 : decode cX0_isEndGood 51 = .ok (.iload_n 1, 1) := by decide +kernel
theorem dX0_isEndGood_52 : decode cX0_isEndGood 52 = .ok (.iconst 2, 1) := by decide +kernel
theorem dX0_isEndGood_53 : decode cX0_isEndGood 53 = .ok (.iadd, 1) := by decide +kernel
theorem dX0_isEndGood_54 : decode cX0_isEndGood 54 = .ok (.iload_n 3, 1) := by decide +kernel
theorem dX0_isEndGood_55 : decode cX0_isEndGood 55 = .ok (.invokevirtual 30, 3) := by decide +kernel
theorem dX0_isEndGood_58 : decode cX0_isEndGood 58 = .ok (.if_icmp .ne 7, 3) := by decide +kernel
theorem dX0_isEndGood_61 : decode cX0_isEndGood 61 = .ok (.iconst 1, 1) := by decide +kernel
theorem dX0_isEndGood_62 : decode cX0_isEndGood 62 = .ok (.goto 4, 3) := by decide +kernel
theorem dX0_isEndGood_65 : decode cX0_isEndGood 65 = .ok (.iconst 0, 1) := by decide +kernel
theorem dX0_isEndGood_66 : decode cX0_isEndGood 66 = .ok (.ireturn, 1) := by decide +kernel
theorem dX0_read_0 : decode cX0_read 0 = .ok (.iload_n 1, 1) := by decide +kernel
theorem dX0_read_1 : decode cX0_read 1 = .ok (.istore 4, 2) := by decide +kernel
theorem dX0_read_3 : decode cX0_read 3 = .ok (.aload_n 0, 1) := by decide +kernel
theorem dX0_read_4 : decode cX0_read 4 = .ok (.iload_n 2, 1) := by decide +kernel
theorem dX0_read_5 : decode cX0_read 5 = .ok (.bipush 6, 2) := by decide +kernel
theorem dX0_read_7 : decode cX0_read 7 = .ok (.isub, 1) := by decide +kernel
theorem dX0_read_8 : decode cX0_read 8 = .ok (.iconst 1, 1) := by decide +kernel
theorem dX0_read_9 : decode cX0_read 9 = .ok (.iadd, 1) := by decide +kernel
theorem dX0_read_10 : decode cX0_read 10 = .ok (.invokevirtual 52, 3) := by decide +kernel
theorem dX0_read_13 : decode cX0_read 13 = .ok (.istore 5, 2) := by decide +kernel
theorem dX0_read_15 : decode cX0_read 15 = .ok (.iconst 0, 1) := by decide +kernel
theorem dX0_read_16 : decode cX0_read 16 = .ok (.istore 6, 2) := by decide +kernel
theorem dX0_read_18 : decode cX0_read 18 = .ok (.iload 6, 2) := by decide +kernel
theorem dX0_read_20 : decode cX0_read 20 = .ok (.iload 5, 2) := by decide +kernel
theorem dX0_read_22 : decode cX0_read 22 = .ok (.if_icmp .ge 77, 3) := by decide +kernel
theorem dX0_read_25 : decode cX0_read 25 = .ok (.aload_n 0, 1) := by decide +kernel
theorem dX0_read_26 : decode cX0_read 26 = .ok (.iload 4, 2) := by decide +kernel
theorem dX0_read_28 : decode cX0_read 28 = .ok (.invokevirtual 52, 3) := by decide +kernel
theorem dX0_read_31 : decode cX0_read 31 = .ok (.istore 7, 2) := by decide +kernel
theorem dX0_read_33 : decode cX0_read 33 = .ok (.iload 4, 2) := by decide +kernel
theorem dX0_read_35 : decode cX0_read 35 = .ok (.iconst 1, 1) := by decide +kernel
theorem dX0_read_36 : decode cX0_read 36 = .ok (.iadd, 1) := by decide +kernel
theorem dX0_read_37 : decode cX0_read 37 = .ok (.iconst 4, 1) := by decide +kernel
theorem dX0_read_38 : decode cX0_read 38 = .ok (.iadd, 1) := by decide +kernel
theorem dX0_read_39 : decode cX0_read 39 = .ok (.istore 8, 2) := by decide +kernel
theorem dX0_read_41 : decode cX0_read 41 = .ok (.aload_n 3, 1) := by decide +kernel
theorem dX0_read_42 : decode cX0_read 42 = .ok (.aload_n 0, 1) := by decide +kernel
theorem dX0_read_43 : decode cX0_read 43 = .ok (.iload 4, 2) := by decide +kernel
theorem dX0_read_45 : decode cX0_read 45 = .ok (.iconst 1, 1) := by decide +kernel
theorem dX0_read_46 : decode cX0_read 46 = .ok (.iadd, 1) := by decide +kernel
theorem dX0_read_47 : decode cX0_read 47 = .ok (.iconst 4, 1) := by decide +kernel
theorem dX0_read_48 : decode cX0_read 48 = .ok (.invokevirtual 59, 3) := by decide +kernel
theorem dX0_read_51 : decode cX0_read 51 = .ok (.invokevirtual 67, 3) := by decide +kernel
theorem dX0_read_54 : decode cX0_read 54 = .ok (.iconst 0, 1) := by decide +kernel
theorem dX0_read_55 : decode cX0_read 55 = .ok (.istore 9, 2) := by decide +kernel
theorem dX0_read_57 : decode cX0_read 57 = .ok (.iload 9, 2) := by decide +kernel
theorem dX0_read_59 : decode cX0_read 59 = .ok (.iload 7, 2) := by decide +kernel
theorem dX0_read_61 : decode cX0_read 61 = .ok (.if_icmp .ge 22, 3) := by decide +kernel
theorem dX0_read_64 : decode cX0_read 64 = .ok (.aload_n 3, 1) := by decide +kernel
theorem dX0_read_65 : decode cX0_read 65 = .ok (.aload_n 0, 1) := by decide +kernel
theorem dX0_read_66 : decode cX0_read 66 = .ok (.iload 8, 2) := by decide +kernel
theorem dX0_read_68 : decode cX0_read 68 = .ok (.iload 9, 2) := by decide +kernel
theorem dX0_read_70 : decode cX0_read 70 = .ok (.iadd, 1) := by decide +kernel
theorem dX0_read_71 : decode cX0_read 71 = .ok (.invokevirtual 52, 3) := by decide +kernel
theorem dX0_read_74 : decode cX0_read 74 = .ok (.invokevirtual 70, 3) := by decide +kernel
theorem dX0_read_77 : decode cX0_read 77 = .ok (.iinc 9 1, 3) := by decide +kernel
theorem dX0_read_80 : decode cX0_read 80 = .ok (.goto (-23), 3) := by decide +kernel
theorem dX0_read_83 : decode cX0_read 83 = .ok (.iload 4, 2) := by decide +kernel
theorem dX0_read_85 : decode cX0_read 85 = .ok (.iload 7, 2) := by decide +kernel
theorem dX0_read_87 : decode cX0_read 87 = .ok (.bipush 11, 2) := by decide +kernel
theorem dX0_read_89 : decode cX0_read 89 = .ok (.iadd, 1) := by decide +kernel
theorem dX0_read_90 : decode cX0_read 90 = .ok (.iadd, 1) := by decide +kernel
theorem dX0_read_91 : decode cX0_read 91 = .ok (.istore 4, 2) := by decide +kernel
theorem dX0_read_93 : decode cX0_read 93 = .ok (.iinc 6 1, 3) := by decide +kernel
theorem dX0_read_96 : decode cX0_read 96 = .ok (.goto (-78), 3) := by decide +kernel
theorem dX0_read_99 : decode cX0_read 99 = .ok (.aload_n 3, 1) := by decide +kernel
theorem dX0_read_100 : decode cX0_read 100 = .ok (.invokevirtual 73, 3) := by decide +kernel
theorem dX0_read_103 : decode cX0_read 103 = .ok (.return_, 1) := by decide +kernel
end
section
theorem dX1_init_0 : decode cX1_init 0 = .ok (.aload_n 0, 1) := by decide +kernel
theorem dX1_init_1 : decode cX1_init 1 = .ok (.invokespecial 3, 3) := by decide +kernel
theorem dX1_init_4 : decode cX1_init 4 = .ok (.aload_n 0, 1) := by decide +kernel
theorem dX1_init_5 : decode cX1_init 5 = .ok (.sipush 8192, 3) := by decide +kernel
theorem dX1_init_8 : decode cX1_init 8 = .ok (.newarray .byte, 2) := by decide +kernel
theorem dX1_init_10 : decode cX1_init 10 = .ok (.putfield 9, 3) := by decide +kernel
theorem dX1_init_13 : decode cX1_init 13 = .ok (.return_, 1) := by decide +kernel
theorem dX1_size_0 : decode cX1_size 0 = .ok (.aload_n 0, 1) := by decide +kernel
theorem dX1_size_1 : decode cX1_size 1 = .ok (.getfield 15, 3) := by decide +kernel
theorem dX1_size_4 : decode cX1_size 4 = .ok (.ireturn, 1) := by decide +kernel
theorem dX1_hasRoomFor_0 : decode cX1_hasRoomFor 0 = .ok (.iload_n 1, 1) := by decide +kernel
theorem dX1_hasRoomFor_1 : decode cX1_hasRoomFor 1 = .ok (.aload_n 0, 1) := by decide +kernel
theorem dX1_hasRoomFor_2 : decode cX1_hasRoomFor 2 = .ok (.getfield 9, 3) := by decide +kernel
theorem dX1_hasRoomFor_5 : decode cX1_hasRoomFor 5 = .ok (.arraylength, 1) := by decide +kernel
theorem dX1_hasRoomFor_6 : decode cX1_hasRoomFor 6 = .ok (.aload_n 0, 1) := by decide +kernel
theorem dX1_hasRoomFor_7 : decode cX1_hasRoomFor 7 = .ok (.getfield 15, 3) := by decide +kernel
theorem dX1_hasRoomFor_10 : decode cX1_hasRoomFor 10 = .ok (.isub, 1) := by decide +kernel
theorem dX1_hasRoomFor_11 : decode cX1_hasRoomFor 11 = .ok (.if_icmp .gt 7, 3) := by decide +kernel
theorem dX1_hasRoomFor_14 : decode cX1_hasRoomFor 14 = .ok (.iconst 1, 1) := by decide +kernel
theorem dX1_hasRoomFor_15 : decode cX1_hasRoomFor 15 = .ok (.goto 4, 3) := by decide +kernel
theorem dX1_hasRoomFor_18 : decode cX1_hasRoomFor 18 = .ok (.iconst 0, 1) := by decide +kernel
theorem dX1_hasRoomFor_19 : decode cX1_hasRoomFor 19 = .ok (.ireturn, 1) := by decide +kernel
theorem dX1_get_0 : decode cX1_get 0 = .ok (.iload_n 1, 1) := by decide +kernel
theorem dX1_get_1 : decode cX1_get 1 = .ok (.ifCond .lt 33, 3) := by decide +kernel
theorem dX1_get_4 : decode cX1_get 4 = .ok (.iload_n 1, 1) := by decide +kernel
theorem dX1_get_5 : decode cX1_get 5 = .ok (.aload_n 0, 1) := by decide +kernel
theorem dX1_get_6 : decode cX1_get 6 = .ok (.getfield 15, 3) := by decide +kernel
theorem dX1_get_9 : decode cX1_get 9 = .ok (.if_icmp .ge 25, 3) := by decide +kernel
theorem dX1_get_12 : decode cX1_get 12 = .ok (.iload_n 1, 1) := by decide +kernel
theorem dX1_get_13 : decode cX1_get 13 = .ok (.aload_n 0, 1) := by decide +kernel
theorem dX1_get_14 : decode cX1_get 14 = .ok (.getfield 9, 3) := by decide +kernel
theorem dX1_get_17 : decode cX1_get 17 = .ok (.arraylength, 1) := by decide +kernel
theorem dX1_get_18 : decode cX1_get 18 = .ok (.if_icmp .ge 16, 3) := by decide +kernel
theorem dX1_get_21 : decode cX1_get 21 = .ok (.aload_n 0, 1) := by decide +kernel
theorem dX1_get_22 : decode cX1_get 22 = .ok (.getfield 9, 3) := by decide +kernel
theorem dX1_get_25 : decode cX1_get 25 = .ok (.iload_n 1, 1) := by decide +kernel
theorem dX1_get_26 : decode cX1_get 26 = .ok (.baload, 1) := by decide +kernel
theorem dX1_get_27 : decode cX1_get 27 = .ok (.sipush 255, 3) := by decide +kernel
theorem dX1_get_30 : decode cX1_get 30 = .ok (.iand, 1) := by decide +kernel
theorem dX1_get_31 : decode cX1_get 31 = .ok (.goto 4, 3) := by decide +kernel
theorem dX1_get_34 : decode cX1_get 34 = .ok (.iconst (-1), 1) := by decide +kernel
theorem dX1_get_35 : decode cX1_get 35 = .ok (.ireturn, 1) := by decide +kernel
theorem dX1_add_0 : decode cX1_add 0 = .ok (.aload_n 0, 1) := by decide +kernel
theorem dX1_add_1 : decode cX1_add 1 = .ok (.getfield 15, 3) := by decide +kernel
theorem dX1_add_4 : decode cX1_add 4 = .ok (.ifCond .lt 36, 3) := by decide +kernel
theorem dX1_add_7 : decode cX1_add 7 = .ok (.aload_n 0, 1) := by decide +kernel
theorem dX1_add_8 : decode cX1_add 8 = .ok (.getfield 15, 3) := by decide +kernel
theorem dX1_add_11 : decode cX1_add 11 = .ok (.aload_n 0, 1) := by decide +kernel
theorem dX1_add_12 : decode cX1_add 12 = .ok (.getfield 9, 3) := by decide +kernel
theorem dX1_add_15 : decode cX1_add 15 = .ok (.arraylength, 1) := by decide +kernel
theorem dX1_add_16 : decode cX1_add 16 = .ok (.if_icmp .ge 24, 3) := by decide +kernel
theorem dX1_add_19 : decode cX1_add 19 = .ok (.aload_n 0, 1) := by decide +kernel
theorem dX1_add_20 : decode cX1_add 20 = .ok (.getfield 9, 3) := by decide +kernel
theorem dX1_add_23 : decode cX1_add 23 = .ok (.aload_n 0, 1) := by decide +kernel
theorem dX1_add_24 : decode cX1_add 24 = .ok (.getfield 15, 3) := by decide +kernel
theorem dX1_add_27 : decode cX1_add 27 = .ok (.iload_n 1, 1) := by decide +kernel
theorem dX1_add_28 : decode cX1_add 28 = .ok (.i2b, 1) := by decide +kernel
theorem dX1_add_29 : decode cX1_add 29 = .ok (.bastore, 1) := by decide +kernel
theorem dX1_add_30 : decode cX1_add 30 = .ok (.aload_n 0, 1) := by decide +kernel
theorem dX1_add_31 : decode cX1_add 31 = .ok (.dup, 1) := by decide +kernel
theorem dX1_add_32 : decode cX1_add 32 = .ok (.getfield 15, 3) := by decide +kernel
theorem dX1_add_35 : decode cX1_add 35 = .ok (.iconst 1, 1) := by decide +kernel
theorem dX1_add_36 : decode cX1_add 36 = .ok (.iadd, 1) := by decide +kernel
theorem dX1_add_37 : decode cX1_add 37 = .ok (.putfield 15, 3) := by decide +kernel
theorem dX1_add_40 : decode cX1_add 40 = .ok (.return_, 1) := by decide +kernel
theorem dX1_addNumber_0 : decode cX1_addNumber 0 = .ok (.iload_n 2, 1) := by decide +kernel
theorem dX1_addNumber_1 : decode cX1_addNumber 1 = .ok (.iconst 1, 1) := by decide +kernel
theorem dX1_addNumber_2 : decode cX1_addNumber 2 = .ok (.isub, 1) := by decide +kernel
theorem dX1_addNumber_3 : decode cX1_addNumber 3 = .ok (.istore_n 3, 1) := by decide +kernel
theorem dX1_addNumber_4 : decode cX1_addNumber 4 = .ok (.iload_n 3, 1) := by decide +kernel
theorem dX1_addNumber_5 : decode cX1_addNumber 5 = .ok (.ifCond .lt 19, 3) := by decide +kernel
theorem dX1_addNumber_8 : decode cX1_addNumber 8 = .ok (.aload_n 0, 1) := by decide +kernel
theorem dX1_addNumber_9 : decode cX1_addNumber 9 = .ok (.iload_n 1, 1) := by decide +kernel
theorem dX1_addNumber_10 : decode cX1_addNumber 10 = .ok (.bipush 8, 2) := by decide +kernel
theorem dX1_addNumber_12 : decode cX1_addNumber 12 = .ok (.iload_n 3, 1) := by decide +kernel
theorem dX1_addNumber_13 : decode cX1_addNumber 13 = .ok (.imul, 1) := by decide +kernel
theorem dX1_addNumber_14 : decode cX1_addNumber 14 = .ok (.iushr, 1) := by decide +kernel
theorem dX1_addNumber_15 : decode cX1_addNumber 15 = .ok (.invokevirtual 19, 3) := by decide +kernel
theorem dX1_addNumber_18 : decode cX1_addNumber 18 = .ok (.iinc 3 (-1), 3) := by decide +kernel
theorem dX1_addNumber_21 : decode cX1_addNumber 21 = .ok (.goto (-17), 3) := by decide +kernel
theorem dX1_addNumber_24 : decode cX1_addNumber 24 = .ok (.return_, 1) := by decide +kernel
theorem dX1_number_0 : decode cX1_number 0 = .ok (.iconst 0, 1) := by decide +kernel
theorem dX1_number_1 : decode cX1_number 1 = .ok (.istore_n 3, 1) := by decide +kernel
theorem dX1_number_2 : decode cX1_number 2 = .ok (.iconst 0, 1) := by decide +kernel
theorem dX1_number_3 : decode cX1_number 3 = .ok (.istore 4, 2) := by decide +kernel
theorem dX1_number_5 : decode cX1_number 5 = .ok (.iload 4, 2) := by decide +kernel
theorem dX1_number_7 : decode cX1_number 7 = .ok (.iload_n 2, 1) := by decide +kernel
theorem dX1_number_8 : decode cX1_number 8 = .ok (.if_icmp .ge 27, 3) := by decide +kernel
theorem dX1_number_11 : decode cX1_number 11 = .ok (.iload_n 3, 1) := by decide +kernel
theorem dX1_number_12 : decode cX1_number 12 = .ok (.bipush 8, 2) := by decide +kernel
theorem dX1_number_14 : decode cX1_number 14 = .ok (.ishl, 1) := by decide +kernel
theorem dX1_number_15 : decode cX1_number 15 = .ok (.aload_n 0, 1) := by decide +kernel
theorem dX1_number_16 : decode cX1_number 16 = .ok (.iload_n 1, 1) := by decide +kernel
theorem dX1_number_17 : decode cX1_number 17 = .ok (.iload 4, 2) := by decide +kernel
theorem dX1_number_19 : decode cX1_number 19 = .ok (.iadd, 1) := by decide +kernel
theorem dX1_number_20 : decode cX1_number 20 = .ok (.invokevirtual 23, 3) := by decide +kernel
theorem dX1_number_23 : decode cX1_number 23 = .ok (.sipush 255, 3) := by decide +kernel
theorem dX1_number_26 : decode cX1_number 26 = .ok (.iand, 1) := by decide +kernel
theorem dX1_number_27 : decode cX1_number 27 = .ok (.ior, 1) := by decide +kernel
theorem dX1_number_28 : decode cX1_number 28 = .ok (.istore_n 3, 1) := by decide +kernel
theorem dX1_number_29 : decode cX1_number 29 = .ok (.iinc 4 1, 3) := by decide +kernel
theorem dX1_number_32 : decode cX1_number 32 = .ok (.goto (-27), 3) := by decide +kernel
theorem dX1_number_35 : decode cX1_number 35 = .ok (.iload_n 3, 1) := by decide +kernel
theorem dX1_number_36 : decode cX1_number 36 = .ok (.ireturn, 1) := by decide +kernel
theorem dX1_sumOf_0 : decode cX1_sumOf 0 = .ok (.iload_n 3, 1) := by decide +kernel
theorem dX1_sumOf_1 : decode cX1_sumOf 1 = .ok (.istore 4, 2) := by decide +kernel
theorem dX1_sumOf_3 : decode cX1_sumOf 3 = .ok (.iload_n 1, 1) := by decide +kernel
theorem dX1_sumOf_4 : decode cX1_sumOf 4 = .ok (.istore 5, 2) := by decide +kernel
theorem dX1_sumOf_6 : decode cX1_sumOf 6 = .ok (.iload 5, 2) := by decide +kernel
theorem dX1_sumOf_8 : decode cX1_sumOf 8 = .ok (.iload_n 2, 1) := by decide +kernel
theorem dX1_sumOf_9 : decode cX1_sumOf 9 = .ok (.if_icmp .ge 32, 3) := by decide +kernel
theorem dX1_sumOf_12 : decode cX1_sumOf 12 = .ok (.iload 4, 2) := by decide +kernel
theorem dX1_sumOf_14 : decode cX1_sumOf 14 = .ok (.aload_n 0, 1) := by decide +kernel
theorem dX1_sumOf_15 : decode cX1_sumOf 15 = .ok (.iload 5, 2) := by decide +kernel
theorem dX1_sumOf_17 : decode cX1_sumOf 17 = .ok (.invokevirtual 23, 3) := by decide +kernel
theorem dX1_sumOf_20 : decode cX1_sumOf 20 = .ok (.sipush 255, 3) := by decide +kernel
theorem dX1_sumOf_23 : decode cX1_sumOf 23 = .ok (.iand, 1) := by decide +kernel
theorem dX1_sumOf_24 : decode cX1_sumOf 24 = .ok (.ixor, 1) := by decide +kernel
theorem dX1_sumOf_25 : decode cX1_sumOf 25 = .ok (.bipush 13, 2) := by decide +kernel
theorem dX1_sumOf_27 : decode cX1_sumOf 27 = .ok (.invokestatic 27, 3) := by decide +kernel
theorem dX1_sumOf_30 : decode cX1_sumOf 30 = .ok (.ldc 33, 2) := by decide +kernel
theorem dX1_sumOf_32 : decode cX1_sumOf 32 = .ok (.imul, 1) := by decide +kernel
theorem dX1_sumOf_33 : decode cX1_sumOf 33 = .ok (.istore 4, 2) := by decide +kernel
theorem dX1_sumOf_35 : decode cX1_sumOf 35 = .ok (.iinc 5 1, 3) := by decide +kernel
theorem dX1_sumOf_38 : decode cX1_sumOf 38 = .ok (.goto (-32), 3) := by decide +kernel
theorem dX1_sumOf_41 : decode cX1_sumOf 41 = .ok (.iload 4, 2) := by decide +kernel
theorem dX1_sumOf_43 : decode cX1_sumOf 43 = .ok (.ireturn, 1) := by decide +kernel
theorem dX1_alter_0 : decode cX1_alter 0 = .ok (.iload_n 1, 1) := by decide +kernel
theorem dX1_alter_1 : decode cX1_alter 1 = .ok (.ifCond .lt 35, 3) := by decide +kernel
theorem dX1_alter_4 : decode cX1_alter 4 = .ok (.iload_n 1, 1) := by decide +kernel
theorem dX1_alter_5 : decode cX1_alter 5 = .ok (.aload_n 0, 1) := by decide +kernel
theorem dX1_alter_6 : decode cX1_alter 6 = .ok (.getfield 15, 3) := by decide +kernel
theorem dX1_alter_9 : decode cX1_alter 9 = .ok (.if_icmp .ge 27, 3) := by decide +kernel
theorem dX1_alter_12 : decode cX1_alter 12 = .ok (.iload_n 1, 1) := by decide +kernel
theorem dX1_alter_13 : decode cX1_alter 13 = .ok (.aload_n 0, 1) := by decide +kernel
theorem dX1_alter_14 : decode cX1_alter 14 = .ok (.getfield 9, 3) := by decide +kernel
theorem dX1_alter_17 : decode cX1_alter 17 = .ok (.arraylength, 1) := by decide +kernel
theorem dX1_alter_18 : decode cX1_alter 18 = .ok (.if_icmp .ge 18, 3) := by decide +kernel
theorem dX1_alter_21 : decode cX1_alter 21 = .ok (.aload_n 0, 1) := by decide +kernel
theorem dX1_alter_22 : decode cX1_alter 22 = .ok (.getfield 9, 3) := by decide +kernel
theorem dX1_alter_25 : decode cX1_alter 25 = .ok (.iload_n 1, 1) := by decide +kernel
theorem dX1_alter_26 : decode cX1_alter 26 = .ok (.aload_n 0, 1) := by decide +kernel
theorem dX1_alter_27 : decode cX1_alter 27 = .ok (.getfield 9, 3) := by decide +kernel
theorem dX1_alter_30 : decode cX1_alter 30 = .ok (.iload_n 1, 1) := by decide +kernel
theorem dX1_alter_31 : decode cX1_alter 31 = .ok (.baload, 1) := by decide +kernel
theorem dX1_alter_32 : decode cX1_alter 32 = .ok (.iload_n 2, 1) := by decide +kernel
theorem dX1_alter_33 : decode cX1_alter 33 = .ok (.ixor, 1) := by decide +kernel
theorem dX1_alter_34 : decode cX1_alter 34 = .ok (.i2b, 1) := by decide +kernel
theorem dX1_alter_35 : decode cX1_alter 35 = .ok (.bastore, 1) := by decide +kernel
theorem dX1_alter_36 : decode cX1_alter 36 = .ok (.return_, 1) := by decide +kernel
theorem dX1_cutTo_0 : decode cX1_cutTo 0 = .ok (.iload_n 1, 1) := by decide +kernel
theorem dX1_cutTo_1 : decode cX1_cutTo 1 = .ok (.ifCond .lt 16, 3) := by decide +kernel
theorem dX1_cutTo_4 : decode cX1_cutTo 4 = .ok (.iload_n 1, 1) := by decide +kernel
theorem dX1_cutTo_5 : decode cX1_cutTo 5 = .ok (.aload_n 0, 1) := by decide +kernel
theorem dX1_cutTo_6 : decode cX1_cutTo 6 = .ok (.getfield 15, 3) := by decide +kernel
theorem dX1_cutTo_9 : decode cX1_cutTo 9 = .ok (.if_icmp .ge 8, 3) := by decide +kernel
theorem dX1_cutTo_12 : decode cX1_cutTo 12 = .ok (.aload_n 0, 1) := by decide +kernel
theorem dX1_cutTo_13 : decode cX1_cutTo 13 = .ok (.iload_n 1, 1) := by decide +kernel
theorem dX1_cutTo_14 : decode cX1_cutTo 14 = .ok (.putfield 15, 3) := by decide +kernel
theorem dX1_cutTo_17 : decode cX1_cutTo 17 = .ok (.return_, 1) := by decide +kernel
theorem dX1_dropFirst_0 : decode cX1_dropFirst 0 = .ok (.iload_n 1, 1) := by decide +kernel
theorem dX1_dropFirst_1 : decode cX1_dropFirst 1 = .ok (.ifCond .lt 52, 3) := by decide +kernel
theorem dX1_dropFirst_4 : decode cX1_dropFirst 4 = .ok (.iload_n 1, 1) := by decide +kernel
theorem dX1_dropFirst_5 : decode cX1_dropFirst 5 = .ok (.aload_n 0, 1) := by decide +kernel
theorem dX1_dropFirst_6 : decode cX1_dropFirst 6 = .ok (.getfield 15, 3) := by decide +kernel
theorem dX1_dropFirst_9 : decode cX1_dropFirst 9 = .ok (.if_icmp .gt 44, 3) := by decide +kernel
theorem dX1_dropFirst_12 : decode cX1_dropFirst 12 = .ok (.aload_n 0, 1) := by decide +kernel
theorem dX1_dropFirst_13 : decode cX1_dropFirst 13 = .ok (.getfield 15, 3) := by decide +kernel
theorem dX1_dropFirst_16 : decode cX1_dropFirst 16 = .ok (.aload_n 0, 1) := by decide +kernel
theorem dX1_dropFirst_17 : decode cX1_dropFirst 17 = .ok (.getfield 9, 3) := by decide +kernel
theorem dX1_dropFirst_20 : decode cX1_dropFirst 20 = .ok (.arraylength, 1) := by decide +kernel
theorem dX1_dropFirst_21 : decode cX1_dropFirst 21 = .ok (.if_icmp .gt 32, 3) := by decide +kernel
theorem dX1_dropFirst_24 : decode cX1_dropFirst 24 = .ok (.aload_n 0, 1) := by decide +kernel
theorem dX1_dropFirst_25 : decode cX1_dropFirst 25 = .ok (.getfield 9, 3) := by decide +kernel
theorem dX1_dropFirst_28 : decode cX1_dropFirst 28 = .ok (.iload_n 1, 1) := by decide +kernel
theorem dX1_dropFirst_29 : decode cX1_dropFirst 29 = .ok (.aload_n 0, 1) := by decide +kernel
theorem dX1_dropFirst_30 : decode cX1_dropFirst 30 = .ok (.getfield 9, 3) := by decide +kernel
theorem dX1_dropFirst_33 : decode cX1_dropFirst 33 = .ok (.iconst 0, 1) := by decide +kernel
theorem dX1_dropFirst_34 : decode cX1_dropFirst 34 = .ok (.aload_n 0, 1) := by decide +kernel
theorem dX1_dropFirst_35 : decode cX1_dropFirst 35 = .ok (.getfield 15, 3) := by decide +kernel
theorem dX1_dropFirst_38 : decode cX1_dropFirst 38 = .ok (.iload_n 1, 1) := by decide +kernel
theorem dX1_dropFirst_39 : decode cX1_dropFirst 39 = .ok (.isub, 1) := by decide +kernel
theorem dX1_dropFirst_40 : decode cX1_dropFirst 40 = .ok (.invokestatic 34, 3) := by decide +kernel
theorem dX1_dropFirst_43 : decode cX1_dropFirst 43 = .ok (.aload_n 0, 1) := by decide +kernel
theorem dX1_dropFirst_44 : decode cX1_dropFirst 44 = .ok (.dup, 1) := by decide +kernel
theorem dX1_dropFirst_45 : decode cX1_dropFirst 45 = .ok (.getfield 15, 3) := by decide +kernel
theorem dX1_dropFirst_48 : decode cX1_dropFirst 48 = .ok (.iload_n 1, 1) := by decide +kernel
theorem dX1_dropFirst_49 : decode cX1_dropFirst 49 = .ok (.isub, 1) := by decide +kernel
theorem dX1_dropFirst_50 : decode cX1_dropFirst 50 = .ok (.putfield 15, 3) := by decide +kernel
theorem dX1_dropFirst_53 : decode cX1_dropFirst 53 = .ok (.return_, 1) := by decide +kernel
theorem dX1_agrees_0 : decode cX1_agrees 0 = .ok (.iload_n 2, 1) := by decide +kernel
theorem dX1_agrees_1 : decode cX1_agrees 1 = .ok (.istore 4, 2) := by decide +kernel
theorem dX1_agrees_3 : decode cX1_agrees 3 = .ok (.iload 4, 2) := by decide +kernel
theorem dX1_agrees_5 : decode cX1_agrees 5 = .ok (.iload_n 3, 1) := by decide +kernel
theorem dX1_agrees_6 : decode cX1_agrees 6 = .ok (.if_icmp .ge 26, 3) := by decide +kernel
theorem dX1_agrees_9 : decode cX1_agrees 9 = .ok (.aload_n 0, 1) := by decide +kernel
theorem dX1_agrees_10 : decode cX1_agrees 10 = .ok (.iload 4, 2) := by decide +kernel
theorem dX1_agrees_12 : decode cX1_agrees 12 = .ok (.invokevirtual 23, 3) := by decide +kernel
theorem dX1_agrees_15 : decode cX1_agrees 15 = .ok (.aload_n 1, 1) := by decide +kernel
theorem dX1_agrees_16 : decode cX1_agrees 16 = .ok (.iload 4, 2) := by decide +kernel
theorem dX1_agrees_18 : decode cX1_agrees 18 = .ok (.invokevirtual 23, 3) := by decide +kernel
theorem dX1_agrees_21 : decode cX1_agrees 21 = .ok (.if_icmp .eq 5, 3) := by decide +kernel
theorem dX1_agrees_24 : decode cX1_agrees 24 = .ok (.iconst 0, 1) := by decide +kernel
theorem dX1_agrees_25 : decode cX1_agrees 25 = .ok (.ireturn, 1) := by decide +kernel
theorem dX1_agrees_26 : decode cX1_agrees 26 = .ok (.iinc 4 1, 3) := by decide +kernel
theorem dX1_agrees_29 : decode cX1_agrees 29 = .ok (.goto (-26), 3) := by decide +kernel
theorem dX1_agrees_32 : decode cX1_agrees 32 = .ok (.iconst 1, 1) := by decide +kernel
theorem dX1_agrees_33 : decode cX1_agrees 33 = .ok (.ireturn, 1) := by decide +kernel
theorem dX1_copyFrom_0 : decode cX1_copyFrom 0 = .ok (.iload_n 2, 1) := by decide +kernel
theorem dX1_copyFrom_1 : decode cX1_copyFrom 1 = .ok (.istore 4, 2) := by decide +kernel
theorem dX1_copyFrom_3 : decode cX1_copyFrom 3 = .ok (.iload 4, 2) := by decide +kernel
theorem dX1_copyFrom_5 : decode cX1_copyFrom 5 = .ok (.iload_n 3, 1) := by decide +kernel
theorem dX1_copyFrom_6 : decode cX1_copyFrom 6 = .ok (.if_icmp .ge 69, 3) := by decide +kernel
theorem dX1_copyFrom_9 : decode cX1_copyFrom 9 = .ok (.iload 4, 2) := by decide +kernel
theorem dX1_copyFrom_11 : decode cX1_copyFrom 11 = .ok (.aload_n 0, 1) := by decide +kernel
theorem dX1_copyFrom_12 : decode cX1_copyFrom 12 = .ok (.getfield 15, 3) := by decide +kernel
theorem dX1_copyFrom_15 : decode cX1_copyFrom 15 = .ok (.if_icmp .ne 16, 3) := by decide +kernel
theorem dX1_copyFrom_18 : decode cX1_copyFrom 18 = .ok (.aload_n 0, 1) := by decide +kernel
theorem dX1_copyFrom_19 : decode cX1_copyFrom 19 = .ok (.aload_n 1, 1) := by decide +kernel
theorem dX1_copyFrom_20 : decode cX1_copyFrom 20 = .ok (.iload 4, 2) := by decide +kernel
theorem dX1_copyFrom_22 : decode cX1_copyFrom 22 = .ok (.invokevirtual 23, 3) := by decide +kernel
theorem dX1_copyFrom_25 : decode cX1_copyFrom 25 = .ok (.invokevirtual 19, 3) := by decide +kernel
theorem dX1_copyFrom_28 : decode cX1_copyFrom 28 = .ok (.goto 41, 3) := by decide +kernel
theorem dX1_copyFrom_31 : decode cX1_copyFrom 31 = .ok (.iload 4, 2) := by decide +kernel
theorem dX1_copyFrom_33 : decode cX1_copyFrom 33 = .ok (.ifCond .lt 36, 3) := by decide +kernel
theorem dX1_copyFrom_36 : decode cX1_copyFrom 36 = .ok (.iload 4, 2) := by decide +kernel
theorem dX1_copyFrom_38 : decode cX1_copyFrom 38 = .ok (.aload_n 0, 1) := by decide +kernel
theorem dX1_copyFrom_39 : decode cX1_copyFrom 39 = .ok (.getfield 15, 3) := by decide +kernel
theorem dX1_copyFrom_42 : decode cX1_copyFrom 42 = .ok (.if_icmp .ge 27, 3) := by decide +kernel
theorem dX1_copyFrom_45 : decode cX1_copyFrom 45 = .ok (.iload 4, 2) := by decide +kernel
theorem dX1_copyFrom_47 : decode cX1_copyFrom 47 = .ok (.aload_n 0, 1) := by decide +kernel
theorem dX1_copyFrom_48 : decode cX1_copyFrom 48 = .ok (.getfield 9, 3) := by decide +kernel
theorem dX1_copyFrom_51 : decode cX1_copyFrom 51 = .ok (.arraylength, 1) := by decide +kernel
theorem dX1_copyFrom_52 : decode cX1_copyFrom 52 = .ok (.if_icmp .ge 17, 3) := by decide +kernel
theorem dX1_copyFrom_55 : decode cX1_copyFrom 55 = .ok (.aload_n 0, 1) := by decide +kernel
theorem dX1_copyFrom_56 : decode cX1_copyFrom 56 = .ok (.getfield 9, 3) := by decide +kernel
theorem dX1_copyFrom_59 : decode cX1_copyFrom 59 = .ok (.iload 4, 2) := by decide +kernel
theorem dX1_copyFrom_61 : decode cX1_copyFrom 61 = .ok (.aload_n 1, 1) := by decide +kernel
theorem dX1_copyFrom_62 : decode cX1_copyFrom 62 = .ok (.iload 4, 2) := by decide +kernel
theorem dX1_copyFrom_64 : decode cX1_copyFrom 64 = .ok (.invokevirtual 23, 3) := by decide +kernel
theorem dX1_copyFrom_67 : decode cX1_copyFrom 67 = .ok (.i2b, 1) := by decide +kernel
theorem dX1_copyFrom_68 : decode cX1_copyFrom 68 = .ok (.bastore, 1) := by decide +kernel
theorem dX1_copyFrom_69 : decode cX1_copyFrom 69 = .ok (.iinc 4 1, 3) := by decide +kernel
theorem dX1_copyFrom_72 : decode cX1_copyFrom 72 = .ok (.goto (-69), 3) := by decide +kernel
theorem dX1_copyFrom_75 : decode cX1_copyFrom 75 = .ok (.return_, 1) := by decide +kernel
end
section
theorem dX2_init_0 : decode cX2_init 0 = .ok (.aload_n 0, 1) := by decide +kernel
theorem dX2_init_1 : decode cX2_init 1 = .ok (.invokespecial 3, 3) := by decide +kernel
theorem dX2_init_4 : decode cX2_init 4 = .ok (.aload_n 0, 1) := by decide +kernel
theorem dX2_init_5 : decode cX2_init 5 = .ok (.sipush 600, 3) := by decide +kernel
theorem dX2_init_8 : decode cX2_init 8 = .ok (.newarray .int, 2) := by decide +kernel
theorem dX2_init_10 : decode cX2_init 10 = .ok (.putfield 9, 3) := by decide +kernel
theorem dX2_init_13 : decode cX2_init 13 = .ok (.aload_n 0, 1) := by decide +kernel
theorem dX2_init_14 : decode cX2_init 14 = .ok (.sipush 600, 3) := by decide +kernel
theorem dX2_init_17 : decode cX2_init 17 = .ok (.newarray .int, 2) := by decide +kernel
theorem dX2_init_19 : decode cX2_init 19 = .ok (.putfield 15, 3) := by decide +kernel
theorem dX2_init_22 : decode cX2_init 22 = .ok (.aload_n 0, 1) := by decide +kernel
theorem dX2_init_23 : decode cX2_init 23 = .ok (.sipush 600, 3) := by decide +kernel
theorem dX2_init_26 : decode cX2_init 26 = .ok (.newarray .boolean, 2) := by decide +kernel
theorem dX2_init_28 : decode cX2_init 28 = .ok (.putfield 18, 3) := by decide +kernel
theorem dX2_init_31 : decode cX2_init 31 = .ok (.aload_n 0, 1) := by decide +kernel
theorem dX2_init_32 : decode cX2_init 32 = .ok (.ldc 22, 2) := by decide +kernel
theorem dX2_init_34 : decode cX2_init 34 = .ok (.newarray .byte, 2) := by decide +kernel
theorem dX2_init_36 : decode cX2_init 36 = .ok (.putfield 23, 3) := by decide +kernel
theorem dX2_init_39 : decode cX2_init 39 = .ok (.return_, 1) := by decide +kernel
theorem dX2_count_0 : decode cX2_count 0 = .ok (.aload_n 0, 1) := by decide +kernel
theorem dX2_count_1 : decode cX2_count 1 = .ok (.getfield 27, 3) := by decide +kernel
theorem dX2_count_4 : decode cX2_count 4 = .ok (.ireturn, 1) := by decide +kernel
theorem dX2_cutTo_0 : decode cX2_cutTo 0 = .ok (.iload_n 1, 1) := by decide +kernel
theorem dX2_cutTo_1 : decode cX2_cutTo 1 = .ok (.ifCond .lt 16, 3) := by decide +kernel
theorem dX2_cutTo_4 : decode cX2_cutTo 4 = .ok (.iload_n 1, 1) := by decide +kernel
theorem dX2_cutTo_5 : decode cX2_cutTo 5 = .ok (.aload_n 0, 1) := by decide +kernel
theorem dX2_cutTo_6 : decode cX2_cutTo 6 = .ok (.getfield 27, 3) := by decide +kernel
theorem dX2_cutTo_9 : decode cX2_cutTo 9 = .ok (.if_icmp .ge 8, 3) := by decide +kernel
theorem dX2_cutTo_12 : decode cX2_cutTo 12 = .ok (.aload_n 0, 1) := by decide +kernel
theorem dX2_cutTo_13 : decode cX2_cutTo 13 = .ok (.iload_n 1, 1) := by decide +kernel
theorem dX2_cutTo_14 : decode cX2_cutTo 14 = .ok (.putfield 27, 3) := by decide +kernel
theorem dX2_cutTo_17 : decode cX2_cutTo 17 = .ok (.return_, 1) := by decide +kernel
theorem dX2_begin_0 : decode cX2_begin 0 = .ok (.aload_n 0, 1) := by decide +kernel
theorem dX2_begin_1 : decode cX2_begin 1 = .ok (.getfield 27, 3) := by decide +kernel
theorem dX2_begin_4 : decode cX2_begin 4 = .ok (.ifCond .lt 53, 3) := by decide +kernel
theorem dX2_begin_7 : decode cX2_begin 7 = .ok (.aload_n 0, 1) := by decide +kernel
theorem dX2_begin_8 : decode cX2_begin 8 = .ok (.getfield 27, 3) := by decide +kernel
theorem dX2_begin_11 : decode cX2_begin 11 = .ok (.sipush 600, 3) := by decide +kernel
theorem dX2_begin_14 : decode cX2_begin 14 = .ok (.if_icmp .ge 43, 3) := by decide +kernel
theorem dX2_begin_17 : decode cX2_begin 17 = .ok (.aload_n 0, 1) := by decide +kernel
theorem dX2_begin_18 : decode cX2_begin 18 = .ok (.getfield 9, 3) := by decide +kernel
theorem dX2_begin_21 : decode cX2_begin 21 = .ok (.aload_n 0, 1) := by decide +kernel
theorem dX2_begin_22 : decode cX2_begin 22 = .ok (.getfield 27, 3) := by decide +kernel
theorem dX2_begin_25 : decode cX2_begin 25 = .ok (.iload_n 1, 1) := by decide +kernel
theorem dX2_begin_26 : decode cX2_begin 26 = .ok (.iastore, 1) := by decide +kernel
theorem dX2_begin_27 : decode cX2_begin 27 = .ok (.aload_n 0, 1) := by decide +kernel
theorem dX2_begin_28 : decode cX2_begin 28 = .ok (.getfield 15, 3) := by decide +kernel
theorem dX2_begin_31 : decode cX2_begin 31 = .ok (.aload_n 0, 1) := by decide +kernel
theorem dX2_begin_32 : decode cX2_begin 32 = .ok (.getfield 27, 3) := by decide +kernel
theorem dX2_begin_35 : decode cX2_begin 35 = .ok (.iconst 0, 1) := by decide +kernel
theorem dX2_begin_36 : decode cX2_begin 36 = .ok (.iastore, 1) := by decide +kernel
theorem dX2_begin_37 : decode cX2_begin 37 = .ok (.aload_n 0, 1) := by decide +kernel
theorem dX2_begin_38 : decode cX2_begin 38 = .ok (.getfield 18, 3) := by decide +kernel
theorem dX2_begin_41 : decode cX2_begin 41 = .ok (.aload_n 0, 1) := by decide +kernel
theorem dX2_begin_42 : decode cX2_begin 42 = .ok (.getfield 27, 3) := by decide +kernel
theorem dX2_begin_45 : decode cX2_begin 45 = .ok (.iconst 0, 1) := by decide +kernel
theorem dX2_begin_46 : decode cX2_begin 46 = .ok (.bastore, 1) := by decide +kernel
theorem dX2_begin_47 : decode cX2_begin 47 = .ok (.aload_n 0, 1) := by decide +kernel
theorem dX2_begin_48 : decode cX2_begin 48 = .ok (.dup, 1) := by decide +kernel
theorem dX2_begin_49 : decode cX2_begin 49 = .ok (.getfield 27, 3) := by decide +kernel
theorem dX2_begin_52 : decode cX2_begin 52 = .ok (.iconst 1, 1) := by decide +kernel
theorem dX2_begin_53 : decode cX2_begin 53 = .ok (.iadd, 1) := by decide +kernel
theorem dX2_begin_54 : decode cX2_begin 54 = .ok (.putfield 27, 3) := by decide +kernel
theorem dX2_begin_57 : decode cX2_begin 57 = .ok (.return_, 1) := by decide +kernel
theorem dX2_push_0 : decode cX2_push 0 = .ok (.aload_n 0, 1) := by decide +kernel
theorem dX2_push_1 : decode cX2_push 1 = .ok (.getfield 27, 3) := by decide +kernel
theorem dX2_push_4 : decode cX2_push 4 = .ok (.iconst 1, 1) := by decide +kernel
theorem dX2_push_5 : decode cX2_push 5 = .ok (.isub, 1) := by decide +kernel
theorem dX2_push_6 : decode cX2_push 6 = .ok (.istore_n 2, 1) := by decide +kernel
theorem dX2_push_7 : decode cX2_push 7 = .ok (.aload_n 0, 1) := by decide +kernel
theorem dX2_push_8 : decode cX2_push 8 = .ok (.iload_n 2, 1) := by decide +kernel
theorem dX2_push_9 : decode cX2_push 9 = .ok (.invokevirtual 31, 3) := by decide +kernel
theorem dX2_push_12 : decode cX2_push 12 = .ok (.ifCond .ne 4, 3) := by decide +kernel
theorem dX2_push_15 : decode cX2_push 15 = .ok (.return_, 1) := by decide +kernel
theorem dX2_push_16 : decode cX2_push 16 = .ok (.aload_n 0, 1) := by decide +kernel
theorem dX2_push_17 : decode cX2_push 17 = .ok (.getfield 15, 3) := by decide +kernel
theorem dX2_push_20 : decode cX2_push 20 = .ok (.iload_n 2, 1) := by decide +kernel
theorem dX2_push_21 : decode cX2_push 21 = .ok (.iaload, 1) := by decide +kernel
theorem dX2_push_22 : decode cX2_push 22 = .ok (.istore_n 3, 1) := by decide +kernel
theorem dX2_push_23 : decode cX2_push 23 = .ok (.iload_n 3, 1) := by decide +kernel
theorem dX2_push_24 : decode cX2_push 24 = .ok (.ifCond .lt 31, 3) := by decide +kernel
theorem dX2_push_27 : decode cX2_push 27 = .ok (.iload_n 3, 1) := by decide +kernel
theorem dX2_push_28 : decode cX2_push 28 = .ok (.bipush 64, 2) := by decide +kernel
theorem dX2_push_30 : decode cX2_push 30 = .ok (.if_icmp .ge 25, 3) := by decide +kernel
theorem dX2_push_33 : decode cX2_push 33 = .ok (.aload_n 0, 1) := by decide +kernel
theorem dX2_push_34 : decode cX2_push 34 = .ok (.getfield 23, 3) := by decide +kernel
theorem dX2_push_37 : decode cX2_push 37 = .ok (.iload_n 2, 1) := by decide +kernel
theorem dX2_push_38 : decode cX2_push 38 = .ok (.bipush 64, 2) := by decide +kernel
theorem dX2_push_40 : decode cX2_push 40 = .ok (.imul, 1) := by decide +kernel
theorem dX2_push_41 : decode cX2_push 41 = .ok (.iload_n 3, 1) := by decide +kernel
theorem dX2_push_42 : decode cX2_push 42 = .ok (.iadd, 1) := by decide +kernel
theorem dX2_push_43 : decode cX2_push 43 = .ok (.iload_n 1, 1) := by decide +kernel
theorem dX2_push_44 : decode cX2_push 44 = .ok (.i2b, 1) := by decide +kernel
theorem dX2_push_45 : decode cX2_push 45 = .ok (.bastore, 1) := by decide +kernel
theorem dX2_push_46 : decode cX2_push 46 = .ok (.aload_n 0, 1) := by decide +kernel
theorem dX2_push_47 : decode cX2_push 47 = .ok (.getfield 15, 3) := by decide +kernel
theorem dX2_push_50 : decode cX2_push 50 = .ok (.iload_n 2, 1) := by decide +kernel
theorem dX2_push_51 : decode cX2_push 51 = .ok (.iload_n 3, 1) := by decide +kernel
theorem dX2_push_52 : decode cX2_push 52 = .ok (.iconst 1, 1) := by decide +kernel
theorem dX2_push_53 : decode cX2_push 53 = .ok (.iadd, 1) := by decide +kernel
theorem dX2_push_54 : decode cX2_push 54 = .ok (.iastore, 1) := by decide +kernel
theorem dX2_push_55 : decode cX2_push 55 = .ok (.return_, 1) := by decide +kernel
theorem dX2_endGroupHere_0 : decode cX2_endGroupHere 0 = .ok (.aload_n 0, 1) := by decide +kernel
theorem dX2_endGroupHere_1 : decode cX2_endGroupHere 1 = .ok (.aload_n 0, 1) := by decide +kernel
theorem dX2_endGroupHere_2 : decode cX2_endGroupHere 2 = .ok (.getfield 27, 3) := by decide +kernel
theorem dX2_endGroupHere_5 : decode cX2_endGroupHere 5 = .ok (.iconst 1, 1) := by decide +kernel
theorem dX2_endGroupHere_6 : decode cX2_endGroupHere 6 = .ok (.isub, 1) := by decide +kernel
theorem dX2_endGroupHere_7 : decode cX2_endGroupHere 7 = .ok (.invokevirtual 31, 3) := by decide +kernel
theorem dX2_endGroupHere_10 : decode cX2_endGroupHere 10 = .ok (.ifCond .eq 15, 3) := by decide +kernel
theorem dX2_endGroupHere_13 : decode cX2_endGroupHere 13 = .ok (.aload_n 0, 1) := by decide +kernel
theorem dX2_endGroupHere_14 : decode cX2_endGroupHere 14 = .ok (.getfield 18, 3) := by decide +kernel
theorem dX2_endGroupHere_17 : decode cX2_endGroupHere 17 = .ok (.aload_n 0, 1) := by decide +kernel
theorem dX2_endGroupHere_18 : decode cX2_endGroupHere 18 = .ok (.getfield 27, 3) := by decide +kernel
theorem dX2_endGroupHere_21 : decode cX2_endGroupHere 21 = .ok (.iconst 1, 1) := by decide +kernel
theorem dX2_endGroupHere_22 : decode cX2_endGroupHere 22 = .ok (.isub, 1) := by decide +kernel
theorem dX2_endGroupHere_23 : decode cX2_endGroupHere 23 = .ok (.iconst 1, 1) := by decide +kernel
theorem dX2_endGroupHere_24 : decode cX2_endGroupHere 24 = .ok (.bastore, 1) := by decide +kernel
theorem dX2_endGroupHere_25 : decode cX2_endGroupHere 25 = .ok (.return_, 1) := by decide +kernel
theorem dX2_has_0 : decode cX2_has 0 = .ok (.iload_n 1, 1) := by decide +kernel
theorem dX2_has_1 : decode cX2_has 1 = .ok (.ifCond .lt 22, 3) := by decide +kernel
theorem dX2_has_4 : decode cX2_has 4 = .ok (.iload_n 1, 1) := by decide +kernel
theorem dX2_has_5 : decode cX2_has 5 = .ok (.aload_n 0, 1) := by decide +kernel
theorem dX2_has_6 : decode cX2_has 6 = .ok (.getfield 27, 3) := by decide +kernel
theorem dX2_has_9 : decode cX2_has 9 = .ok (.if_icmp .ge 14, 3) := by decide +kernel
theorem dX2_has_12 : decode cX2_has 12 = .ok (.iload_n 1, 1) := by decide +kernel
theorem dX2_has_13 : decode cX2_has 13 = .ok (.sipush 600, 3) := by decide +kernel
theorem dX2_has_16 : decode cX2_has 16 = .ok (.if_icmp .ge 7, 3) := by decide +kernel
theorem dX2_has_19 : decode cX2_has 19 = .ok (.iconst 1, 1) := by decide +kernel
theorem dX2_has_20 : decode cX2_has 20 = .ok (.goto 4, 3) := by decide +kernel
theorem dX2_has_23 : decode cX2_has 23 = .ok (.iconst 0, 1) := by decide +kernel
theorem dX2_has_24 : decode cX2_has 24 = .ok (.ireturn, 1) := by decide +kernel
theorem dX2_endsGroup_0 : decode cX2_endsGroup 0 = .ok (.aload_n 0, 1) := by decide +kernel
theorem dX2_endsGroup_1 : decode cX2_endsGroup 1 = .ok (.iload_n 1, 1) := by decide +kernel
theorem dX2_endsGroup_2 : decode cX2_endsGroup 2 = .ok (.invokevirtual 31, 3) := by decide +kernel
theorem dX2_endsGroup_5 : decode cX2_endsGroup 5 = .ok (.ifCond .eq 16, 3) := by decide +kernel
theorem dX2_endsGroup_8 : decode cX2_endsGroup 8 = .ok (.aload_n 0, 1) := by decide +kernel
theorem dX2_endsGroup_9 : decode cX2_endsGroup 9 = .ok (.getfield 18, 3) := by decide +kernel
theorem dX2_endsGroup_12 : decode cX2_endsGroup 12 = .ok (.iload_n 1, 1) := by decide +kernel
theorem dX2_endsGroup_13 : decode cX2_endsGroup 13 = .ok (.baload, 1) := by decide +kernel
theorem dX2_endsGroup_14 : decode cX2_endsGroup 14 = .ok (.ifCond .eq 7, 3) := by decide +kernel
theorem dX2_endsGroup_17 : decode cX2_endsGroup 17 = .ok (.iconst 1, 1) := by decide +kernel
theorem dX2_endsGroup_18 : decode cX2_endsGroup 18 = .ok (.goto 4, 3) := by decide +kernel
theorem dX2_endsGroup_21 : decode cX2_endsGroup 21 = .ok (.iconst 0, 1) := by decide +kernel
theorem dX2_endsGroup_22 : decode cX2_endsGroup 22 = .ok (.ireturn, 1) := by decide +kernel
theorem dX2_secondOf_0 : decode cX2_secondOf 0 = .ok (.aload_n 0, 1) := by decide +kernel
theorem dX2_secondOf_1 : decode cX2_secondOf 1 = .ok (.iload_n 1, 1) := by decide +kernel
theorem dX2_secondOf_2 : decode cX2_secondOf 2 = .ok (.invokevirtual 31, 3) := by decide +kernel
theorem dX2_secondOf_5 : decode cX2_secondOf 5 = .ok (.ifCond .eq 12, 3) := by decide +kernel
theorem dX2_secondOf_8 : decode cX2_secondOf 8 = .ok (.aload_n 0, 1) := by decide +kernel
theorem dX2_secondOf_9 : decode cX2_secondOf 9 = .ok (.getfield 9, 3) := by decide +kernel
theorem dX2_secondOf_12 : decode cX2_secondOf 12 = .ok (.iload_n 1, 1) := by decide +kernel
theorem dX2_secondOf_13 : decode cX2_secondOf 13 = .ok (.iaload, 1) := by decide +kernel
theorem dX2_secondOf_14 : decode cX2_secondOf 14 = .ok (.goto 4, 3) := by decide +kernel
theorem dX2_secondOf_17 : decode cX2_secondOf 17 = .ok (.iconst 0, 1) := by decide +kernel
theorem dX2_secondOf_18 : decode cX2_secondOf 18 = .ok (.ireturn, 1) := by decide +kernel
theorem dX2_lastSecond_0 : decode cX2_lastSecond 0 = .ok (.aload_n 0, 1) := by decide +kernel
theorem dX2_lastSecond_1 : decode cX2_lastSecond 1 = .ok (.aload_n 0, 1) := by decide +kernel
theorem dX2_lastSecond_2 : decode cX2_lastSecond 2 = .ok (.getfield 27, 3) := by decide +kernel
theorem dX2_lastSecond_5 : decode cX2_lastSecond 5 = .ok (.iconst 1, 1) := by decide +kernel
theorem dX2_lastSecond_6 : decode cX2_lastSecond 6 = .ok (.isub, 1) := by decide +kernel
theorem dX2_lastSecond_7 : decode cX2_lastSecond 7 = .ok (.invokevirtual 35, 3) := by decide +kernel
theorem dX2_lastSecond_10 : decode cX2_lastSecond 10 = .ok (.ireturn, 1) := by decide +kernel
theorem dX2_monthOf_0 : decode cX2_monthOf 0 = .ok (.aload_n 0, 1) := by decide +kernel
theorem dX2_monthOf_1 : decode cX2_monthOf 1 = .ok (.iload_n 1, 1) := by decide +kernel
theorem dX2_monthOf_2 : decode cX2_monthOf 2 = .ok (.invokevirtual 35, 3) := by decide +kernel
theorem dX2_monthOf_5 : decode cX2_monthOf 5 = .ok (.ldc 39, 2) := by decide +kernel
theorem dX2_monthOf_7 : decode cX2_monthOf 7 = .ok (.idiv, 1) := by decide +kernel
theorem dX2_monthOf_8 : decode cX2_monthOf 8 = .ok (.ireturn, 1) := by decide +kernel
theorem dX2_lengthOf_0 : decode cX2_lengthOf 0 = .ok (.aload_n 0, 1) := by decide +kernel
theorem dX2_lengthOf_1 : decode cX2_lengthOf 1 = .ok (.iload_n 1, 1) := by decide +kernel
theorem dX2_lengthOf_2 : decode cX2_lengthOf 2 = .ok (.invokevirtual 31, 3) := by decide +kernel
theorem dX2_lengthOf_5 : decode cX2_lengthOf 5 = .ok (.ifCond .eq 12, 3) := by decide +kernel
theorem dX2_lengthOf_8 : decode cX2_lengthOf 8 = .ok (.aload_n 0, 1) := by decide +kernel
theorem dX2_lengthOf_9 : decode cX2_lengthOf 9 = .ok (.getfield 15, 3) := by decide +kernel
theorem dX2_lengthOf_12 : decode cX2_lengthOf 12 = .ok (.iload_n 1, 1) := by decide +kernel
theorem dX2_lengthOf_13 : decode cX2_lengthOf 13 = .ok (.iaload, 1) := by decide +kernel
theorem dX2_lengthOf_14 : decode cX2_lengthOf 14 = .ok (.goto 4, 3) := by decide +kernel
theorem dX2_lengthOf_17 : decode cX2_lengthOf 17 = .ok (.iconst 0, 1) := by decide +kernel
theorem dX2_lengthOf_18 : decode cX2_lengthOf 18 = .ok (.ireturn, 1) := by decide +kernel
theorem dX2_contentAt_0 : decode cX2_contentAt 0 = .ok (.iload_n 2, 1) := by decide +kernel
theorem dX2_contentAt_1 : decode cX2_contentAt 1 = .ok (.ifCond .lt 18, 3) := by decide +kernel
theorem dX2_contentAt_4 : decode cX2_contentAt 4 = .ok (.iload_n 2, 1) := by decide +kernel
theorem dX2_contentAt_5 : decode cX2_contentAt 5 = .ok (.aload_n 0, 1) := by decide +kernel
theorem dX2_contentAt_6 : decode cX2_contentAt 6 = .ok (.iload_n 1, 1) := by decide +kernel
theorem dX2_contentAt_7 : decode cX2_contentAt 7 = .ok (.invokevirtual 40, 3) := by decide +kernel
theorem dX2_contentAt_10 : decode cX2_contentAt 10 = .ok (.if_icmp .ge 9, 3) := by decide +kernel
theorem dX2_contentAt_13 : decode cX2_contentAt 13 = .ok (.iload_n 2, 1) := by decide +kernel
theorem dX2_contentAt_14 : decode cX2_contentAt 14 = .ok (.bipush 64, 2) := by decide +kernel
theorem dX2_contentAt_16 : decode cX2_contentAt 16 = .ok (.if_icmp .lt 5, 3) := by decide +kernel
theorem dX2_contentAt_19 : decode cX2_contentAt 19 = .ok (.iconst (-1), 1) := by decide +kernel
theorem dX2_contentAt_20 : decode cX2_contentAt 20 = .ok (.ireturn, 1) := by decide +kernel
theorem dX2_contentAt_21 : decode cX2_contentAt 21 = .ok (.aload_n 0, 1) := by decide +kernel
theorem dX2_contentAt_22 : decode cX2_contentAt 22 = .ok (.getfield 23, 3) := by decide +kernel
theorem dX2_contentAt_25 : decode cX2_contentAt 25 = .ok (.iload_n 1, 1) := by decide +kernel
theorem dX2_contentAt_26 : decode cX2_contentAt 26 = .ok (.bipush 64, 2) := by decide +kernel
theorem dX2_contentAt_28 : decode cX2_contentAt 28 = .ok (.imul, 1) := by decide +kernel
theorem dX2_contentAt_29 : decode cX2_contentAt 29 = .ok (.iload_n 2, 1) := by decide +kernel
theorem dX2_contentAt_30 : decode cX2_contentAt 30 = .ok (.iadd, 1) := by decide +kernel
theorem dX2_contentAt_31 : decode cX2_contentAt 31 = .ok (.baload, 1) := by decide +kernel
theorem dX2_contentAt_32 : decode cX2_contentAt 32 = .ok (.sipush 255, 3) := by decide +kernel
theorem dX2_contentAt_35 : decode cX2_contentAt 35 = .ok (.iand, 1) := by decide +kernel
theorem dX2_contentAt_36 : decode cX2_contentAt 36 = .ok (.ireturn, 1) := by decide +kernel
theorem dX2_bytesInFile_0 : decode cX2_bytesInFile 0 = .ok (.iconst 0, 1) := by decide +kernel
theorem dX2_bytesInFile_1 : decode cX2_bytesInFile 1 = .ok (.istore_n 3, 1) := by decide +kernel
theorem dX2_bytesInFile_2 : decode cX2_bytesInFile 2 = .ok (.iload_n 1, 1) := by decide +kernel
theorem dX2_bytesInFile_3 : decode cX2_bytesInFile 3 = .ok (.istore 4, 2) := by decide +kernel
theorem dX2_bytesInFile_5 : decode cX2_bytesInFile 5 = .ok (.iload 4, 2) := by decide +kernel
theorem dX2_bytesInFile_7 : decode cX2_bytesInFile 7 = .ok (.iload_n 2, 1) := by decide +kernel
theorem dX2_bytesInFile_8 : decode cX2_bytesInFile 8 = .ok (.if_icmp .ge 37, 3) := by decide +kernel
theorem dX2_bytesInFile_11 : decode cX2_bytesInFile 11 = .ok (.iload_n 3, 1) := by decide +kernel
theorem dX2_bytesInFile_12 : decode cX2_bytesInFile 12 = .ok (.aload_n 0, 1) := by decide +kernel
theorem dX2_bytesInFile_13 : decode cX2_bytesInFile 13 = .ok (.iload 4, 2) := by decide +kernel
theorem dX2_bytesInFile_15 : decode cX2_bytesInFile 15 = .ok (.invokevirtual 40, 3) := by decide +kernel
theorem dX2_bytesInFile_18 : decode cX2_bytesInFile 18 = .ok (.bipush 11, 2) := by decide +kernel
theorem dX2_bytesInFile_20 : decode cX2_bytesInFile 20 = .ok (.iadd, 1) := by decide +kernel
theorem dX2_bytesInFile_21 : decode cX2_bytesInFile 21 = .ok (.aload_n 0, 1) := by decide +kernel
theorem dX2_bytesInFile_22 : decode cX2_bytesInFile 22 = .ok (.iload 4, 2) := by decide +kernel
theorem dX2_bytesInFile_24 : decode cX2_bytesInFile 24 = .ok (.invokevirtual 43, 3) := by decide +kernel
theorem dX2_bytesInFile_27 : decode cX2_bytesInFile 27 = .ok (.ifCond .eq 8, 3) := by decide +kernel
theorem dX2_bytesInFile_30 : decode cX2_bytesInFile 30 = .ok (.bipush 6, 2) := by decide +kernel
theorem dX2_bytesInFile_32 : decode cX2_bytesInFile 32 = .ok (.goto 4, 3) := by decide +kernel
theorem dX2_bytesInFile_35 : decode cX2_bytesInFile 35 = .ok (.iconst 0, 1) := by decide +kernel
theorem dX2_bytesInFile_36 : decode cX2_bytesInFile 36 = .ok (.iadd, 1) := by decide +kernel
theorem dX2_bytesInFile_37 : decode cX2_bytesInFile 37 = .ok (.iadd, 1) := by decide +kernel
theorem dX2_bytesInFile_38 : decode cX2_bytesInFile 38 = .ok (.istore_n 3, 1) := by decide +kernel
theorem dX2_bytesInFile_39 : decode cX2_bytesInFile 39 = .ok (.iinc 4 1, 3) := by decide +kernel
theorem dX2_bytesInFile_42 : decode cX2_bytesInFile 42 = .ok (.goto (-37), 3) := by decide +kernel
theorem dX2_bytesInFile_45 : decode cX2_bytesInFile 45 = .ok (.iload_n 3, 1) := by decide +kernel
theorem dX2_bytesInFile_46 : decode cX2_bytesInFile 46 = .ok (.ireturn, 1) := by decide +kernel
end
section
theorem dX3_init_0 : decode cX3_init 0 = .ok (.aload_n 0, 1) := by decide +kernel
theorem dX3_init_1 : decode cX3_init 1 = .ok (.invokespecial 3, 3) := by decide +kernel
theorem dX3_init_4 : decode cX3_init 4 = .ok (.aload_n 0, 1) := by decide +kernel
theorem dX3_init_5 : decode cX3_init 5 = .ok (.new 9, 3) := by decide +kernel
theorem dX3_init_8 : decode cX3_init 8 = .ok (.dup, 1) := by decide +kernel
theorem dX3_init_9 : decode cX3_init 9 = .ok (.invokespecial 11, 3) := by decide +kernel
theorem dX3_init_12 : decode cX3_init 12 = .ok (.putfield 12, 3) := by decide +kernel
theorem dX3_init_15 : decode cX3_init 15 = .ok (.aload_n 0, 1) := by decide +kernel
theorem dX3_init_16 : decode cX3_init 16 = .ok (.new 9, 3) := by decide +kernel
theorem dX3_init_19 : decode cX3_init 19 = .ok (.dup, 1) := by decide +kernel
theorem dX3_init_20 : decode cX3_init 20 = .ok (.invokespecial 11, 3) := by decide +kernel
theorem dX3_init_23 : decode cX3_init 23 = .ok (.putfield 16, 3) := by decide +kernel
theorem dX3_init_26 : decode cX3_init 26 = .ok (.aload_n 0, 1) := by decide +kernel
theorem dX3_init_27 : decode cX3_init 27 = .ok (.new 19, 3) := by decide +kernel
theorem dX3_init_30 : decode cX3_init 30 = .ok (.dup, 1) := by decide +kernel
theorem dX3_init_31 : decode cX3_init 31 = .ok (.invokespecial 21, 3) := by decide +kernel
theorem dX3_init_34 : decode cX3_init 34 = .ok (.putfield 22, 3) := by decide +kernel
theorem dX3_init_37 : decode cX3_init 37 = .ok (.aload_n 0, 1) := by decide +kernel
theorem dX3_init_38 : decode cX3_init 38 = .ok (.bipush 64, 2) := by decide +kernel
theorem dX3_init_40 : decode cX3_init 40 = .ok (.newarray .byte, 2) := by decide +kernel
theorem dX3_init_42 : decode cX3_init 42 = .ok (.putfield 26, 3) := by decide +kernel
theorem dX3_init_45 : decode cX3_init 45 = .ok (.aload_n 0, 1) := by decide +kernel
theorem dX3_init_46 : decode cX3_init 46 = .ok (.iconst (-1), 1) := by decide +kernel
theorem dX3_init_47 : decode cX3_init 47 = .ok (.putfield 30, 3) := by decide +kernel
theorem dX3_init_50 : decode cX3_init 50 = .ok (.return_, 1) := by decide +kernel
theorem dX3_feed_0 : decode cX3_feed 0 = .ok (.aload_n 0, 1) := by decide +kernel
theorem dX3_feed_1 : decode cX3_feed 1 = .ok (.getfield 34, 3) := by decide +kernel
theorem dX3_feed_4 : decode cX3_feed 4 = .ok (.ifCond .ne 33, 3) := by decide +kernel
theorem dX3_feed_7 : decode cX3_feed 7 = .ok (.iload_n 1, 1) := by decide +kernel
theorem dX3_feed_8 : decode cX3_feed 8 = .ok (.ifCond .lt 29, 3) := by decide +kernel
theorem dX3_feed_11 : decode cX3_feed 11 = .ok (.iload_n 1, 1) := by decide +kernel
theorem dX3_feed_12 : decode cX3_feed 12 = .ok (.sipush 255, 3) := by decide +kernel
theorem dX3_feed_15 : decode cX3_feed 15 = .ok (.if_icmp .gt 22, 3) := by decide +kernel
theorem dX3_feed_18 : decode cX3_feed 18 = .ok (.aload_n 0, 1) := by decide +kernel
theorem dX3_feed_19 : decode cX3_feed 19 = .ok (.getfield 38, 3) := by decide +kernel
theorem dX3_feed_22 : decode cX3_feed 22 = .ok (.ifCond .lt 15, 3) := by decide +kernel
theorem dX3_feed_25 : decode cX3_feed 25 = .ok (.aload_n 0, 1) := by decide +kernel
theorem dX3_feed_26 : decode cX3_feed 26 = .ok (.getfield 38, 3) := by decide +kernel
theorem dX3_feed_29 : decode cX3_feed 29 = .ok (.aload_n 0, 1) := by decide +kernel
theorem dX3_feed_30 : decode cX3_feed 30 = .ok (.getfield 26, 3) := by decide +kernel
theorem dX3_feed_33 : decode cX3_feed 33 = .ok (.arraylength, 1) := by decide +kernel
theorem dX3_feed_34 : decode cX3_feed 34 = .ok (.if_icmp .lt 5, 3) := by decide +kernel
theorem dX3_feed_37 : decode cX3_feed 37 = .ok (.iconst 0, 1) := by decide +kernel
theorem dX3_feed_38 : decode cX3_feed 38 = .ok (.ireturn, 1) := by decide +kernel
theorem dX3_feed_39 : decode cX3_feed 39 = .ok (.aload_n 0, 1) := by decide +kernel
theorem dX3_feed_40 : decode cX3_feed 40 = .ok (.getfield 26, 3) := by decide +kernel
theorem dX3_feed_43 : decode cX3_feed 43 = .ok (.aload_n 0, 1) := by decide +kernel
theorem dX3_feed_44 : decode cX3_feed 44 = .ok (.getfield 38, 3) := by decide +kernel
theorem dX3_feed_47 : decode cX3_feed 47 = .ok (.iload_n 1, 1) := by decide +kernel
theorem dX3_feed_48 : decode cX3_feed 48 = .ok (.i2b, 1) := by decide +kernel
theorem dX3_feed_49 : decode cX3_feed 49 = .ok (.bastore, 1) := by decide +kernel
theorem dX3_feed_50 : decode cX3_feed 50 = .ok (.aload_n 0, 1) := by decide +kernel
theorem dX3_feed_51 : decode cX3_feed 51 = .ok (.dup, 1) := by decide +kernel
theorem dX3_feed_52 : decode cX3_feed 52 = .ok (.getfield 38, 3) := by decide +kernel
theorem dX3_feed_55 : decode cX3_feed 55 = .ok (.iconst 1, 1) := by decide +kernel
theorem dX3_feed_56 : decode cX3_feed 56 = .ok (.iadd, 1) := by decide +kernel
theorem dX3_feed_57 : decode cX3_feed 57 = .ok (.putfield 38, 3) := by decide +kernel
theorem dX3_feed_60 : decode cX3_feed 60 = .ok (.iconst 1, 1) := by decide +kernel
theorem dX3_feed_61 : decode cX3_feed 61 = .ok (.ireturn, 1) := by decide +kernel
theorem dX3_row_0 : decode cX3_row 0 = .ok (.aload_n 0, 1) := by decide +kernel
theorem dX3_row_1 : decode cX3_row 1 = .ok (.getfield 34, 3) := by decide +kernel
theorem dX3_row_4 : decode cX3_row 4 = .ok (.ifCond .ne 27, 3) := by decide +kernel
theorem dX3_row_7 : decode cX3_row 7 = .ok (.aload_n 0, 1) := by decide +kernel
theorem dX3_row_8 : decode cX3_row 8 = .ok (.getfield 38, 3) := by decide +kernel
theorem dX3_row_11 : decode cX3_row 11 = .ok (.ifCond .eq 20, 3) := by decide +kernel
theorem dX3_row_14 : decode cX3_row 14 = .ok (.iload_n 1, 1) := by decide +kernel
theorem dX3_row_15 : decode cX3_row 15 = .ok (.ldc 41, 2) := by decide +kernel
theorem dX3_row_17 : decode cX3_row 17 = .ok (.if_icmp .gt 14, 3) := by decide +kernel
theorem dX3_row_20 : decode cX3_row 20 = .ok (.iload_n 1, 1) := by decide +kernel
theorem dX3_row_21 : decode cX3_row 21 = .ok (.aload_n 0, 1) := by decide +kernel
theorem dX3_row_22 : decode cX3_row 22 = .ok (.getfield 22, 3) := by decide +kernel
theorem dX3_row_25 : decode cX3_row 25 = .ok (.invokevirtual 42, 3) := by decide +kernel
theorem dX3_row_28 : decode cX3_row 28 = .ok (.if_icmp .ge 5, 3) := by decide +kernel
theorem dX3_row_31 : decode cX3_row 31 = .ok (.iconst (-1), 1) := by decide +kernel
theorem dX3_row_32 : decode cX3_row 32 = .ok (.ireturn, 1) := by decide +kernel
theorem dX3_row_33 : decode cX3_row 33 = .ok (.aload_n 0, 1) := by decide +kernel
theorem dX3_row_34 : decode cX3_row 34 = .ok (.getfield 22, 3) := by decide +kernel
theorem dX3_row_37 : decode cX3_row 37 = .ok (.invokevirtual 46, 3) := by decide +kernel
theorem dX3_row_40 : decode cX3_row 40 = .ok (.aload_n 0, 1) := by decide +kernel
theorem dX3_row_41 : decode cX3_row 41 = .ok (.getfield 49, 3) := by decide +kernel
theorem dX3_row_44 : decode cX3_row 44 = .ok (.isub, 1) := by decide +kernel
theorem dX3_row_45 : decode cX3_row 45 = .ok (.istore_n 2, 1) := by decide +kernel
theorem dX3_row_46 : decode cX3_row 46 = .ok (.iload_n 2, 1) := by decide +kernel
theorem dX3_row_47 : decode cX3_row 47 = .ok (.bipush 16, 2) := by decide +kernel
theorem dX3_row_49 : decode cX3_row 49 = .ok (.if_icmp .ge 16, 3) := by decide +kernel
theorem dX3_row_52 : decode cX3_row 52 = .ok (.aload_n 0, 1) := by decide +kernel
theorem dX3_row_53 : decode cX3_row 53 = .ok (.getfield 22, 3) := by decide +kernel
theorem dX3_row_56 : decode cX3_row 56 = .ok (.invokevirtual 46, 3) := by decide +kernel
theorem dX3_row_59 : decode cX3_row 59 = .ok (.sipush 600, 3) := by decide +kernel
theorem dX3_row_62 : decode cX3_row 62 = .ok (.if_icmp .lt 6, 3) := by decide +kernel
theorem dX3_row_65 : decode cX3_row 65 = .ok (.bipush (-2), 2) := by decide +kernel
theorem dX3_row_67 : decode cX3_row 67 = .ok (.ireturn, 1) := by decide +kernel
theorem dX3_row_68 : decode cX3_row 68 = .ok (.aload_n 0, 1) := by decide +kernel
theorem dX3_row_69 : decode cX3_row 69 = .ok (.getfield 22, 3) := by decide +kernel
theorem dX3_row_72 : decode cX3_row 72 = .ok (.iload_n 1, 1) := by decide +kernel
theorem dX3_row_73 : decode cX3_row 73 = .ok (.invokevirtual 52, 3) := by decide +kernel
theorem dX3_row_76 : decode cX3_row 76 = .ok (.iconst 0, 1) := by decide +kernel
theorem dX3_row_77 : decode cX3_row 77 = .ok (.istore_n 3, 1) := by decide +kernel
theorem dX3_row_78 : decode cX3_row 78 = .ok (.iload_n 3, 1) := by decide +kernel
theorem dX3_row_79 : decode cX3_row 79 = .ok (.aload_n 0, 1) := by decide +kernel
theorem dX3_row_80 : decode cX3_row 80 = .ok (.getfield 38, 3) := by decide +kernel
theorem dX3_row_83 : decode cX3_row 83 = .ok (.if_icmp .ge 31, 3) := by decide +kernel
theorem dX3_row_86 : decode cX3_row 86 = .ok (.iload_n 3, 1) := by decide +kernel
theorem dX3_row_87 : decode cX3_row 87 = .ok (.aload_n 0, 1) := by decide +kernel
theorem dX3_row_88 : decode cX3_row 88 = .ok (.getfield 26, 3) := by decide +kernel
theorem dX3_row_91 : decode cX3_row 91 = .ok (.arraylength, 1) := by decide +kernel
theorem dX3_row_92 : decode cX3_row 92 = .ok (.if_icmp .ge 22, 3) := by decide +kernel
theorem dX3_row_95 : decode cX3_row 95 = .ok (.aload_n 0, 1) := by decide +kernel
theorem dX3_row_96 : decode cX3_row 96 = .ok (.getfield 22, 3) := by decide +kernel
theorem dX3_row_99 : decode cX3_row 99 = .ok (.aload_n 0, 1) := by decide +kernel
theorem dX3_row_100 : decode cX3_row 100 = .ok (.getfield 26, 3) := by decide +kernel
theorem dX3_row_103 : decode cX3_row 103 = .ok (.iload_n 3, 1) := by decide +kernel
theorem dX3_row_104 : decode cX3_row 104 = .ok (.baload, 1) := by decide +kernel
theorem dX3_row_105 : decode cX3_row 105 = .ok (.invokevirtual 56, 3) := by decide +kernel
theorem dX3_row_108 : decode cX3_row 108 = .ok (.iinc 3 1, 3) := by decide +kernel
theorem dX3_row_111 : decode cX3_row 111 = .ok (.goto (-33), 3) := by decide +kernel
theorem dX3_row_114 : decode cX3_row 114 = .ok (.aload_n 0, 1) := by decide +kernel
theorem dX3_row_115 : decode cX3_row 115 = .ok (.iconst 0, 1) := by decide +kernel
theorem dX3_row_116 : decode cX3_row 116 = .ok (.putfield 38, 3) := by decide +kernel
theorem dX3_row_119 : decode cX3_row 119 = .ok (.iload_n 2, 1) := by decide +kernel
theorem dX3_row_120 : decode cX3_row 120 = .ok (.ireturn, 1) := by decide +kernel
theorem dX3_endGroup_0 : decode cX3_endGroup 0 = .ok (.aload_n 0, 1) := by decide +kernel
theorem dX3_endGroup_1 : decode cX3_endGroup 1 = .ok (.getfield 34, 3) := by decide +kernel
theorem dX3_endGroup_4 : decode cX3_endGroup 4 = .ok (.ifCond .ne 17, 3) := by decide +kernel
theorem dX3_endGroup_7 : decode cX3_endGroup 7 = .ok (.aload_n 0, 1) := by decide +kernel
theorem dX3_endGroup_8 : decode cX3_endGroup 8 = .ok (.getfield 22, 3) := by decide +kernel
theorem dX3_endGroup_11 : decode cX3_endGroup 11 = .ok (.invokevirtual 46, 3) := by decide +kernel
theorem dX3_endGroup_14 : decode cX3_endGroup 14 = .ok (.aload_n 0, 1) := by decide +kernel
theorem dX3_endGroup_15 : decode cX3_endGroup 15 = .ok (.getfield 49, 3) := by decide +kernel
theorem dX3_endGroup_18 : decode cX3_endGroup 18 = .ok (.if_icmp .ne 5, 3) := by decide +kernel
theorem dX3_endGroup_21 : decode cX3_endGroup 21 = .ok (.iconst 0, 1) := by decide +kernel
theorem dX3_endGroup_22 : decode cX3_endGroup 22 = .ok (.ireturn, 1) := by decide +kernel
theorem dX3_endGroup_23 : decode cX3_endGroup 23 = .ok (.aload_n 0, 1) := by decide +kernel
theorem dX3_endGroup_24 : decode cX3_endGroup 24 = .ok (.getfield 22, 3) := by decide +kernel
theorem dX3_endGroup_27 : decode cX3_endGroup 27 = .ok (.aload_n 0, 1) := by decide +kernel
theorem dX3_endGroup_28 : decode cX3_endGroup 28 = .ok (.getfield 49, 3) := by decide +kernel
theorem dX3_endGroup_31 : decode cX3_endGroup 31 = .ok (.aload_n 0, 1) := by decide +kernel
theorem dX3_endGroup_32 : decode cX3_endGroup 32 = .ok (.getfield 22, 3) := by decide +kernel
theorem dX3_endGroup_35 : decode cX3_endGroup 35 = .ok (.invokevirtual 46, 3) := by decide +kernel
theorem dX3_endGroup_38 : decode cX3_endGroup 38 = .ok (.invokevirtual 59, 3) := by decide +kernel
theorem dX3_endGroup_41 : decode cX3_endGroup 41 = .ok (.bipush 6, 2) := by decide +kernel
theorem dX3_endGroup_43 : decode cX3_endGroup 43 = .ok (.iadd, 1) := by decide +kernel
theorem dX3_endGroup_44 : decode cX3_endGroup 44 = .ok (.istore_n 1, 1) := by decide +kernel
theorem dX3_endGroup_45 : decode cX3_endGroup 45 = .ok (.aload_n 0, 1) := by decide +kernel
theorem dX3_endGroup_46 : decode cX3_endGroup 46 = .ok (.getfield 12, 3) := by decide +kernel
theorem dX3_endGroup_49 : decode cX3_endGroup 49 = .ok (.iload_n 1, 1) := by decide +kernel
theorem dX3_endGroup_50 : decode cX3_endGroup 50 = .ok (.invokevirtual 63, 3) := by decide +kernel
theorem dX3_endGroup_53 : decode cX3_endGroup 53 = .ok (.ifCond .eq 14, 3) := by decide +kernel
theorem dX3_endGroup_56 : decode cX3_endGroup 56 = .ok (.aload_n 0, 1) := by decide +kernel
theorem dX3_endGroup_57 : decode cX3_endGroup 57 = .ok (.getfield 16, 3) := by decide +kernel
theorem dX3_endGroup_60 : decode cX3_endGroup 60 = .ok (.iload_n 1, 1) := by decide +kernel
theorem dX3_endGroup_61 : decode cX3_endGroup 61 = .ok (.invokevirtual 63, 3) := by decide +kernel
theorem dX3_endGroup_64 : decode cX3_endGroup 64 = .ok (.ifCond .ne 5, 3) := by decide +kernel
theorem dX3_endGroup_67 : decode cX3_endGroup 67 = .ok (.iconst 0, 1) := by decide +kernel
theorem dX3_endGroup_68 : decode cX3_endGroup 68 = .ok (.ireturn, 1) := by decide +kernel
theorem dX3_endGroup_69 : decode cX3_endGroup 69 = .ok (.aload_n 0, 1) := by decide +kernel
theorem dX3_endGroup_70 : decode cX3_endGroup 70 = .ok (.getfield 12, 3) := by decide +kernel
theorem dX3_endGroup_73 : decode cX3_endGroup 73 = .ok (.aload_n 0, 1) := by decide +kernel
theorem dX3_endGroup_74 : decode cX3_endGroup 74 = .ok (.getfield 22, 3) := by decide +kernel
theorem dX3_endGroup_77 : decode cX3_endGroup 77 = .ok (.aload_n 0, 1) := by decide +kernel
theorem dX3_endGroup_78 : decode cX3_endGroup 78 = .ok (.getfield 49, 3) := by decide +kernel
theorem dX3_endGroup_81 : decode cX3_endGroup 81 = .ok (.invokestatic 67, 3) := by decide +kernel
theorem dX3_endGroup_84 : decode cX3_endGroup 84 = .ok (.aload_n 0, 1) := by decide +kernel
theorem dX3_endGroup_85 : decode cX3_endGroup 85 = .ok (.getfield 16, 3) := by decide +kernel
theorem dX3_endGroup_88 : decode cX3_endGroup 88 = .ok (.aload_n 0, 1) := by decide +kernel
theorem dX3_endGroup_89 : decode cX3_endGroup 89 = .ok (.getfield 22, 3) := by decide +kernel
theorem dX3_endGroup_92 : decode cX3_endGroup 92 = .ok (.aload_n 0, 1) := by decide +kernel
theorem dX3_endGroup_93 : decode cX3_endGroup 93 = .ok (.getfield 49, 3) := by decide +kernel
theorem dX3_endGroup_96 : decode cX3_endGroup 96 = .ok (.invokestatic 67, 3) := by decide +kernel
theorem dX3_endGroup_99 : decode cX3_endGroup 99 = .ok (.aload_n 0, 1) := by decide +kernel
theorem dX3_endGroup_100 : decode cX3_endGroup 100 = .ok (.getfield 22, 3) := by decide +kernel
theorem dX3_endGroup_103 : decode cX3_endGroup 103 = .ok (.invokevirtual 73, 3) := by decide +kernel
theorem dX3_endGroup_106 : decode cX3_endGroup 106 = .ok (.aload_n 0, 1) := by decide +kernel
theorem dX3_endGroup_107 : decode cX3_endGroup 107 = .ok (.aload_n 0, 1) := by decide +kernel
theorem dX3_endGroup_108 : decode cX3_endGroup 108 = .ok (.getfield 22, 3) := by decide +kernel
theorem dX3_endGroup_111 : decode cX3_endGroup 111 = .ok (.invokevirtual 46, 3) := by decide +kernel
theorem dX3_endGroup_114 : decode cX3_endGroup 114 = .ok (.putfield 49, 3) := by decide +kernel
theorem dX3_endGroup_117 : decode cX3_endGroup 117 = .ok (.iconst 1, 1) := by decide +kernel
theorem dX3_endGroup_118 : decode cX3_endGroup 118 = .ok (.ireturn, 1) := by decide +kernel
theorem dX3_crash_0 : decode cX3_crash 0 = .ok (.iload_n 1, 1) := by decide +kernel
theorem dX3_crash_1 : decode cX3_crash 1 = .ok (.invokestatic 76, 3) := by decide +kernel
theorem dX3_crash_4 : decode cX3_crash 4 = .ok (.ifCond .eq 19, 3) := by decide +kernel
theorem dX3_crash_7 : decode cX3_crash 7 = .ok (.iload_n 2, 1) := by decide +kernel
theorem dX3_crash_8 : decode cX3_crash 8 = .ok (.ifCond .lt 15, 3) := by decide +kernel
theorem dX3_crash_11 : decode cX3_crash 11 = .ok (.iload_n 2, 1) := by decide +kernel
theorem dX3_crash_12 : decode cX3_crash 12 = .ok (.aload_n 0, 1) := by decide +kernel
theorem dX3_crash_13 : decode cX3_crash 13 = .ok (.iload_n 1, 1) := by decide +kernel
theorem dX3_crash_14 : decode cX3_crash 14 = .ok (.invokevirtual 79, 3) := by decide +kernel
theorem dX3_crash_17 : decode cX3_crash 17 = .ok (.invokevirtual 83, 3) := by decide +kernel
theorem dX3_crash_20 : decode cX3_crash 20 = .ok (.if_icmp .le 5, 3) := by decide +kernel
theorem dX3_crash_23 : decode cX3_crash 23 = .ok (.iconst 0, 1) := by decide +kernel
theorem dX3_crash_24 : decode cX3_crash 24 = .ok (.ireturn, 1) := by decide +kernel
theorem dX3_crash_25 : decode cX3_crash 25 = .ok (.aload_n 0, 1) := by decide +kernel
theorem dX3_crash_26 : decode cX3_crash 26 = .ok (.iload_n 1, 1) := by decide +kernel
theorem dX3_crash_27 : decode cX3_crash 27 = .ok (.invokevirtual 79, 3) := by decide +kernel
theorem dX3_crash_30 : decode cX3_crash 30 = .ok (.iload_n 2, 1) := by decide +kernel
theorem dX3_crash_31 : decode cX3_crash 31 = .ok (.invokevirtual 86, 3) := by decide +kernel
theorem dX3_crash_34 : decode cX3_crash 34 = .ok (.aload_n 0, 1) := by decide +kernel
theorem dX3_crash_35 : decode cX3_crash 35 = .ok (.invokevirtual 89, 3) := by decide +kernel
theorem dX3_crash_38 : decode cX3_crash 38 = .ok (.aload_n 0, 1) := by decide +kernel
theorem dX3_crash_39 : decode cX3_crash 39 = .ok (.iconst 1, 1) := by decide +kernel
theorem dX3_crash_40 : decode cX3_crash 40 = .ok (.putfield 34, 3) := by decide +kernel
theorem dX3_crash_43 : decode cX3_crash 43 = .ok (.iconst 1, 1) := by decide +kernel
theorem dX3_crash_44 : decode cX3_crash 44 = .ok (.ireturn, 1) := by decide +kernel
theorem dX3_reopen_0 : decode cX3_reopen 0 = .ok (.aload_n 0, 1) := by decide +kernel
theorem dX3_reopen_1 : decode cX3_reopen 1 = .ok (.invokevirtual 89, 3) := by decide +kernel
theorem dX3_reopen_4 : decode cX3_reopen 4 = .ok (.aload_n 0, 1) := by decide +kernel
theorem dX3_reopen_5 : decode cX3_reopen 5 = .ok (.iconst 0, 1) := by decide +kernel
theorem dX3_reopen_6 : decode cX3_reopen 6 = .ok (.putfield 34, 3) := by decide +kernel
theorem dX3_reopen_9 : decode cX3_reopen 9 = .ok (.aload_n 0, 1) := by decide +kernel
theorem dX3_reopen_10 : decode cX3_reopen 10 = .ok (.iconst 0, 1) := by decide +kernel
theorem dX3_reopen_11 : decode cX3_reopen 11 = .ok (.putfield 92, 3) := by decide +kernel
theorem dX3_reopen_14 : decode cX3_reopen 14 = .ok (.aload_n 0, 1) := by decide +kernel
theorem dX3_reopen_15 : decode cX3_reopen 15 = .ok (.invokevirtual 95, 3) := by decide +kernel
theorem dX3_reopen_18 : decode cX3_reopen 18 = .ok (.istore_n 1, 1) := by decide +kernel
theorem dX3_reopen_19 : decode cX3_reopen 19 = .ok (.aload_n 0, 1) := by decide +kernel
theorem dX3_reopen_20 : decode cX3_reopen 20 = .ok (.iload_n 1, 1) := by decide +kernel
theorem dX3_reopen_21 : decode cX3_reopen 21 = .ok (.aload_n 0, 1) := by decide +kernel
theorem dX3_reopen_22 : decode cX3_reopen 22 = .ok (.getfield 12, 3) := by decide +kernel
theorem dX3_reopen_25 : decode cX3_reopen 25 = .ok (.invokevirtual 83, 3) := by decide +kernel
theorem dX3_reopen_28 : decode cX3_reopen 28 = .ok (.if_icmp .lt 14, 3) := by decide +kernel
theorem dX3_reopen_31 : decode cX3_reopen 31 = .ok (.iload_n 1, 1) := by decide +kernel
theorem dX3_reopen_32 : decode cX3_reopen 32 = .ok (.aload_n 0, 1) := by decide +kernel
theorem dX3_reopen_33 : decode cX3_reopen 33 = .ok (.getfield 16, 3) := by decide +kernel
theorem dX3_reopen_36 : decode cX3_reopen 36 = .ok (.invokevirtual 83, 3) := by decide +kernel
theorem dX3_reopen_39 : decode cX3_reopen 39 = .ok (.if_icmp .ge 7, 3) := by decide +kernel
theorem dX3_reopen_42 : decode cX3_reopen 42 = .ok (.iload_n 1, 1) := by decide +kernel
theorem dX3_reopen_43 : decode cX3_reopen 43 = .ok (.goto 4, 3) := by decide +kernel
theorem dX3_reopen_46 : decode cX3_reopen 46 = .ok (.iconst (-1), 1) := by decide +kernel
theorem dX3_reopen_47 : decode cX3_reopen 47 = .ok (.putfield 30, 3) := by decide +kernel
theorem dX3_reopen_50 : decode cX3_reopen 50 = .ok (.aload_n 0, 1) := by decide +kernel
theorem dX3_reopen_51 : decode cX3_reopen 51 = .ok (.getfield 12, 3) := by decide +kernel
theorem dX3_reopen_54 : decode cX3_reopen 54 = .ok (.iload_n 1, 1) := by decide +kernel
theorem dX3_reopen_55 : decode cX3_reopen 55 = .ok (.invokevirtual 86, 3) := by decide +kernel
theorem dX3_reopen_58 : decode cX3_reopen 58 = .ok (.aload_n 0, 1) := by decide +kernel
theorem dX3_reopen_59 : decode cX3_reopen 59 = .ok (.getfield 16, 3) := by decide +kernel
theorem dX3_reopen_62 : decode cX3_reopen 62 = .ok (.iload_n 1, 1) := by decide +kernel
theorem dX3_reopen_63 : decode cX3_reopen 63 = .ok (.invokevirtual 86, 3) := by decide +kernel
theorem dX3_reopen_66 : decode cX3_reopen 66 = .ok (.aload_n 0, 1) := by decide +kernel
theorem dX3_reopen_67 : decode cX3_reopen 67 = .ok (.aload_n 0, 1) := by decide +kernel
theorem dX3_reopen_68 : decode cX3_reopen 68 = .ok (.getfield 22, 3) := by decide +kernel
theorem dX3_reopen_71 : decode cX3_reopen 71 = .ok (.invokevirtual 46, 3) := by decide +kernel
theorem dX3_reopen_74 : decode cX3_reopen 74 = .ok (.putfield 49, 3) := by decide +kernel
theorem dX3_reopen_77 : decode cX3_reopen 77 = .ok (.aload_n 0, 1) := by decide +kernel
theorem dX3_reopen_78 : decode cX3_reopen 78 = .ok (.getfield 49, 3) := by decide +kernel
theorem dX3_reopen_81 : decode cX3_reopen 81 = .ok (.ireturn, 1) := by decide +kernel
theorem dX3_byteAt_0 : decode cX3_byteAt 0 = .ok (.iload_n 1, 1) := by decide +kernel
theorem dX3_byteAt_1 : decode cX3_byteAt 1 = .ok (.ifCond .lt 11, 3) := by decide +kernel
theorem dX3_byteAt_4 : decode cX3_byteAt 4 = .ok (.iload_n 1, 1) := by decide +kernel
theorem dX3_byteAt_5 : decode cX3_byteAt 5 = .ok (.aload_n 0, 1) := by decide +kernel
theorem dX3_byteAt_6 : decode cX3_byteAt 6 = .ok (.getfield 49, 3) := by decide +kernel
theorem dX3_byteAt_9 : decode cX3_byteAt 9 = .ok (.if_icmp .lt 13, 3) := by decide +kernel
theorem dX3_byteAt_12 : decode cX3_byteAt 12 = .ok (.new 98, 3) := by decide +kernel
theorem dX3_byteAt_15 : decode cX3_byteAt 15 = .ok (.dup, 1) := by decide +kernel
theorem dX3_byteAt_16 : decode cX3_byteAt 16 = .ok (.ldc 100, 2) := by decide +kernel
theorem dX3_byteAt_18 : decode cX3_byteAt 18 = .ok (.invokespecial 102, 3) := by decide +kernel
theorem dX3_byteAt_21 : decode cX3_byteAt 21 = .ok (.athrow, 1) := by decide +kernel
theorem dX3_byteAt_22 : decode cX3_byteAt 22 = .ok (.aload_n 0, 1) := by decide +kernel
theorem dX3_byteAt_23 : decode cX3_byteAt 23 = .ok (.getfield 22, 3) := by decide +kernel
theorem dX3_byteAt_26 : decode cX3_byteAt 26 = .ok (.iload_n 1, 1) := by decide +kernel
theorem dX3_byteAt_27 : decode cX3_byteAt 27 = .ok (.iload_n 2, 1) := by decide +kernel
theorem dX3_byteAt_28 : decode cX3_byteAt 28 = .ok (.invokevirtual 105, 3) := by decide +kernel
theorem dX3_byteAt_31 : decode cX3_byteAt 31 = .ok (.ireturn, 1) := by decide +kernel
theorem dX3_poke_0 : decode cX3_poke 0 = .ok (.iload_n 1, 1) := by decide +kernel
theorem dX3_poke_1 : decode cX3_poke 1 = .ok (.invokestatic 76, 3) := by decide +kernel
theorem dX3_poke_4 : decode cX3_poke 4 = .ok (.ifCond .eq 31, 3) := by decide +kernel
theorem dX3_poke_7 : decode cX3_poke 7 = .ok (.iload_n 2, 1) := by decide +kernel
theorem dX3_poke_8 : decode cX3_poke 8 = .ok (.ifCond .lt 27, 3) := by decide +kernel
theorem dX3_poke_11 : decode cX3_poke 11 = .ok (.iload_n 2, 1) := by decide +kernel
theorem dX3_poke_12 : decode cX3_poke 12 = .ok (.aload_n 0, 1) := by decide +kernel
theorem dX3_poke_13 : decode cX3_poke 13 = .ok (.iload_n 1, 1) := by decide +kernel
theorem dX3_poke_14 : decode cX3_poke 14 = .ok (.invokevirtual 79, 3) := by decide +kernel
theorem dX3_poke_17 : decode cX3_poke 17 = .ok (.invokevirtual 83, 3) := by decide +kernel
theorem dX3_poke_20 : decode cX3_poke 20 = .ok (.if_icmp .ge 15, 3) := by decide +kernel
theorem dX3_poke_23 : decode cX3_poke 23 = .ok (.iload_n 3, 1) := by decide +kernel
theorem dX3_poke_24 : decode cX3_poke 24 = .ok (.iconst 1, 1) := by decide +kernel
theorem dX3_poke_25 : decode cX3_poke 25 = .ok (.if_icmp .lt 10, 3) := by decide +kernel
theorem dX3_poke_28 : decode cX3_poke 28 = .ok (.iload_n 3, 1) := by decide +kernel
theorem dX3_poke_29 : decode cX3_poke 29 = .ok (.sipush 255, 3) := by decide +kernel
theorem dX3_poke_32 : decode cX3_poke 32 = .ok (.if_icmp .le 5, 3) := by decide +kernel
theorem dX3_poke_35 : decode cX3_poke 35 = .ok (.iconst 0, 1) := by decide +kernel
theorem dX3_poke_36 : decode cX3_poke 36 = .ok (.ireturn, 1) := by decide +kernel
theorem dX3_poke_37 : decode cX3_poke 37 = .ok (.aload_n 0, 1) := by decide +kernel
theorem dX3_poke_38 : decode cX3_poke 38 = .ok (.iload_n 1, 1) := by decide +kernel
theorem dX3_poke_39 : decode cX3_poke 39 = .ok (.invokevirtual 79, 3) := by decide +kernel
theorem dX3_poke_42 : decode cX3_poke 42 = .ok (.iload_n 2, 1) := by decide +kernel
theorem dX3_poke_43 : decode cX3_poke 43 = .ok (.iload_n 3, 1) := by decide +kernel
theorem dX3_poke_44 : decode cX3_poke 44 = .ok (.invokevirtual 108, 3) := by decide +kernel
theorem dX3_poke_47 : decode cX3_poke 47 = .ok (.iconst 1, 1) := by decide +kernel
theorem dX3_poke_48 : decode cX3_poke 48 = .ok (.ireturn, 1) := by decide +kernel
theorem dX3_repaired_0 : decode cX3_repaired 0 = .ok (.aload_n 0, 1) := by decide +kernel
theorem dX3_repaired_1 : decode cX3_repaired 1 = .ok (.getfield 92, 3) := by decide +kernel
theorem dX3_repaired_4 : decode cX3_repaired 4 = .ok (.ireturn, 1) := by decide +kernel
theorem dX3_badAt_0 : decode cX3_badAt 0 = .ok (.aload_n 0, 1) := by decide +kernel
theorem dX3_badAt_1 : decode cX3_badAt 1 = .ok (.getfield 30, 3) := by decide +kernel
theorem dX3_badAt_4 : decode cX3_badAt 4 = .ok (.ireturn, 1) := by decide +kernel
theorem dX3_move_0 : decode cX3_move 0 = .ok (.aload_n 0, 1) := by decide +kernel
theorem dX3_move_1 : decode cX3_move 1 = .ok (.getfield 34, 3) := by decide +kernel
theorem dX3_move_4 : decode cX3_move 4 = .ok (.ifCond .ne 24, 3) := by decide +kernel
theorem dX3_move_7 : decode cX3_move 7 = .ok (.aload_n 0, 1) := by decide +kernel
theorem dX3_move_8 : decode cX3_move 8 = .ok (.getfield 22, 3) := by decide +kernel
theorem dX3_move_11 : decode cX3_move 11 = .ok (.invokevirtual 46, 3) := by decide +kernel
theorem dX3_move_14 : decode cX3_move 14 = .ok (.aload_n 0, 1) := by decide +kernel
theorem dX3_move_15 : decode cX3_move 15 = .ok (.getfield 49, 3) := by decide +kernel
theorem dX3_move_18 : decode cX3_move 18 = .ok (.if_icmp .ne 10, 3) := by decide +kernel
theorem dX3_move_21 : decode cX3_move 21 = .ok (.aload_n 0, 1) := by decide +kernel
theorem dX3_move_22 : decode cX3_move 22 = .ok (.invokevirtual 112, 3) := by decide +kernel
theorem dX3_move_25 : decode cX3_move 25 = .ok (.ifCond .ne 5, 3) := by decide +kernel
theorem dX3_move_28 : decode cX3_move 28 = .ok (.iconst 0, 1) := by decide +kernel
theorem dX3_move_29 : decode cX3_move 29 = .ok (.ireturn, 1) := by decide +kernel
theorem dX3_move_30 : decode cX3_move 30 = .ok (.aload_n 0, 1) := by decide +kernel
theorem dX3_move_31 : decode cX3_move 31 = .ok (.iload_n 1, 1) := by decide +kernel
theorem dX3_move_32 : decode cX3_move 32 = .ok (.invokevirtual 116, 3) := by decide +kernel
theorem dX3_move_35 : decode cX3_move 35 = .ok (.istore_n 2, 1) := by decide +kernel
theorem dX3_move_36 : decode cX3_move 36 = .ok (.iload_n 2, 1) := by decide +kernel
theorem dX3_move_37 : decode cX3_move 37 = .ok (.aload_n 0, 1) := by decide +kernel
theorem dX3_move_38 : decode cX3_move 38 = .ok (.getfield 120, 3) := by decide +kernel
theorem dX3_move_41 : decode cX3_move 41 = .ok (.if_icmp .ne 5, 3) := by decide +kernel
theorem dX3_move_44 : decode cX3_move 44 = .ok (.iconst 0, 1) := by decide +kernel
theorem dX3_move_45 : decode cX3_move 45 = .ok (.ireturn, 1) := by decide +kernel
theorem dX3_move_46 : decode cX3_move 46 = .ok (.aload_n 0, 1) := by decide +kernel
theorem dX3_move_47 : decode cX3_move 47 = .ok (.getfield 22, 3) := by decide +kernel
theorem dX3_move_50 : decode cX3_move 50 = .ok (.aload_n 0, 1) := by decide +kernel
theorem dX3_move_51 : decode cX3_move 51 = .ok (.getfield 120, 3) := by decide +kernel
theorem dX3_move_54 : decode cX3_move 54 = .ok (.iload_n 2, 1) := by decide +kernel
theorem dX3_move_55 : decode cX3_move 55 = .ok (.invokevirtual 59, 3) := by decide +kernel
theorem dX3_move_58 : decode cX3_move 58 = .ok (.istore_n 3, 1) := by decide +kernel
theorem dX3_move_59 : decode cX3_move 59 = .ok (.aload_n 0, 1) := by decide +kernel
theorem dX3_move_60 : decode cX3_move 60 = .ok (.getfield 12, 3) := by decide +kernel
theorem dX3_move_63 : decode cX3_move 63 = .ok (.iload_n 3, 1) := by decide +kernel
theorem dX3_move_64 : decode cX3_move 64 = .ok (.invokevirtual 123, 3) := by decide +kernel
theorem dX3_move_67 : decode cX3_move 67 = .ok (.aload_n 0, 1) := by decide +kernel
theorem dX3_move_68 : decode cX3_move 68 = .ok (.getfield 16, 3) := by decide +kernel
theorem dX3_move_71 : decode cX3_move 71 = .ok (.iload_n 3, 1) := by decide +kernel
theorem dX3_move_72 : decode cX3_move 72 = .ok (.invokevirtual 123, 3) := by decide +kernel
theorem dX3_move_75 : decode cX3_move 75 = .ok (.aload_n 0, 1) := by decide +kernel
theorem dX3_move_76 : decode cX3_move 76 = .ok (.iload_n 2, 1) := by decide +kernel
theorem dX3_move_77 : decode cX3_move 77 = .ok (.putfield 120, 3) := by decide +kernel
theorem dX3_move_80 : decode cX3_move 80 = .ok (.iconst 1, 1) := by decide +kernel
theorem dX3_move_81 : decode cX3_move 81 = .ok (.ireturn, 1) := by decide +kernel
theorem dX3_rows_0 : decode cX3_rows 0 = .ok (.iconst 0, 1) := by decide +kernel
theorem dX3_rows_1 : decode cX3_rows 1 = .ok (.istore_n 2, 1) := by decide +kernel
theorem dX3_rows_2 : decode cX3_rows 2 = .ok (.iconst 0, 1) := by decide +kernel
theorem dX3_rows_3 : decode cX3_rows 3 = .ok (.istore_n 3, 1) := by decide +kernel
theorem dX3_rows_4 : decode cX3_rows 4 = .ok (.iload_n 3, 1) := by decide +kernel
theorem dX3_rows_5 : decode cX3_rows 5 = .ok (.aload_n 0, 1) := by decide +kernel
theorem dX3_rows_6 : decode cX3_rows 6 = .ok (.getfield 49, 3) := by decide +kernel
theorem dX3_rows_9 : decode cX3_rows 9 = .ok (.if_icmp .ge 24, 3) := by decide +kernel
theorem dX3_rows_12 : decode cX3_rows 12 = .ok (.aload_n 0, 1) := by decide +kernel
theorem dX3_rows_13 : decode cX3_rows 13 = .ok (.getfield 22, 3) := by decide +kernel
theorem dX3_rows_16 : decode cX3_rows 16 = .ok (.iload_n 3, 1) := by decide +kernel
theorem dX3_rows_17 : decode cX3_rows 17 = .ok (.invokevirtual 126, 3) := by decide +kernel
theorem dX3_rows_20 : decode cX3_rows 20 = .ok (.iload_n 1, 1) := by decide +kernel
theorem dX3_rows_21 : decode cX3_rows 21 = .ok (.if_icmp .ne 6, 3) := by decide +kernel
theorem dX3_rows_24 : decode cX3_rows 24 = .ok (.iinc 2 1, 3) := by decide +kernel
theorem dX3_rows_27 : decode cX3_rows 27 = .ok (.iinc 3 1, 3) := by decide +kernel
theorem dX3_rows_30 : decode cX3_rows 30 = .ok (.goto (-26), 3) := by decide +kernel
theorem dX3_rows_33 : decode cX3_rows 33 = .ok (.iload_n 2, 1) := by decide +kernel
theorem dX3_rows_34 : decode cX3_rows 34 = .ok (.ireturn, 1) := by decide +kernel
theorem dX3_same_0 : decode cX3_same 0 = .ok (.aload_n 0, 1) := by decide +kernel
theorem dX3_same_1 : decode cX3_same 1 = .ok (.getfield 12, 3) := by decide +kernel
theorem dX3_same_4 : decode cX3_same 4 = .ok (.invokevirtual 83, 3) := by decide +kernel
theorem dX3_same_7 : decode cX3_same 7 = .ok (.aload_n 0, 1) := by decide +kernel
theorem dX3_same_8 : decode cX3_same 8 = .ok (.getfield 16, 3) := by decide +kernel
theorem dX3_same_11 : decode cX3_same 11 = .ok (.invokevirtual 83, 3) := by decide +kernel
theorem dX3_same_14 : decode cX3_same 14 = .ok (.if_icmp .ne 29, 3) := by decide +kernel
theorem dX3_same_17 : decode cX3_same 17 = .ok (.aload_n 0, 1) := by decide +kernel
theorem dX3_same_18 : decode cX3_same 18 = .ok (.getfield 12, 3) := by decide +kernel
theorem dX3_same_21 : decode cX3_same 21 = .ok (.aload_n 0, 1) := by decide +kernel
theorem dX3_same_22 : decode cX3_same 22 = .ok (.getfield 16, 3) := by decide +kernel
theorem dX3_same_25 : decode cX3_same 25 = .ok (.iconst 0, 1) := by decide +kernel
theorem dX3_same_26 : decode cX3_same 26 = .ok (.aload_n 0, 1) := by decide +kernel
theorem dX3_same_27 : decode cX3_same 27 = .ok (.getfield 12, 3) := by decide +kernel
theorem dX3_same_30 : decode cX3_same 30 = .ok (.invokevirtual 83, 3) := by decide +kernel
theorem dX3_same_33 : decode cX3_same 33 = .ok (.invokevirtual 129, 3) := by decide +kernel
theorem dX3_same_36 : decode cX3_same 36 = .ok (.ifCond .eq 7, 3) := by decide +kernel
theorem dX3_same_39 : decode cX3_same 39 = .ok (.iconst 1, 1) := by decide +kernel
theorem dX3_same_40 : decode cX3_same 40 = .ok (.goto 4, 3) := by decide +kernel
theorem dX3_same_43 : decode cX3_same 43 = .ok (.iconst 0, 1) := by decide +kernel
theorem dX3_same_44 : decode cX3_same 44 = .ok (.ireturn, 1) := by decide +kernel
theorem dX3_isFile_0 : decode cX3_isFile 0 = .ok (.iload_n 0, 1) := by decide +kernel
theorem dX3_isFile_1 : decode cX3_isFile 1 = .ok (.ifCond .eq 8, 3) := by decide +kernel
theorem dX3_isFile_4 : decode cX3_isFile 4 = .ok (.iload_n 0, 1) := by decide +kernel
theorem dX3_isFile_5 : decode cX3_isFile 5 = .ok (.iconst 1, 1) := by decide +kernel
theorem dX3_isFile_6 : decode cX3_isFile 6 = .ok (.if_icmp .ne 7, 3) := by decide +kernel
theorem dX3_isFile_9 : decode cX3_isFile 9 = .ok (.iconst 1, 1) := by decide +kernel
theorem dX3_isFile_10 : decode cX3_isFile 10 = .ok (.goto 4, 3) := by decide +kernel
theorem dX3_isFile_13 : decode cX3_isFile 13 = .ok (.iconst 0, 1) := by decide +kernel
theorem dX3_isFile_14 : decode cX3_isFile 14 = .ok (.ireturn, 1) := by decide +kernel
theorem dX3_fileOf_0 : decode cX3_fileOf 0 = .ok (.iload_n 1, 1) := by decide +kernel
theorem dX3_fileOf_1 : decode cX3_fileOf 1 = .ok (.ifCond .ne 10, 3) := by decide +kernel
theorem dX3_fileOf_4 : decode cX3_fileOf 4 = .ok (.aload_n 0, 1) := by decide +kernel
theorem dX3_fileOf_5 : decode cX3_fileOf 5 = .ok (.getfield 12, 3) := by decide +kernel
theorem dX3_fileOf_8 : decode cX3_fileOf 8 = .ok (.goto 7, 3) := by decide +kernel
theorem dX3_fileOf_11 : decode cX3_fileOf 11 = .ok (.aload_n 0, 1) := by decide +kernel
theorem dX3_fileOf_12 : decode cX3_fileOf 12 = .ok (.getfield 16, 3) := by decide +kernel
theorem dX3_fileOf_15 : decode cX3_fileOf 15 = .ok (.areturn, 1) := by decide +kernel
theorem dX3_forgetAllButMoved_0 : decode cX3_forgetAllButMoved 0 = .ok (.aload_n 0, 1) := by decide +kernel
theorem dX3_forgetAllButMoved_1 : decode cX3_forgetAllButMoved 1 = .ok (.getfield 22, 3) := by decide +kernel
theorem dX3_forgetAllButMoved_4 : decode cX3_forgetAllButMoved 4 = .ok (.aload_n 0, 1) := by decide +kernel
theorem dX3_forgetAllButMoved_5 : decode cX3_forgetAllButMoved 5 = .ok (.getfield 120, 3) := by decide +kernel
theorem dX3_forgetAllButMoved_8 : decode cX3_forgetAllButMoved 8 = .ok (.invokevirtual 133, 3) := by decide +kernel
theorem dX3_forgetAllButMoved_11 : decode cX3_forgetAllButMoved 11 = .ok (.aload_n 0, 1) := by decide +kernel
theorem dX3_forgetAllButMoved_12 : decode cX3_forgetAllButMoved 12 = .ok (.aload_n 0, 1) := by decide +kernel
theorem dX3_forgetAllButMoved_13 : decode cX3_forgetAllButMoved 13 = .ok (.getfield 120, 3) := by decide +kernel
theorem dX3_forgetAllButMoved_16 : decode cX3_forgetAllButMoved 16 = .ok (.putfield 49, 3) := by decide +kernel
theorem dX3_forgetAllButMoved_19 : decode cX3_forgetAllButMoved 19 = .ok (.aload_n 0, 1) := by decide +kernel
theorem dX3_forgetAllButMoved_20 : decode cX3_forgetAllButMoved 20 = .ok (.iconst 0, 1) := by decide +kernel
theorem dX3_forgetAllButMoved_21 : decode cX3_forgetAllButMoved 21 = .ok (.putfield 38, 3) := by decide +kernel
theorem dX3_forgetAllButMoved_24 : decode cX3_forgetAllButMoved 24 = .ok (.return_, 1) := by decide +kernel
theorem dX3_takeGoodGroups_0 : decode cX3_takeGoodGroups 0 = .ok (.iconst 0, 1) := by decide +kernel
theorem dX3_takeGoodGroups_1 : decode cX3_takeGoodGroups 1 = .ok (.istore_n 1, 1) := by decide +kernel
theorem dX3_takeGoodGroups_2 : decode cX3_takeGoodGroups 2 = .ok (.iconst 0, 1) := by decide +kernel
theorem dX3_takeGoodGroups_3 : decode cX3_takeGoodGroups 3 = .ok (.istore_n 2, 1) := by decide +kernel
theorem dX3_takeGoodGroups_4 : decode cX3_takeGoodGroups 4 = .ok (.iload_n 2, 1) := by decide +kernel
theorem dX3_takeGoodGroups_5 : decode cX3_takeGoodGroups 5 = .ok (.sipush 600, 3) := by decide +kernel
theorem dX3_takeGoodGroups_8 : decode cX3_takeGoodGroups 8 = .ok (.if_icmp .ge 51, 3) := by decide +kernel
theorem dX3_takeGoodGroups_11 : decode cX3_takeGoodGroups 11 = .ok (.aload_n 0, 1) := by decide +kernel
theorem dX3_takeGoodGroups_12 : decode cX3_takeGoodGroups 12 = .ok (.aload_n 0, 1) := by decide +kernel
theorem dX3_takeGoodGroups_13 : decode cX3_takeGoodGroups 13 = .ok (.getfield 12, 3) := by decide +kernel
theorem dX3_takeGoodGroups_16 : decode cX3_takeGoodGroups 16 = .ok (.aload_n 0, 1) := by decide +kernel
theorem dX3_takeGoodGroups_17 : decode cX3_takeGoodGroups 17 = .ok (.getfield 16, 3) := by decide +kernel
theorem dX3_takeGoodGroups_20 : decode cX3_takeGoodGroups 20 = .ok (.iload_n 1, 1) := by decide +kernel
theorem dX3_takeGoodGroups_21 : decode cX3_takeGoodGroups 21 = .ok (.invokevirtual 134, 3) := by decide +kernel
theorem dX3_takeGoodGroups_24 : decode cX3_takeGoodGroups 24 = .ok (.istore_n 3, 1) := by decide +kernel
theorem dX3_takeGoodGroups_25 : decode cX3_takeGoodGroups 25 = .ok (.iload_n 3, 1) := by decide +kernel
theorem dX3_takeGoodGroups_26 : decode cX3_takeGoodGroups 26 = .ok (.iconst (-1), 1) := by decide +kernel
theorem dX3_takeGoodGroups_27 : decode cX3_takeGoodGroups 27 = .ok (.if_icmp .ne 17, 3) := by decide +kernel
theorem dX3_takeGoodGroups_30 : decode cX3_takeGoodGroups 30 = .ok (.aload_n 0, 1) := by decide +kernel
theorem dX3_takeGoodGroups_31 : decode cX3_takeGoodGroups 31 = .ok (.aload_n 0, 1) := by decide +kernel
theorem dX3_takeGoodGroups_32 : decode cX3_takeGoodGroups 32 = .ok (.getfield 16, 3) := by decide +kernel
theorem dX3_takeGoodGroups_35 : decode cX3_takeGoodGroups 35 = .ok (.aload_n 0, 1) := by decide +kernel
theorem dX3_takeGoodGroups_36 : decode cX3_takeGoodGroups 36 = .ok (.getfield 12, 3) := by decide +kernel
theorem dX3_takeGoodGroups_39 : decode cX3_takeGoodGroups 39 = .ok (.iload_n 1, 1) := by decide +kernel
theorem dX3_takeGoodGroups_40 : decode cX3_takeGoodGroups 40 = .ok (.invokevirtual 134, 3) := by decide +kernel
theorem dX3_takeGoodGroups_43 : decode cX3_takeGoodGroups 43 = .ok (.istore_n 3, 1) := by decide +kernel
theorem dX3_takeGoodGroups_44 : decode cX3_takeGoodGroups 44 = .ok (.iload_n 3, 1) := by decide +kernel
theorem dX3_takeGoodGroups_45 : decode cX3_takeGoodGroups 45 = .ok (.iconst (-1), 1) := by decide +kernel
theorem dX3_takeGoodGroups_46 : decode cX3_takeGoodGroups 46 = .ok (.if_icmp .ne 5, 3) := by decide +kernel
theorem dX3_takeGoodGroups_49 : decode cX3_takeGoodGroups 49 = .ok (.iload_n 1, 1) := by decide +kernel
theorem dX3_takeGoodGroups_50 : decode cX3_takeGoodGroups 50 = .ok (.ireturn, 1) := by decide +kernel
theorem dX3_takeGoodGroups_51 : decode cX3_takeGoodGroups 51 = .ok (.iload_n 3, 1) := by decide +kernel
theorem dX3_takeGoodGroups_52 : decode cX3_takeGoodGroups 52 = .ok (.istore_n 1, 1) := by decide +kernel
theorem dX3_takeGoodGroups_53 : decode cX3_takeGoodGroups 53 = .ok (.iinc 2 1, 3) := by decide +kernel
theorem dX3_takeGoodGroups_56 : decode cX3_takeGoodGroups 56 = .ok (.goto (-52), 3) := by decide +kernel
theorem dX3_takeGoodGroups_59 : decode cX3_takeGoodGroups 59 = .ok (.iload_n 1, 1) := by decide +kernel
theorem dX3_takeGoodGroups_60 : decode cX3_takeGoodGroups 60 = .ok (.ireturn, 1) := by decide +kernel
theorem dX3_takeGroup_0 : decode cX3_takeGroup 0 = .ok (.aload_n 1, 1) := by decide +kernel
theorem dX3_takeGroup_1 : decode cX3_takeGroup 1 = .ok (.iload_n 3, 1) := by decide +kernel
theorem dX3_takeGroup_2 : decode cX3_takeGroup 2 = .ok (.aload_n 0, 1) := by decide +kernel
theorem dX3_takeGroup_3 : decode cX3_takeGroup 3 = .ok (.getfield 22, 3) := by decide +kernel
theorem dX3_takeGroup_6 : decode cX3_takeGroup 6 = .ok (.invokestatic 138, 3) := by decide +kernel
theorem dX3_takeGroup_9 : decode cX3_takeGroup 9 = .ok (.istore 4, 2) := by decide +kernel
theorem dX3_takeGroup_11 : decode cX3_takeGroup 11 = .ok (.iload 4, 2) := by decide +kernel
theorem dX3_takeGroup_13 : decode cX3_takeGroup 13 = .ok (.iconst (-1), 1) := by decide +kernel
theorem dX3_takeGroup_14 : decode cX3_takeGroup 14 = .ok (.if_icmp .ne 5, 3) := by decide +kernel
theorem dX3_takeGroup_17 : decode cX3_takeGroup 17 = .ok (.iconst (-1), 1) := by decide +kernel
theorem dX3_takeGroup_18 : decode cX3_takeGroup 18 = .ok (.ireturn, 1) := by decide +kernel
theorem dX3_takeGroup_19 : decode cX3_takeGroup 19 = .ok (.aload_n 1, 1) := by decide +kernel
theorem dX3_takeGroup_20 : decode cX3_takeGroup 20 = .ok (.iload_n 3, 1) := by decide +kernel
theorem dX3_takeGroup_21 : decode cX3_takeGroup 21 = .ok (.iload 4, 2) := by decide +kernel
theorem dX3_takeGroup_23 : decode cX3_takeGroup 23 = .ok (.aload_n 0, 1) := by decide +kernel
theorem dX3_takeGroup_24 : decode cX3_takeGroup 24 = .ok (.getfield 22, 3) := by decide +kernel
theorem dX3_takeGroup_27 : decode cX3_takeGroup 27 = .ok (.invokestatic 142, 3) := by decide +kernel
theorem dX3_takeGroup_30 : decode cX3_takeGroup 30 = .ok (.aload_n 1, 1) := by decide +kernel
theorem dX3_takeGroup_31 : decode cX3_takeGroup 31 = .ok (.aload_n 2, 1) := by decide +kernel
theorem dX3_takeGroup_32 : decode cX3_takeGroup 32 = .ok (.iload_n 3, 1) := by decide +kernel
theorem dX3_takeGroup_33 : decode cX3_takeGroup 33 = .ok (.iload 4, 2) := by decide +kernel
theorem dX3_takeGroup_35 : decode cX3_takeGroup 35 = .ok (.invokevirtual 129, 3) := by decide +kernel
theorem dX3_takeGroup_38 : decode cX3_takeGroup 38 = .ok (.ifCond .ne 21, 3) := by decide +kernel
theorem dX3_takeGroup_41 : decode cX3_takeGroup 41 = .ok (.aload_n 2, 1) := by decide +kernel
theorem dX3_takeGroup_42 : decode cX3_takeGroup 42 = .ok (.aload_n 1, 1) := by decide +kernel
theorem dX3_takeGroup_43 : decode cX3_takeGroup 43 = .ok (.iload_n 3, 1) := by decide +kernel
theorem dX3_takeGroup_44 : decode cX3_takeGroup 44 = .ok (.iload 4, 2) := by decide +kernel
theorem dX3_takeGroup_46 : decode cX3_takeGroup 46 = .ok (.invokevirtual 146, 3) := by decide +kernel
theorem dX3_takeGroup_49 : decode cX3_takeGroup 49 = .ok (.aload_n 0, 1) := by decide +kernel
theorem dX3_takeGroup_50 : decode cX3_takeGroup 50 = .ok (.dup, 1) := by decide +kernel
theorem dX3_takeGroup_51 : decode cX3_takeGroup 51 = .ok (.getfield 92, 3) := by decide +kernel
theorem dX3_takeGroup_54 : decode cX3_takeGroup 54 = .ok (.iconst 1, 1) := by decide +kernel
theorem dX3_takeGroup_55 : decode cX3_takeGroup 55 = .ok (.iadd, 1) := by decide +kernel
theorem dX3_takeGroup_56 : decode cX3_takeGroup 56 = .ok (.putfield 92, 3) := by decide +kernel
theorem dX3_takeGroup_59 : decode cX3_takeGroup 59 = .ok (.iload 4, 2) := by decide +kernel
theorem dX3_takeGroup_61 : decode cX3_takeGroup 61 = .ok (.ireturn, 1) := by decide +kernel
theorem dX3_endOfGroupsUpTo_0 : decode cX3_endOfGroupsUpTo 0 = .ok (.aload_n 0, 1) := by decide +kernel
theorem dX3_endOfGroupsUpTo_1 : decode cX3_endOfGroupsUpTo 1 = .ok (.getfield 120, 3) := by decide +kernel
theorem dX3_endOfGroupsUpTo_4 : decode cX3_endOfGroupsUpTo 4 = .ok (.istore_n 2, 1) := by decide +kernel
theorem dX3_endOfGroupsUpTo_5 : decode cX3_endOfGroupsUpTo 5 = .ok (.aload_n 0, 1) := by decide +kernel
theorem dX3_endOfGroupsUpTo_6 : decode cX3_endOfGroupsUpTo 6 = .ok (.getfield 120, 3) := by decide +kernel
theorem dX3_endOfGroupsUpTo_9 : decode cX3_endOfGroupsUpTo 9 = .ok (.istore_n 3, 1) := by decide +kernel
theorem dX3_endOfGroupsUpTo_10 : decode cX3_endOfGroupsUpTo 10 = .ok (.iload_n 3, 1) := by decide +kernel
theorem dX3_endOfGroupsUpTo_11 : decode cX3_endOfGroupsUpTo 11 = .ok (.aload_n 0, 1) := by decide +kernel
theorem dX3_endOfGroupsUpTo_12 : decode cX3_endOfGroupsUpTo 12 = .ok (.getfield 49, 3) := by decide +kernel
theorem dX3_endOfGroupsUpTo_15 : decode cX3_endOfGroupsUpTo 15 = .ok (.if_icmp .ge 36, 3) := by decide +kernel
theorem dX3_endOfGroupsUpTo_18 : decode cX3_endOfGroupsUpTo 18 = .ok (.aload_n 0, 1) := by decide +kernel
theorem dX3_endOfGroupsUpTo_19 : decode cX3_endOfGroupsUpTo 19 = .ok (.getfield 22, 3) := by decide +kernel
theorem dX3_endOfGroupsUpTo_22 : decode cX3_endOfGroupsUpTo 22 = .ok (.iload_n 3, 1) := by decide +kernel
theorem dX3_endOfGroupsUpTo_23 : decode cX3_endOfGroupsUpTo 23 = .ok (.invokevirtual 126, 3) := by decide +kernel
theorem dX3_endOfGroupsUpTo_26 : decode cX3_endOfGroupsUpTo 26 = .ok (.iload_n 1, 1) := by decide +kernel
theorem dX3_endOfGroupsUpTo_27 : decode cX3_endOfGroupsUpTo 27 = .ok (.if_icmp .gt 24, 3) := by decide +kernel
theorem dX3_endOfGroupsUpTo_30 : decode cX3_endOfGroupsUpTo 30 = .ok (.aload_n 0, 1) := by decide +kernel
theorem dX3_endOfGroupsUpTo_31 : decode cX3_endOfGroupsUpTo 31 = .ok (.getfield 22, 3) := by decide +kernel
theorem dX3_endOfGroupsUpTo_34 : decode cX3_endOfGroupsUpTo 34 = .ok (.iload_n 3, 1) := by decide +kernel
theorem dX3_endOfGroupsUpTo_35 : decode cX3_endOfGroupsUpTo 35 = .ok (.invokevirtual 150, 3) := by decide +kernel
theorem dX3_endOfGroupsUpTo_38 : decode cX3_endOfGroupsUpTo 38 = .ok (.ifCond .eq 7, 3) := by decide +kernel
theorem dX3_endOfGroupsUpTo_41 : decode cX3_endOfGroupsUpTo 41 = .ok (.iload_n 3, 1) := by decide +kernel
theorem dX3_endOfGroupsUpTo_42 : decode cX3_endOfGroupsUpTo 42 = .ok (.iconst 1, 1) := by decide +kernel
theorem dX3_endOfGroupsUpTo_43 : decode cX3_endOfGroupsUpTo 43 = .ok (.iadd, 1) := by decide +kernel
theorem dX3_endOfGroupsUpTo_44 : decode cX3_endOfGroupsUpTo 44 = .ok (.istore_n 2, 1) := by decide +kernel
theorem dX3_endOfGroupsUpTo_45 : decode cX3_endOfGroupsUpTo 45 = .ok (.iinc 3 1, 3) := by decide +kernel
theorem dX3_endOfGroupsUpTo_48 : decode cX3_endOfGroupsUpTo 48 = .ok (.goto (-38), 3) := by decide +kernel
theorem dX3_endOfGroupsUpTo_51 : decode cX3_endOfGroupsUpTo 51 = .ok (.iload_n 2, 1) := by decide +kernel
theorem dX3_endOfGroupsUpTo_52 : decode cX3_endOfGroupsUpTo 52 = .ok (.ireturn, 1) := by decide +kernel
end
section
theorem dX4_init_0 : decode cX4_init 0 = .ok (.aload_n 0, 1) := by decide +kernel
theorem dX4_init_1 : decode cX4_init 1 = .ok (.invokespecial 1, 3) := by decide +kernel
theorem dX4_init_4 : decode cX4_init 4 = .ok (.aload_n 0, 1) := by decide +kernel
theorem dX4_init_5 : decode cX4_init 5 = .ok (.sipush 16384, 3) := by decide +kernel
theorem dX4_init_8 : decode cX4_init 8 = .ok (.newarray .int, 2) := by decide +kernel
theorem dX4_init_10 : decode cX4_init 10 = .ok (.putfield 9, 3) := by decide +kernel
theorem dX4_init_13 : decode cX4_init 13 = .ok (.aload_n 0, 1) := by decide +kernel
theorem dX4_init_14 : decode cX4_init 14 = .ok (.iconst 2, 1) := by decide +kernel
theorem dX4_init_15 : decode cX4_init 15 = .ok (.newarray .int, 2) := by decide +kernel
theorem dX4_init_17 : decode cX4_init 17 = .ok (.putfield 13, 3) := by decide +kernel
theorem dX4_init_20 : decode cX4_init 20 = .ok (.aload_n 0, 1) := by decide +kernel
theorem dX4_init_21 : decode cX4_init 21 = .ok (.sipush 600, 3) := by decide +kernel
theorem dX4_init_24 : decode cX4_init 24 = .ok (.newarray .int, 2) := by decide +kernel
theorem dX4_init_26 : decode cX4_init 26 = .ok (.putfield 16, 3) := by decide +kernel
theorem dX4_init_29 : decode cX4_init 29 = .ok (.aload_n 0, 1) := by decide +kernel
theorem dX4_init_30 : decode cX4_init 30 = .ok (.sipush 600, 3) := by decide +kernel
theorem dX4_init_33 : decode cX4_init 33 = .ok (.newarray .int, 2) := by decide +kernel
theorem dX4_init_35 : decode cX4_init 35 = .ok (.putfield 19, 3) := by decide +kernel
theorem dX4_init_38 : decode cX4_init 38 = .ok (.aload_n 0, 1) := by decide +kernel
theorem dX4_init_39 : decode cX4_init 39 = .ok (.ldc 22, 2) := by decide +kernel
theorem dX4_init_41 : decode cX4_init 41 = .ok (.newarray .int, 2) := by decide +kernel
theorem dX4_init_43 : decode cX4_init 43 = .ok (.putfield 23, 3) := by decide +kernel
theorem dX4_init_46 : decode cX4_init 46 = .ok (.aload_n 0, 1) := by decide +kernel
theorem dX4_init_47 : decode cX4_init 47 = .ok (.sipush 600, 3) := by decide +kernel
theorem dX4_init_50 : decode cX4_init 50 = .ok (.newarray .int, 2) := by decide +kernel
theorem dX4_init_52 : decode cX4_init 52 = .ok (.putfield 26, 3) := by decide +kernel
theorem dX4_init_55 : decode cX4_init 55 = .ok (.aload_n 0, 1) := by decide +kernel
theorem dX4_init_56 : decode cX4_init 56 = .ok (.sipush 600, 3) := by decide +kernel
theorem dX4_init_59 : decode cX4_init 59 = .ok (.newarray .int, 2) := by decide +kernel
theorem dX4_init_61 : decode cX4_init 61 = .ok (.putfield 29, 3) := by decide +kernel
theorem dX4_init_64 : decode cX4_init 64 = .ok (.aload_n 0, 1) := by decide +kernel
theorem dX4_init_65 : decode cX4_init 65 = .ok (.bipush 16, 2) := by decide +kernel
theorem dX4_init_67 : decode cX4_init 67 = .ok (.newarray .int, 2) := by decide +kernel
theorem dX4_init_69 : decode cX4_init 69 = .ok (.putfield 32, 3) := by decide +kernel
theorem dX4_init_72 : decode cX4_init 72 = .ok (.aload_n 0, 1) := by decide +kernel
theorem dX4_init_73 : decode cX4_init 73 = .ok (.bipush 16, 2) := by decide +kernel
theorem dX4_init_75 : decode cX4_init 75 = .ok (.newarray .int, 2) := by decide +kernel
theorem dX4_init_77 : decode cX4_init 77 = .ok (.putfield 35, 3) := by decide +kernel
theorem dX4_init_80 : decode cX4_init 80 = .ok (.aload_n 0, 1) := by decide +kernel
theorem dX4_init_81 : decode cX4_init 81 = .ok (.sipush 1024, 3) := by decide +kernel
theorem dX4_init_84 : decode cX4_init 84 = .ok (.newarray .int, 2) := by decide +kernel
theorem dX4_init_86 : decode cX4_init 86 = .ok (.putfield 38, 3) := by decide +kernel
theorem dX4_init_89 : decode cX4_init 89 = .ok (.aload_n 0, 1) := by decide +kernel
theorem dX4_init_90 : decode cX4_init 90 = .ok (.bipush 64, 2) := by decide +kernel
theorem dX4_init_92 : decode cX4_init 92 = .ok (.newarray .int, 2) := by decide +kernel
theorem dX4_init_94 : decode cX4_init 94 = .ok (.putfield 41, 3) := by decide +kernel
theorem dX4_init_97 : decode cX4_init 97 = .ok (.aload_n 0, 1) := by decide +kernel
theorem dX4_init_98 : decode cX4_init 98 = .ok (.iconst (-1), 1) := by decide +kernel
theorem dX4_init_99 : decode cX4_init 99 = .ok (.putfield 44, 3) := by decide +kernel
theorem dX4_init_102 : decode cX4_init 102 = .ok (.return_, 1) := by decide +kernel
theorem dX4_thrown_0 : decode cX4_thrown 0 = .ok (.aload_n 0, 1) := by decide +kernel
theorem dX4_thrown_1 : decode cX4_thrown 1 = .ok (.getfield 48, 3) := by decide +kernel
theorem dX4_thrown_4 : decode cX4_thrown 4 = .ok (.ireturn, 1) := by decide +kernel
theorem dX4_summed_0 : decode cX4_summed 0 = .ok (.iload_n 0, 1) := by decide +kernel
theorem dX4_summed_1 : decode cX4_summed 1 = .ok (.iload_n 1, 1) := by decide +kernel
theorem dX4_summed_2 : decode cX4_summed 2 = .ok (.ixor, 1) := by decide +kernel
theorem dX4_summed_3 : decode cX4_summed 3 = .ok (.istore_n 2, 1) := by decide +kernel
theorem dX4_summed_4 : decode cX4_summed 4 = .ok (.iload_n 2, 1) := by decide +kernel
theorem dX4_summed_5 : decode cX4_summed 5 = .ok (.bipush 13, 2) := by decide +kernel
theorem dX4_summed_7 : decode cX4_summed 7 = .ok (.ishl, 1) := by decide +kernel
theorem dX4_summed_8 : decode cX4_summed 8 = .ok (.iload_n 2, 1) := by decide +kernel
theorem dX4_summed_9 : decode cX4_summed 9 = .ok (.bipush 19, 2) := by decide +kernel
theorem dX4_summed_11 : decode cX4_summed 11 = .ok (.iushr, 1) := by decide +kernel
theorem dX4_summed_12 : decode cX4_summed 12 = .ok (.ior, 1) := by decide +kernel
theorem dX4_summed_13 : decode cX4_summed 13 = .ok (.ldc 51, 2) := by decide +kernel
theorem dX4_summed_15 : decode cX4_summed 15 = .ok (.imul, 1) := by decide +kernel
theorem dX4_summed_16 : decode cX4_summed 16 = .ok (.ireturn, 1) := by decide +kernel
theorem dX4_feed_0 : decode cX4_feed 0 = .ok (.aload_n 0, 1) := by decide +kernel
theorem dX4_feed_1 : decode cX4_feed 1 = .ok (.iconst 0, 1) := by decide +kernel
theorem dX4_feed_2 : decode cX4_feed 2 = .ok (.putfield 48, 3) := by decide +kernel
theorem dX4_feed_5 : decode cX4_feed 5 = .ok (.aload_n 0, 1) := by decide +kernel
theorem dX4_feed_6 : decode cX4_feed 6 = .ok (.getfield 52, 3) := by decide +kernel
theorem dX4_feed_9 : decode cX4_feed 9 = .ok (.ifCond .ne 23, 3) := by decide +kernel
theorem dX4_feed_12 : decode cX4_feed 12 = .ok (.iload_n 1, 1) := by decide +kernel
theorem dX4_feed_13 : decode cX4_feed 13 = .ok (.ifCond .lt 19, 3) := by decide +kernel
theorem dX4_feed_16 : decode cX4_feed 16 = .ok (.iload_n 1, 1) := by decide +kernel
theorem dX4_feed_17 : decode cX4_feed 17 = .ok (.sipush 255, 3) := by decide +kernel
theorem dX4_feed_20 : decode cX4_feed 20 = .ok (.if_icmp .gt 12, 3) := by decide +kernel
theorem dX4_feed_23 : decode cX4_feed 23 = .ok (.aload_n 0, 1) := by decide +kernel
theorem dX4_feed_24 : decode cX4_feed 24 = .ok (.getfield 56, 3) := by decide +kernel
theorem dX4_feed_27 : decode cX4_feed 27 = .ok (.bipush 64, 2) := by decide +kernel
theorem dX4_feed_29 : decode cX4_feed 29 = .ok (.if_icmp .ne 5, 3) := by decide +kernel
theorem dX4_feed_32 : decode cX4_feed 32 = .ok (.iconst 0, 1) := by decide +kernel
theorem dX4_feed_33 : decode cX4_feed 33 = .ok (.ireturn, 1) := by decide +kernel
theorem dX4_feed_34 : decode cX4_feed 34 = .ok (.aload_n 0, 1) := by decide +kernel
theorem dX4_feed_35 : decode cX4_feed 35 = .ok (.getfield 41, 3) := by decide +kernel
theorem dX4_feed_38 : decode cX4_feed 38 = .ok (.aload_n 0, 1) := by decide +kernel
theorem dX4_feed_39 : decode cX4_feed 39 = .ok (.getfield 56, 3) := by decide +kernel
theorem dX4_feed_42 : decode cX4_feed 42 = .ok (.iload_n 1, 1) := by decide +kernel
theorem dX4_feed_43 : decode cX4_feed 43 = .ok (.iastore, 1) := by decide +kernel
theorem dX4_feed_44 : decode cX4_feed 44 = .ok (.aload_n 0, 1) := by decide +kernel
theorem dX4_feed_45 : decode cX4_feed 45 = .ok (.dup, 1) := by decide +kernel
theorem dX4_feed_46 : decode cX4_feed 46 = .ok (.getfield 56, 3) := by decide +kernel
theorem dX4_feed_49 : decode cX4_feed 49 = .ok (.iconst 1, 1) := by decide +kernel
theorem dX4_feed_50 : decode cX4_feed 50 = .ok (.iadd, 1) := by decide +kernel
theorem dX4_feed_51 : decode cX4_feed 51 = .ok (.putfield 56, 3) := by decide +kernel
theorem dX4_feed_54 : decode cX4_feed 54 = .ok (.iconst 1, 1) := by decide +kernel
theorem dX4_feed_55 : decode cX4_feed 55 = .ok (.ireturn, 1) := by decide +kernel
theorem dX4_lastSecond_0 : decode cX4_lastSecond 0 = .ok (.aload_n 0, 1) := by decide +kernel
theorem dX4_lastSecond_1 : decode cX4_lastSecond 1 = .ok (.getfield 59, 3) := by decide +kernel
theorem dX4_lastSecond_4 : decode cX4_lastSecond 4 = .ok (.ifCond .le 17, 3) := by decide +kernel
theorem dX4_lastSecond_7 : decode cX4_lastSecond 7 = .ok (.aload_n 0, 1) := by decide +kernel
theorem dX4_lastSecond_8 : decode cX4_lastSecond 8 = .ok (.getfield 32, 3) := by decide +kernel
theorem dX4_lastSecond_11 : decode cX4_lastSecond 11 = .ok (.aload_n 0, 1) := by decide +kernel
theorem dX4_lastSecond_12 : decode cX4_lastSecond 12 = .ok (.getfield 59, 3) := by decide +kernel
theorem dX4_lastSecond_15 : decode cX4_lastSecond 15 = .ok (.iconst 1, 1) := by decide +kernel
theorem dX4_lastSecond_16 : decode cX4_lastSecond 16 = .ok (.isub, 1) := by decide +kernel
theorem dX4_lastSecond_17 : decode cX4_lastSecond 17 = .ok (.iaload, 1) := by decide +kernel
theorem dX4_lastSecond_18 : decode cX4_lastSecond 18 = .ok (.goto 25, 3) := by decide +kernel
theorem dX4_lastSecond_21 : decode cX4_lastSecond 21 = .ok (.aload_n 0, 1) := by decide +kernel
theorem dX4_lastSecond_22 : decode cX4_lastSecond 22 = .ok (.getfield 62, 3) := by decide +kernel
theorem dX4_lastSecond_25 : decode cX4_lastSecond 25 = .ok (.ifCond .le 17, 3) := by decide +kernel
theorem dX4_lastSecond_28 : decode cX4_lastSecond 28 = .ok (.aload_n 0, 1) := by decide +kernel
theorem dX4_lastSecond_29 : decode cX4_lastSecond 29 = .ok (.getfield 16, 3) := by decide +kernel
theorem dX4_lastSecond_32 : decode cX4_lastSecond 32 = .ok (.aload_n 0, 1) := by decide +kernel
theorem dX4_lastSecond_33 : decode cX4_lastSecond 33 = .ok (.getfield 62, 3) := by decide +kernel
theorem dX4_lastSecond_36 : decode cX4_lastSecond 36 = .ok (.iconst 1, 1) := by decide +kernel
theorem dX4_lastSecond_37 : decode cX4_lastSecond 37 = .ok (.isub, 1) := by decide +kernel
theorem dX4_lastSecond_38 : decode cX4_lastSecond 38 = .ok (.iaload, 1) := by decide +kernel
theorem dX4_lastSecond_39 : decode cX4_lastSecond 39 = .ok (.goto 4, 3) := by decide +kernel
theorem dX4_lastSecond_42 : decode cX4_lastSecond 42 = .ok (.iconst 0, 1) := by decide +kernel
theorem dX4_lastSecond_43 : decode cX4_lastSecond 43 = .ok (.ireturn, 1) := by decide +kernel
theorem dX4_row_0 : decode cX4_row 0 = .ok (.aload_n 0, 1) := by decide +kernel
theorem dX4_row_1 : decode cX4_row 1 = .ok (.iconst 0, 1) := by decide +kernel
theorem dX4_row_2 : decode cX4_row 2 = .ok (.putfield 48, 3) := by decide +kernel
theorem dX4_row_5 : decode cX4_row 5 = .ok (.aload_n 0, 1) := by decide +kernel
theorem dX4_row_6 : decode cX4_row 6 = .ok (.getfield 52, 3) := by decide +kernel
theorem dX4_row_9 : decode cX4_row 9 = .ok (.ifCond .ne 28, 3) := by decide +kernel
theorem dX4_row_12 : decode cX4_row 12 = .ok (.aload_n 0, 1) := by decide +kernel
theorem dX4_row_13 : decode cX4_row 13 = .ok (.getfield 56, 3) := by decide +kernel
theorem dX4_row_16 : decode cX4_row 16 = .ok (.ifCond .eq 21, 3) := by decide +kernel
theorem dX4_row_19 : decode cX4_row 19 = .ok (.iload_n 1, 1) := by decide +kernel
theorem dX4_row_20 : decode cX4_row 20 = .ok (.ifCond .lt 17, 3) := by decide +kernel
theorem dX4_row_23 : decode cX4_row 23 = .ok (.iload_n 1, 1) := by decide +kernel
theorem dX4_row_24 : decode cX4_row 24 = .ok (.ldc 65, 2) := by decide +kernel
theorem dX4_row_26 : decode cX4_row 26 = .ok (.if_icmp .gt 11, 3) := by decide +kernel
theorem dX4_row_29 : decode cX4_row 29 = .ok (.iload_n 1, 1) := by decide +kernel
theorem dX4_row_30 : decode cX4_row 30 = .ok (.aload_n 0, 1) := by decide +kernel
theorem dX4_row_31 : decode cX4_row 31 = .ok (.invokevirtual 66, 3) := by decide +kernel
theorem dX4_row_34 : decode cX4_row 34 = .ok (.if_icmp .ge 5, 3) := by decide +kernel
theorem dX4_row_37 : decode cX4_row 37 = .ok (.iconst (-1), 1) := by decide +kernel
theorem dX4_row_38 : decode cX4_row 38 = .ok (.ireturn, 1) := by decide +kernel
theorem dX4_row_39 : decode cX4_row 39 = .ok (.aload_n 0, 1) := by decide +kernel
theorem dX4_row_40 : decode cX4_row 40 = .ok (.getfield 59, 3) := by decide +kernel
theorem dX4_row_43 : decode cX4_row 43 = .ok (.bipush 16, 2) := by decide +kernel
theorem dX4_row_45 : decode cX4_row 45 = .ok (.if_icmp .eq 18, 3) := by decide +kernel
theorem dX4_row_48 : decode cX4_row 48 = .ok (.aload_n 0, 1) := by decide +kernel
theorem dX4_row_49 : decode cX4_row 49 = .ok (.getfield 62, 3) := by decide +kernel
theorem dX4_row_52 : decode cX4_row 52 = .ok (.aload_n 0, 1) := by decide +kernel
theorem dX4_row_53 : decode cX4_row 53 = .ok (.getfield 59, 3) := by decide +kernel
theorem dX4_row_56 : decode cX4_row 56 = .ok (.iadd, 1) := by decide +kernel
theorem dX4_row_57 : decode cX4_row 57 = .ok (.sipush 600, 3) := by decide +kernel
theorem dX4_row_60 : decode cX4_row 60 = .ok (.if_icmp .ne 6, 3) := by decide +kernel
theorem dX4_row_63 : decode cX4_row 63 = .ok (.bipush (-2), 2) := by decide +kernel
theorem dX4_row_65 : decode cX4_row 65 = .ok (.ireturn, 1) := by decide +kernel
theorem dX4_row_66 : decode cX4_row 66 = .ok (.aload_n 0, 1) := by decide +kernel
theorem dX4_row_67 : decode cX4_row 67 = .ok (.getfield 32, 3) := by decide +kernel
theorem dX4_row_70 : decode cX4_row 70 = .ok (.aload_n 0, 1) := by decide +kernel
theorem dX4_row_71 : decode cX4_row 71 = .ok (.getfield 59, 3) := by decide +kernel
theorem dX4_row_74 : decode cX4_row 74 = .ok (.iload_n 1, 1) := by decide +kernel
theorem dX4_row_75 : decode cX4_row 75 = .ok (.iastore, 1) := by decide +kernel
theorem dX4_row_76 : decode cX4_row 76 = .ok (.aload_n 0, 1) := by decide +kernel
theorem dX4_row_77 : decode cX4_row 77 = .ok (.getfield 35, 3) := by decide +kernel
theorem dX4_row_80 : decode cX4_row 80 = .ok (.aload_n 0, 1) := by decide +kernel
theorem dX4_row_81 : decode cX4_row 81 = .ok (.getfield 59, 3) := by decide +kernel
theorem dX4_row_84 : decode cX4_row 84 = .ok (.aload_n 0, 1) := by decide +kernel
theorem dX4_row_85 : decode cX4_row 85 = .ok (.getfield 56, 3) := by decide +kernel
theorem dX4_row_88 : decode cX4_row 88 = .ok (.iastore, 1) := by decide +kernel
theorem dX4_row_89 : decode cX4_row 89 = .ok (.iconst 0, 1) := by decide +kernel
theorem dX4_row_90 : decode cX4_row 90 = .ok (.istore_n 2, 1) := by decide +kernel
theorem dX4_row_91 : decode cX4_row 91 = .ok (.iload_n 2, 1) := by decide +kernel
theorem dX4_row_92 : decode cX4_row 92 = .ok (.aload_n 0, 1) := by decide +kernel
theorem dX4_row_93 : decode cX4_row 93 = .ok (.getfield 56, 3) := by decide +kernel
theorem dX4_row_96 : decode cX4_row 96 = .ok (.if_icmp .ge 29, 3) := by decide +kernel
theorem dX4_row_99 : decode cX4_row 99 = .ok (.aload_n 0, 1) := by decide +kernel
theorem dX4_row_100 : decode cX4_row 100 = .ok (.getfield 38, 3) := by decide +kernel
theorem dX4_row_103 : decode cX4_row 103 = .ok (.aload_n 0, 1) := by decide +kernel
theorem dX4_row_104 : decode cX4_row 104 = .ok (.getfield 59, 3) := by decide +kernel
theorem dX4_row_107 : decode cX4_row 107 = .ok (.bipush 64, 2) := by decide +kernel
theorem dX4_row_109 : decode cX4_row 109 = .ok (.imul, 1) := by decide +kernel
theorem dX4_row_110 : decode cX4_row 110 = .ok (.iload_n 2, 1) := by decide +kernel
theorem dX4_row_111 : decode cX4_row 111 = .ok (.iadd, 1) := by decide +kernel
theorem dX4_row_112 : decode cX4_row 112 = .ok (.aload_n 0, 1) := by decide +kernel
theorem dX4_row_113 : decode cX4_row 113 = .ok (.getfield 41, 3) := by decide +kernel
theorem dX4_row_116 : decode cX4_row 116 = .ok (.iload_n 2, 1) := by decide +kernel
theorem dX4_row_117 : decode cX4_row 117 = .ok (.iaload, 1) := by decide +kernel
theorem dX4_row_118 : decode cX4_row 118 = .ok (.iastore, 1) := by decide +kernel
theorem dX4_row_119 : decode cX4_row 119 = .ok (.iinc 2 1, 3) := by decide +kernel
theorem dX4_row_122 : decode cX4_row 122 = .ok (.goto (-31), 3) := by decide +kernel
theorem dX4_row_125 : decode cX4_row 125 = .ok (.aload_n 0, 1) := by decide +kernel
theorem dX4_row_126 : decode cX4_row 126 = .ok (.iconst 0, 1) := by decide +kernel
theorem dX4_row_127 : decode cX4_row 127 = .ok (.putfield 56, 3) := by decide +kernel
theorem dX4_row_130 : decode cX4_row 130 = .ok (.aload_n 0, 1) := by decide +kernel
theorem dX4_row_131 : decode cX4_row 131 = .ok (.dup, 1) := by decide +kernel
theorem dX4_row_132 : decode cX4_row 132 = .ok (.getfield 59, 3) := by decide +kernel
theorem dX4_row_135 : decode cX4_row 135 = .ok (.iconst 1, 1) := by decide +kernel
theorem dX4_row_136 : decode cX4_row 136 = .ok (.iadd, 1) := by decide +kernel
theorem dX4_row_137 : decode cX4_row 137 = .ok (.putfield 59, 3) := by decide +kernel
theorem dX4_row_140 : decode cX4_row 140 = .ok (.aload_n 0, 1) := by decide +kernel
theorem dX4_row_141 : decode cX4_row 141 = .ok (.getfield 59, 3) := by decide +kernel
theorem dX4_row_144 : decode cX4_row 144 = .ok (.iconst 1, 1) := by decide +kernel
theorem dX4_row_145 : decode cX4_row 145 = .ok (.isub, 1) := by decide +kernel
theorem dX4_row_146 : decode cX4_row 146 = .ok (.ireturn, 1) := by decide +kernel
theorem dX4_write_0 : decode cX4_write 0 = .ok (.aload_n 0, 1) := by decide +kernel
theorem dX4_write_1 : decode cX4_write 1 = .ok (.getfield 9, 3) := by decide +kernel
theorem dX4_write_4 : decode cX4_write 4 = .ok (.aload_n 0, 1) := by decide +kernel
theorem dX4_write_5 : decode cX4_write 5 = .ok (.getfield 70, 3) := by decide +kernel
theorem dX4_write_8 : decode cX4_write 8 = .ok (.iload_n 2, 1) := by decide +kernel
theorem dX4_write_9 : decode cX4_write 9 = .ok (.iastore, 1) := by decide +kernel
theorem dX4_write_10 : decode cX4_write 10 = .ok (.aload_n 0, 1) := by decide +kernel
theorem dX4_write_11 : decode cX4_write 11 = .ok (.getfield 9, 3) := by decide +kernel
theorem dX4_write_14 : decode cX4_write 14 = .ok (.sipush 8192, 3) := by decide +kernel
theorem dX4_write_17 : decode cX4_write 17 = .ok (.aload_n 0, 1) := by decide +kernel
theorem dX4_write_18 : decode cX4_write 18 = .ok (.getfield 70, 3) := by decide +kernel
theorem dX4_write_21 : decode cX4_write 21 = .ok (.iadd, 1) := by decide +kernel
theorem dX4_write_22 : decode cX4_write 22 = .ok (.iload_n 2, 1) := by decide +kernel
theorem dX4_write_23 : decode cX4_write 23 = .ok (.iastore, 1) := by decide +kernel
theorem dX4_write_24 : decode cX4_write 24 = .ok (.aload_n 0, 1) := by decide +kernel
theorem dX4_write_25 : decode cX4_write 25 = .ok (.dup, 1) := by decide +kernel
theorem dX4_write_26 : decode cX4_write 26 = .ok (.getfield 70, 3) := by decide +kernel
theorem dX4_write_29 : decode cX4_write 29 = .ok (.iconst 1, 1) := by decide +kernel
theorem dX4_write_30 : decode cX4_write 30 = .ok (.iadd, 1) := by decide +kernel
theorem dX4_write_31 : decode cX4_write 31 = .ok (.putfield 70, 3) := by decide +kernel
theorem dX4_write_34 : decode cX4_write 34 = .ok (.iload_n 1, 1) := by decide +kernel
theorem dX4_write_35 : decode cX4_write 35 = .ok (.iload_n 2, 1) := by decide +kernel
theorem dX4_write_36 : decode cX4_write 36 = .ok (.invokestatic 73, 3) := by decide +kernel
theorem dX4_write_39 : decode cX4_write 39 = .ok (.ireturn, 1) := by decide +kernel
theorem dX4_four_0 : decode cX4_four 0 = .ok (.bipush 24, 2) := by decide +kernel
theorem dX4_four_2 : decode cX4_four 2 = .ok (.istore_n 2, 1) := by decide +kernel
theorem dX4_four_3 : decode cX4_four 3 = .ok (.iload_n 2, 1) := by decide +kernel
theorem dX4_four_4 : decode cX4_four 4 = .ok (.ifCond .lt 22, 3) := by decide +kernel
theorem dX4_four_7 : decode cX4_four 7 = .ok (.aload_n 0, 1) := by decide +kernel
theorem dX4_four_8 : decode cX4_four 8 = .ok (.iconst 0, 1) := by decide +kernel
theorem dX4_four_9 : decode cX4_four 9 = .ok (.iload_n 1, 1) := by decide +kernel
theorem dX4_four_10 : decode cX4_four 10 = .ok (.iload_n 2, 1) := by decide +kernel
theorem dX4_four_11 : decode cX4_four 11 = .ok (.iushr, 1) := by decide +kernel
theorem dX4_four_12 : decode cX4_four 12 = .ok (.sipush 255, 3) := by decide +kernel
theorem dX4_four_15 : decode cX4_four 15 = .ok (.iand, 1) := by decide +kernel
theorem dX4_four_16 : decode cX4_four 16 = .ok (.invokevirtual 77, 3) := by decide +kernel
theorem dX4_four_19 : decode cX4_four 19 = .ok (.istore_n 3, 1) := by decide +kernel
theorem dX4_four_20 : decode cX4_four 20 = .ok (.iinc 2 (-8), 3) := by decide +kernel
theorem dX4_four_23 : decode cX4_four 23 = .ok (.goto (-20), 3) := by decide +kernel
theorem dX4_four_26 : decode cX4_four 26 = .ok (.return_, 1) := by decide +kernel
theorem dX4_endGroup_0 : decode cX4_endGroup 0 = .ok (.aload_n 0, 1) := by decide +kernel
theorem dX4_endGroup_1 : decode cX4_endGroup 1 = .ok (.iconst 0, 1) := by decide +kernel
theorem dX4_endGroup_2 : decode cX4_endGroup 2 = .ok (.putfield 48, 3) := by decide +kernel
theorem dX4_endGroup_5 : decode cX4_endGroup 5 = .ok (.bipush 6, 2) := by decide +kernel
theorem dX4_endGroup_7 : decode cX4_endGroup 7 = .ok (.istore_n 1, 1) := by decide +kernel
theorem dX4_endGroup_8 : decode cX4_endGroup 8 = .ok (.iconst 0, 1) := by decide +kernel
theorem dX4_endGroup_9 : decode cX4_endGroup 9 = .ok (.istore_n 2, 1) := by decide +kernel
theorem dX4_endGroup_10 : decode cX4_endGroup 10 = .ok (.iload_n 2, 1) := by decide +kernel
theorem dX4_endGroup_11 : decode cX4_endGroup 11 = .ok (.aload_n 0, 1) := by decide +kernel
theorem dX4_endGroup_12 : decode cX4_endGroup 12 = .ok (.getfield 59, 3) := by decide +kernel
theorem dX4_endGroup_15 : decode cX4_endGroup 15 = .ok (.if_icmp .ge 21, 3) := by decide +kernel
theorem dX4_endGroup_18 : decode cX4_endGroup 18 = .ok (.iload_n 1, 1) := by decide +kernel
theorem dX4_endGroup_19 : decode cX4_endGroup 19 = .ok (.bipush 11, 2) := by decide +kernel
theorem dX4_endGroup_21 : decode cX4_endGroup 21 = .ok (.aload_n 0, 1) := by decide +kernel
theorem dX4_endGroup_22 : decode cX4_endGroup 22 = .ok (.getfield 35, 3) := by decide +kernel
theorem dX4_endGroup_25 : decode cX4_endGroup 25 = .ok (.iload_n 2, 1) := by decide +kernel
theorem dX4_endGroup_26 : decode cX4_endGroup 26 = .ok (.iaload, 1) := by decide +kernel
theorem dX4_endGroup_27 : decode cX4_endGroup 27 = .ok (.iadd, 1) := by decide +kernel
theorem dX4_endGroup_28 : decode cX4_endGroup 28 = .ok (.iadd, 1) := by decide +kernel
theorem dX4_endGroup_29 : decode cX4_endGroup 29 = .ok (.istore_n 1, 1) := by decide +kernel
theorem dX4_endGroup_30 : decode cX4_endGroup 30 = .ok (.iinc 2 1, 3) := by decide +kernel
theorem dX4_endGroup_33 : decode cX4_endGroup 33 = .ok (.goto (-23), 3) := by decide +kernel
theorem dX4_endGroup_36 : decode cX4_endGroup 36 = .ok (.aload_n 0, 1) := by decide +kernel
theorem dX4_endGroup_37 : decode cX4_endGroup 37 = .ok (.getfield 52, 3) := by decide +kernel
theorem dX4_endGroup_40 : decode cX4_endGroup 40 = .ok (.ifCond .ne 38, 3) := by decide +kernel
theorem dX4_endGroup_43 : decode cX4_endGroup 43 = .ok (.aload_n 0, 1) := by decide +kernel
theorem dX4_endGroup_44 : decode cX4_endGroup 44 = .ok (.getfield 59, 3) := by decide +kernel
theorem dX4_endGroup_47 : decode cX4_endGroup 47 = .ok (.ifCond .eq 31, 3) := by decide +kernel
theorem dX4_endGroup_50 : decode cX4_endGroup 50 = .ok (.aload_n 0, 1) := by decide +kernel
theorem dX4_endGroup_51 : decode cX4_endGroup 51 = .ok (.getfield 13, 3) := by decide +kernel
theorem dX4_endGroup_54 : decode cX4_endGroup 54 = .ok (.iconst 0, 1) := by decide +kernel
theorem dX4_endGroup_55 : decode cX4_endGroup 55 = .ok (.iaload, 1) := by decide +kernel
theorem dX4_endGroup_56 : decode cX4_endGroup 56 = .ok (.iload_n 1, 1) := by decide +kernel
theorem dX4_endGroup_57 : decode cX4_endGroup 57 = .ok (.iadd, 1) := by decide +kernel
theorem dX4_endGroup_58 : decode cX4_endGroup 58 = .ok (.sipush 8192, 3) := by decide +kernel
theorem dX4_endGroup_61 : decode cX4_endGroup 61 = .ok (.if_icmp .gt 17, 3) := by decide +kernel
theorem dX4_endGroup_64 : decode cX4_endGroup 64 = .ok (.aload_n 0, 1) := by decide +kernel
theorem dX4_endGroup_65 : decode cX4_endGroup 65 = .ok (.getfield 13, 3) := by decide +kernel
theorem dX4_endGroup_68 : decode cX4_endGroup 68 = .ok (.iconst 1, 1) := by decide +kernel
theorem dX4_endGroup_69 : decode cX4_endGroup 69 = .ok (.iaload, 1) := by decide +kernel
theorem dX4_endGroup_70 : decode cX4_endGroup 70 = .ok (.iload_n 1, 1) := by decide +kernel
theorem dX4_endGroup_71 : decode cX4_endGroup 71 = .ok (.iadd, 1) := by decide +kernel
theorem dX4_endGroup_72 : decode cX4_endGroup 72 = .ok (.sipush 8192, 3) := by decide +kernel
theorem dX4_endGroup_75 : decode cX4_endGroup 75 = .ok (.if_icmp .le 5, 3) := by decide +kernel
theorem dX4_endGroup_78 : decode cX4_endGroup 78 = .ok (.iconst 0, 1) := by decide +kernel
theorem dX4_endGroup_79 : decode cX4_endGroup 79 = .ok (.ireturn, 1) := by decide +kernel
theorem dX4_endGroup_80 : decode cX4_endGroup 80 = .ok (.aload_n 0, 1) := by decide +kernel
theorem dX4_endGroup_81 : decode cX4_endGroup 81 = .ok (.aload_n 0, 1) := by decide +kernel
theorem dX4_endGroup_82 : decode cX4_endGroup 82 = .ok (.getfield 13, 3) := by decide +kernel
theorem dX4_endGroup_85 : decode cX4_endGroup 85 = .ok (.iconst 0, 1) := by decide +kernel
theorem dX4_endGroup_86 : decode cX4_endGroup 86 = .ok (.iaload, 1) := by decide +kernel
theorem dX4_endGroup_87 : decode cX4_endGroup 87 = .ok (.putfield 70, 3) := by decide +kernel
theorem dX4_endGroup_90 : decode cX4_endGroup 90 = .ok (.iconst 0, 1) := by decide +kernel
theorem dX4_endGroup_91 : decode cX4_endGroup 91 = .ok (.istore_n 2, 1) := by decide +kernel
theorem dX4_endGroup_92 : decode cX4_endGroup 92 = .ok (.iconst 0, 1) := by decide +kernel
theorem dX4_endGroup_93 : decode cX4_endGroup 93 = .ok (.istore_n 3, 1) := by decide +kernel
theorem dX4_endGroup_94 : decode cX4_endGroup 94 = .ok (.iload_n 3, 1) := by decide +kernel
theorem dX4_endGroup_95 : decode cX4_endGroup 95 = .ok (.aload_n 0, 1) := by decide +kernel
theorem dX4_endGroup_96 : decode cX4_endGroup 96 = .ok (.getfield 59, 3) := by decide +kernel
theorem dX4_endGroup_99 : decode cX4_endGroup 99 = .ok (.if_icmp .ge 192, 3) := by decide +kernel
theorem dX4_endGroup_102 : decode cX4_endGroup 102 = .ok (.aload_n 0, 1) := by decide +kernel
theorem dX4_endGroup_103 : decode cX4_endGroup 103 = .ok (.iconst 0, 1) := by decide +kernel
theorem dX4_endGroup_104 : decode cX4_endGroup 104 = .ok (.aload_n 0, 1) := by decide +kernel
theorem dX4_endGroup_105 : decode cX4_endGroup 105 = .ok (.getfield 35, 3) := by decide +kernel
theorem dX4_endGroup_108 : decode cX4_endGroup 108 = .ok (.iload_n 3, 1) := by decide +kernel
theorem dX4_endGroup_109 : decode cX4_endGroup 109 = .ok (.iaload, 1) := by decide +kernel
theorem dX4_endGroup_110 : decode cX4_endGroup 110 = .ok (.invokevirtual 77, 3) := by decide +kernel
theorem dX4_endGroup_113 : decode cX4_endGroup 113 = .ok (.istore_n 2, 1) := by decide +kernel
theorem dX4_endGroup_114 : decode cX4_endGroup 114 = .ok (.bipush 24, 2) := by decide +kernel
theorem dX4_endGroup_116 : decode cX4_endGroup 116 = .ok (.istore 4, 2) := by decide +kernel
theorem dX4_endGroup_118 : decode cX4_endGroup 118 = .ok (.iload 4, 2) := by decide +kernel
theorem dX4_endGroup_120 : decode cX4_endGroup 120 = .ok (.ifCond .lt 28, 3) := by decide +kernel
theorem dX4_endGroup_123 : decode cX4_endGroup 123 = .ok (.aload_n 0, 1) := by decide +kernel
theorem dX4_endGroup_124 : decode cX4_endGroup 124 = .ok (.iload_n 2, 1) := by decide +kernel
theorem dX4_endGroup_125 : decode cX4_endGroup 125 = .ok (.aload_n 0, 1) := by decide +kernel
theorem dX4_endGroup_126 : decode cX4_endGroup 126 = .ok (.getfield 32, 3) := by decide +kernel
theorem dX4_endGroup_129 : decode cX4_endGroup 129 = .ok (.iload_n 3, 1) := by decide +kernel
theorem dX4_endGroup_130 : decode cX4_endGroup 130 = .ok (.iaload, 1) := by decide +kernel
theorem dX4_endGroup_131 : decode cX4_endGroup 131 = .ok (.iload 4, 2) := by decide +kernel
theorem dX4_endGroup_133 : decode cX4_endGroup 133 = .ok (.iushr, 1) := by decide +kernel
theorem dX4_endGroup_134 : decode cX4_endGroup 134 = .ok (.sipush 255, 3) := by decide +kernel
theorem dX4_endGroup_137 : decode cX4_endGroup 137 = .ok (.iand, 1) := by decide +kernel
theorem dX4_endGroup_138 : decode cX4_endGroup 138 = .ok (.invokevirtual 77, 3) := by decide +kernel
theorem dX4_endGroup_141 : decode cX4_endGroup 141 = .ok (.istore_n 2, 1) := by decide +kernel
theorem dX4_endGroup_142 : decode cX4_endGroup 142 = .ok (.iinc 4 (-8), 3) := by decide +kernel
theorem dX4_endGroup_145 : decode cX4_endGroup 145 = .ok (.goto (-27), 3) := by decide +kernel
theorem dX4_endGroup_148 : decode cX4_endGroup 148 = .ok (.iconst 0, 1) := by decide +kernel
theorem dX4_endGroup_149 : decode cX4_endGroup 149 = .ok (.istore 4, 2) := by decide +kernel
theorem dX4_endGroup_151 : decode cX4_endGroup 151 = .ok (.iload 4, 2) := by decide +kernel
theorem dX4_endGroup_153 : decode cX4_endGroup 153 = .ok (.aload_n 0, 1) := by decide +kernel
theorem dX4_endGroup_154 : decode cX4_endGroup 154 = .ok (.getfield 35, 3) := by decide +kernel
theorem dX4_endGroup_157 : decode cX4_endGroup 157 = .ok (.iload_n 3, 1) := by decide +kernel
theorem dX4_endGroup_158 : decode cX4_endGroup 158 = .ok (.iaload, 1) := by decide +kernel
theorem dX4_endGroup_159 : decode cX4_endGroup 159 = .ok (.if_icmp .ge 54, 3) := by decide +kernel
theorem dX4_endGroup_162 : decode cX4_endGroup 162 = .ok (.aload_n 0, 1) := by decide +kernel
theorem dX4_endGroup_163 : decode cX4_endGroup 163 = .ok (.iload_n 2, 1) := by decide +kernel
theorem dX4_endGroup_164 : decode cX4_endGroup 164 = .ok (.aload_n 0, 1) := by decide +kernel
theorem dX4_endGroup_165 : decode cX4_endGroup 165 = .ok (.getfield 38, 3) := by decide +kernel
theorem dX4_endGroup_168 : decode cX4_endGroup 168 = .ok (.iload_n 3, 1) := by decide +kernel
theorem dX4_endGroup_169 : decode cX4_endGroup 169 = .ok (.bipush 64, 2) := by decide +kernel
theorem dX4_endGroup_171 : decode cX4_endGroup 171 = .ok (.imul, 1) := by decide +kernel
theorem dX4_endGroup_172 : decode cX4_endGroup 172 = .ok (.iload 4, 2) := by decide +kernel
theorem dX4_endGroup_174 : decode cX4_endGroup 174 = .ok (.iadd, 1) := by decide +kernel
theorem dX4_endGroup_175 : decode cX4_endGroup 175 = .ok (.iaload, 1) := by decide +kernel
theorem dX4_endGroup_176 : decode cX4_endGroup 176 = .ok (.invokevirtual 77, 3) := by decide +kernel
theorem dX4_endGroup_179 : decode cX4_endGroup 179 = .ok (.istore_n 2, 1) := by decide +kernel
theorem dX4_endGroup_180 : decode cX4_endGroup 180 = .ok (.aload_n 0, 1) := by decide +kernel
theorem dX4_endGroup_181 : decode cX4_endGroup 181 = .ok (.getfield 23, 3) := by decide +kernel
theorem dX4_endGroup_184 : decode cX4_endGroup 184 = .ok (.aload_n 0, 1) := by decide +kernel
theorem dX4_endGroup_185 : decode cX4_endGroup 185 = .ok (.getfield 62, 3) := by decide +kernel
theorem dX4_endGroup_188 : decode cX4_endGroup 188 = .ok (.bipush 64, 2) := by decide +kernel
theorem dX4_endGroup_190 : decode cX4_endGroup 190 = .ok (.imul, 1) := by decide +kernel
theorem dX4_endGroup_191 : decode cX4_endGroup 191 = .ok (.iload 4, 2) := by decide +kernel
theorem dX4_endGroup_193 : decode cX4_endGroup 193 = .ok (.iadd, 1) := by decide +kernel
theorem dX4_endGroup_194 : decode cX4_endGroup 194 = .ok (.aload_n 0, 1) := by decide +kernel
theorem dX4_endGroup_195 : decode cX4_endGroup 195 = .ok (.getfield 38, 3) := by decide +kernel
theorem dX4_endGroup_198 : decode cX4_endGroup 198 = .ok (.iload_n 3, 1) := by decide +kernel
theorem dX4_endGroup_199 : decode cX4_endGroup 199 = .ok (.bipush 64, 2) := by decide +kernel
theorem dX4_endGroup_201 : decode cX4_endGroup 201 = .ok (.imul, 1) := by decide +kernel
theorem dX4_endGroup_202 : decode cX4_endGroup 202 = .ok (.iload 4, 2) := by decide +kernel
theorem dX4_endGroup_204 : decode cX4_endGroup 204 = .ok (.iadd, 1) := by decide +kernel
theorem dX4_endGroup_205 : decode cX4_endGroup 205 = .ok (.iaload, 1) := by decide +kernel
theorem dX4_endGroup_206 : decode cX4_endGroup 206 = .ok (.iastore, 1) := by decide +kernel
theorem dX4_endGroup_207 : decode cX4_endGroup 207 = .ok (.iinc 4 1, 3) := by decide +kernel
theorem dX4_endGroup_210 : decode cX4_endGroup 210 = .ok (.goto (-59), 3) := by decide +kernel
theorem dX4_endGroup_213 : decode cX4_endGroup 213 = .ok (.aload_n 0, 1) := by decide +kernel
theorem dX4_endGroup_214 : decode cX4_endGroup 214 = .ok (.iload_n 2, 1) := by decide +kernel
theorem dX4_endGroup_215 : decode cX4_endGroup 215 = .ok (.aload_n 0, 1) := by decide +kernel
theorem dX4_endGroup_216 : decode cX4_endGroup 216 = .ok (.getfield 62, 3) := by decide +kernel
theorem dX4_endGroup_219 : decode cX4_endGroup 219 = .ok (.bipush 8, 2) := by decide +kernel
theorem dX4_endGroup_221 : decode cX4_endGroup 221 = .ok (.iushr, 1) := by decide +kernel
theorem dX4_endGroup_222 : decode cX4_endGroup 222 = .ok (.invokevirtual 77, 3) := by decide +kernel
theorem dX4_endGroup_225 : decode cX4_endGroup 225 = .ok (.istore_n 2, 1) := by decide +kernel
theorem dX4_endGroup_226 : decode cX4_endGroup 226 = .ok (.aload_n 0, 1) := by decide +kernel
theorem dX4_endGroup_227 : decode cX4_endGroup 227 = .ok (.iload_n 2, 1) := by decide +kernel
theorem dX4_endGroup_228 : decode cX4_endGroup 228 = .ok (.aload_n 0, 1) := by decide +kernel
theorem dX4_endGroup_229 : decode cX4_endGroup 229 = .ok (.getfield 62, 3) := by decide +kernel
theorem dX4_endGroup_232 : decode cX4_endGroup 232 = .ok (.sipush 255, 3) := by decide +kernel
theorem dX4_endGroup_235 : decode cX4_endGroup 235 = .ok (.iand, 1) := by decide +kernel
theorem dX4_endGroup_236 : decode cX4_endGroup 236 = .ok (.invokevirtual 77, 3) := by decide +kernel
theorem dX4_endGroup_239 : decode cX4_endGroup 239 = .ok (.istore_n 2, 1) := by decide +kernel
theorem dX4_endGroup_240 : decode cX4_endGroup 240 = .ok (.aload_n 0, 1) := by decide +kernel
theorem dX4_endGroup_241 : decode cX4_endGroup 241 = .ok (.iload_n 2, 1) := by decide +kernel
theorem dX4_endGroup_242 : decode cX4_endGroup 242 = .ok (.invokevirtual 80, 3) := by decide +kernel
theorem dX4_endGroup_245 : decode cX4_endGroup 245 = .ok (.aload_n 0, 1) := by decide +kernel
theorem dX4_endGroup_246 : decode cX4_endGroup 246 = .ok (.getfield 16, 3) := by decide +kernel
theorem dX4_endGroup_249 : decode cX4_endGroup 249 = .ok (.aload_n 0, 1) := by decide +kernel
theorem dX4_endGroup_250 : decode cX4_endGroup 250 = .ok (.getfield 62, 3) := by decide +kernel
theorem dX4_endGroup_253 : decode cX4_endGroup 253 = .ok (.aload_n 0, 1) := by decide +kernel
theorem dX4_endGroup_254 : decode cX4_endGroup 254 = .ok (.getfield 32, 3) := by decide +kernel
theorem dX4_endGroup_257 : decode cX4_endGroup 257 = .ok (.iload_n 3, 1) := by decide +kernel
theorem dX4_endGroup_258 : decode cX4_endGroup 258 = .ok (.iaload, 1) := by decide +kernel
theorem dX4_endGroup_259 : decode cX4_endGroup 259 = .ok (.iastore, 1) := by decide +kernel
theorem dX4_endGroup_260 : decode cX4_endGroup 260 = .ok (.aload_n 0, 1) := by decide +kernel
theorem dX4_endGroup_261 : decode cX4_endGroup 261 = .ok (.getfield 19, 3) := by decide +kernel
theorem dX4_endGroup_264 : decode cX4_endGroup 264 = .ok (.aload_n 0, 1) := by decide +kernel
theorem dX4_endGroup_265 : decode cX4_endGroup 265 = .ok (.getfield 62, 3) := by decide +kernel
theorem dX4_endGroup_268 : decode cX4_endGroup 268 = .ok (.aload_n 0, 1) := by decide +kernel
theorem dX4_endGroup_269 : decode cX4_endGroup 269 = .ok (.getfield 35, 3) := by decide +kernel
theorem dX4_endGroup_272 : decode cX4_endGroup 272 = .ok (.iload_n 3, 1) := by decide +kernel
theorem dX4_endGroup_273 : decode cX4_endGroup 273 = .ok (.iaload, 1) := by decide +kernel
theorem dX4_endGroup_274 : decode cX4_endGroup 274 = .ok (.iastore, 1) := by decide +kernel
theorem dX4_endGroup_275 : decode cX4_endGroup 275 = .ok (.aload_n 0, 1) := by decide +kernel
theorem dX4_endGroup_276 : decode cX4_endGroup 276 = .ok (.dup, 1) := by decide +kernel
theorem dX4_endGroup_277 : decode cX4_endGroup 277 = .ok (.getfield 62, 3) := by decide +kernel
theorem dX4_endGroup_280 : decode cX4_endGroup 280 = .ok (.iconst 1, 1) := by decide +kernel
theorem dX4_endGroup_281 : decode cX4_endGroup 281 = .ok (.iadd, 1) := by decide +kernel
theorem dX4_endGroup_282 : decode cX4_endGroup 282 = .ok (.putfield 62, 3) := by decide +kernel
theorem dX4_endGroup_285 : decode cX4_endGroup 285 = .ok (.iinc 3 1, 3) := by decide +kernel
theorem dX4_endGroup_288 : decode cX4_endGroup 288 = .ok (.goto (-194), 3) := by decide +kernel
theorem dX4_endGroup_291 : decode cX4_endGroup 291 = .ok (.aload_n 0, 1) := by decide +kernel
theorem dX4_endGroup_292 : decode cX4_endGroup 292 = .ok (.iload_n 2, 1) := by decide +kernel
theorem dX4_endGroup_293 : decode cX4_endGroup 293 = .ok (.iconst 0, 1) := by decide +kernel
theorem dX4_endGroup_294 : decode cX4_endGroup 294 = .ok (.invokevirtual 77, 3) := by decide +kernel
theorem dX4_endGroup_297 : decode cX4_endGroup 297 = .ok (.istore_n 2, 1) := by decide +kernel
theorem dX4_endGroup_298 : decode cX4_endGroup 298 = .ok (.aload_n 0, 1) := by decide +kernel
theorem dX4_endGroup_299 : decode cX4_endGroup 299 = .ok (.iload_n 2, 1) := by decide +kernel
theorem dX4_endGroup_300 : decode cX4_endGroup 300 = .ok (.aload_n 0, 1) := by decide +kernel
theorem dX4_endGroup_301 : decode cX4_endGroup 301 = .ok (.getfield 59, 3) := by decide +kernel
theorem dX4_endGroup_304 : decode cX4_endGroup 304 = .ok (.invokevirtual 77, 3) := by decide +kernel
theorem dX4_endGroup_307 : decode cX4_endGroup 307 = .ok (.istore_n 2, 1) := by decide +kernel
theorem dX4_endGroup_308 : decode cX4_endGroup 308 = .ok (.aload_n 0, 1) := by decide +kernel
theorem dX4_endGroup_309 : decode cX4_endGroup 309 = .ok (.iload_n 2, 1) := by decide +kernel
theorem dX4_endGroup_310 : decode cX4_endGroup 310 = .ok (.invokevirtual 80, 3) := by decide +kernel
theorem dX4_endGroup_313 : decode cX4_endGroup 313 = .ok (.aload_n 0, 1) := by decide +kernel
theorem dX4_endGroup_314 : decode cX4_endGroup 314 = .ok (.getfield 13, 3) := by decide +kernel
theorem dX4_endGroup_317 : decode cX4_endGroup 317 = .ok (.iconst 0, 1) := by decide +kernel
theorem dX4_endGroup_318 : decode cX4_endGroup 318 = .ok (.aload_n 0, 1) := by decide +kernel
theorem dX4_endGroup_319 : decode cX4_endGroup 319 = .ok (.getfield 70, 3) := by decide +kernel
theorem dX4_endGroup_322 : decode cX4_endGroup 322 = .ok (.iastore, 1) := by decide +kernel
theorem dX4_endGroup_323 : decode cX4_endGroup 323 = .ok (.aload_n 0, 1) := by decide +kernel
theorem dX4_endGroup_324 : decode cX4_endGroup 324 = .ok (.getfield 13, 3) := by decide +kernel
theorem dX4_endGroup_327 : decode cX4_endGroup 327 = .ok (.iconst 1, 1) := by decide +kernel
theorem dX4_endGroup_328 : decode cX4_endGroup 328 = .ok (.aload_n 0, 1) := by decide +kernel
theorem dX4_endGroup_329 : decode cX4_endGroup 329 = .ok (.getfield 70, 3) := by decide +kernel
theorem dX4_endGroup_332 : decode cX4_endGroup 332 = .ok (.iastore, 1) := by decide +kernel
theorem dX4_endGroup_333 : decode cX4_endGroup 333 = .ok (.aload_n 0, 1) := by decide +kernel
theorem dX4_endGroup_334 : decode cX4_endGroup 334 = .ok (.getfield 26, 3) := by decide +kernel
theorem dX4_endGroup_337 : decode cX4_endGroup 337 = .ok (.aload_n 0, 1) := by decide +kernel
theorem dX4_endGroup_338 : decode cX4_endGroup 338 = .ok (.getfield 84, 3) := by decide +kernel
theorem dX4_endGroup_341 : decode cX4_endGroup 341 = .ok (.aload_n 0, 1) := by decide +kernel
theorem dX4_endGroup_342 : decode cX4_endGroup 342 = .ok (.getfield 59, 3) := by decide +kernel
theorem dX4_endGroup_345 : decode cX4_endGroup 345 = .ok (.iastore, 1) := by decide +kernel
theorem dX4_endGroup_346 : decode cX4_endGroup 346 = .ok (.aload_n 0, 1) := by decide +kernel
theorem dX4_endGroup_347 : decode cX4_endGroup 347 = .ok (.getfield 29, 3) := by decide +kernel
theorem dX4_endGroup_350 : decode cX4_endGroup 350 = .ok (.aload_n 0, 1) := by decide +kernel
theorem dX4_endGroup_351 : decode cX4_endGroup 351 = .ok (.getfield 84, 3) := by decide +kernel
theorem dX4_endGroup_354 : decode cX4_endGroup 354 = .ok (.iload_n 1, 1) := by decide +kernel
theorem dX4_endGroup_355 : decode cX4_endGroup 355 = .ok (.iastore, 1) := by decide +kernel
theorem dX4_endGroup_356 : decode cX4_endGroup 356 = .ok (.aload_n 0, 1) := by decide +kernel
theorem dX4_endGroup_357 : decode cX4_endGroup 357 = .ok (.dup, 1) := by decide +kernel
theorem dX4_endGroup_358 : decode cX4_endGroup 358 = .ok (.getfield 84, 3) := by decide +kernel
theorem dX4_endGroup_361 : decode cX4_endGroup 361 = .ok (.iconst 1, 1) := by decide +kernel
theorem dX4_endGroup_362 : decode cX4_endGroup 362 = .ok (.iadd, 1) := by decide +kernel
theorem dX4_endGroup_363 : decode cX4_endGroup 363 = .ok (.putfield 84, 3) := by decide +kernel
theorem dX4_endGroup_366 : decode cX4_endGroup 366 = .ok (.aload_n 0, 1) := by decide +kernel
theorem dX4_endGroup_367 : decode cX4_endGroup 367 = .ok (.iconst 0, 1) := by decide +kernel
theorem dX4_endGroup_368 : decode cX4_endGroup 368 = .ok (.putfield 59, 3) := by decide +kernel
theorem dX4_endGroup_371 : decode cX4_endGroup 371 = .ok (.iconst 1, 1) := by decide +kernel
theorem dX4_endGroup_372 : decode cX4_endGroup 372 = .ok (.ireturn, 1) := by decide +kernel
theorem dX4_forget_0 : decode cX4_forget 0 = .ok (.aload_n 0, 1) := by decide +kernel
theorem dX4_forget_1 : decode cX4_forget 1 = .ok (.iconst 0, 1) := by decide +kernel
theorem dX4_forget_2 : decode cX4_forget 2 = .ok (.putfield 56, 3) := by decide +kernel
theorem dX4_forget_5 : decode cX4_forget 5 = .ok (.aload_n 0, 1) := by decide +kernel
theorem dX4_forget_6 : decode cX4_forget 6 = .ok (.iconst 0, 1) := by decide +kernel
theorem dX4_forget_7 : decode cX4_forget 7 = .ok (.putfield 59, 3) := by decide +kernel
theorem dX4_forget_10 : decode cX4_forget 10 = .ok (.aload_n 0, 1) := by decide +kernel
theorem dX4_forget_11 : decode cX4_forget 11 = .ok (.aload_n 0, 1) := by decide +kernel
theorem dX4_forget_12 : decode cX4_forget 12 = .ok (.getfield 87, 3) := by decide +kernel
theorem dX4_forget_15 : decode cX4_forget 15 = .ok (.putfield 62, 3) := by decide +kernel
theorem dX4_forget_18 : decode cX4_forget 18 = .ok (.aload_n 0, 1) := by decide +kernel
theorem dX4_forget_19 : decode cX4_forget 19 = .ok (.iconst 0, 1) := by decide +kernel
theorem dX4_forget_20 : decode cX4_forget 20 = .ok (.putfield 84, 3) := by decide +kernel
theorem dX4_forget_23 : decode cX4_forget 23 = .ok (.return_, 1) := by decide +kernel
theorem dX4_crash_0 : decode cX4_crash 0 = .ok (.aload_n 0, 1) := by decide +kernel
theorem dX4_crash_1 : decode cX4_crash 1 = .ok (.iconst 0, 1) := by decide +kernel
theorem dX4_crash_2 : decode cX4_crash 2 = .ok (.putfield 48, 3) := by decide +kernel
theorem dX4_crash_5 : decode cX4_crash 5 = .ok (.iload_n 1, 1) := by decide +kernel
theorem dX4_crash_6 : decode cX4_crash 6 = .ok (.ifCond .lt 22, 3) := by decide +kernel
theorem dX4_crash_9 : decode cX4_crash 9 = .ok (.iload_n 1, 1) := by decide +kernel
theorem dX4_crash_10 : decode cX4_crash 10 = .ok (.iconst 1, 1) := by decide +kernel
theorem dX4_crash_11 : decode cX4_crash 11 = .ok (.if_icmp .gt 17, 3) := by decide +kernel
theorem dX4_crash_14 : decode cX4_crash 14 = .ok (.iload_n 2, 1) := by decide +kernel
theorem dX4_crash_15 : decode cX4_crash 15 = .ok (.ifCond .lt 13, 3) := by decide +kernel
theorem dX4_crash_18 : decode cX4_crash 18 = .ok (.iload_n 2, 1) := by decide +kernel
theorem dX4_crash_19 : decode cX4_crash 19 = .ok (.aload_n 0, 1) := by decide +kernel
theorem dX4_crash_20 : decode cX4_crash 20 = .ok (.getfield 13, 3) := by decide +kernel
theorem dX4_crash_23 : decode cX4_crash 23 = .ok (.iload_n 1, 1) := by decide +kernel
theorem dX4_crash_24 : decode cX4_crash 24 = .ok (.iaload, 1) := by decide +kernel
theorem dX4_crash_25 : decode cX4_crash 25 = .ok (.if_icmp .le 5, 3) := by decide +kernel
theorem dX4_crash_28 : decode cX4_crash 28 = .ok (.iconst 0, 1) := by decide +kernel
theorem dX4_crash_29 : decode cX4_crash 29 = .ok (.ireturn, 1) := by decide +kernel
theorem dX4_crash_30 : decode cX4_crash 30 = .ok (.aload_n 0, 1) := by decide +kernel
theorem dX4_crash_31 : decode cX4_crash 31 = .ok (.getfield 13, 3) := by decide +kernel
theorem dX4_crash_34 : decode cX4_crash 34 = .ok (.iload_n 1, 1) := by decide +kernel
theorem dX4_crash_35 : decode cX4_crash 35 = .ok (.iload_n 2, 1) := by decide +kernel
theorem dX4_crash_36 : decode cX4_crash 36 = .ok (.iastore, 1) := by decide +kernel
theorem dX4_crash_37 : decode cX4_crash 37 = .ok (.aload_n 0, 1) := by decide +kernel
theorem dX4_crash_38 : decode cX4_crash 38 = .ok (.invokevirtual 90, 3) := by decide +kernel
theorem dX4_crash_41 : decode cX4_crash 41 = .ok (.aload_n 0, 1) := by decide +kernel
theorem dX4_crash_42 : decode cX4_crash 42 = .ok (.iconst 1, 1) := by decide +kernel
theorem dX4_crash_43 : decode cX4_crash 43 = .ok (.putfield 52, 3) := by decide +kernel
theorem dX4_crash_46 : decode cX4_crash 46 = .ok (.iconst 1, 1) := by decide +kernel
theorem dX4_crash_47 : decode cX4_crash 47 = .ok (.ireturn, 1) := by decide +kernel
theorem dX4_poke_0 : decode cX4_poke 0 = .ok (.aload_n 0, 1) := by decide +kernel
theorem dX4_poke_1 : decode cX4_poke 1 = .ok (.iconst 0, 1) := by decide +kernel
theorem dX4_poke_2 : decode cX4_poke 2 = .ok (.putfield 48, 3) := by decide +kernel
theorem dX4_poke_5 : decode cX4_poke 5 = .ok (.iload_n 1, 1) := by decide +kernel
theorem dX4_poke_6 : decode cX4_poke 6 = .ok (.ifCond .lt 34, 3) := by decide +kernel
theorem dX4_poke_9 : decode cX4_poke 9 = .ok (.iload_n 1, 1) := by decide +kernel
theorem dX4_poke_10 : decode cX4_poke 10 = .ok (.iconst 1, 1) := by decide +kernel
theorem dX4_poke_11 : decode cX4_poke 11 = .ok (.if_icmp .gt 29, 3) := by decide +kernel
theorem dX4_poke_14 : decode cX4_poke 14 = .ok (.iload_n 2, 1) := by decide +kernel
theorem dX4_poke_15 : decode cX4_poke 15 = .ok (.ifCond .lt 25, 3) := by decide +kernel
theorem dX4_poke_18 : decode cX4_poke 18 = .ok (.iload_n 2, 1) := by decide +kernel
theorem dX4_poke_19 : decode cX4_poke 19 = .ok (.aload_n 0, 1) := by decide +kernel
theorem dX4_poke_20 : decode cX4_poke 20 = .ok (.getfield 13, 3) := by decide +kernel
theorem dX4_poke_23 : decode cX4_poke 23 = .ok (.iload_n 1, 1) := by decide +kernel
theorem dX4_poke_24 : decode cX4_poke 24 = .ok (.iaload, 1) := by decide +kernel
theorem dX4_poke_25 : decode cX4_poke 25 = .ok (.if_icmp .ge 15, 3) := by decide +kernel
theorem dX4_poke_28 : decode cX4_poke 28 = .ok (.iload_n 3, 1) := by decide +kernel
theorem dX4_poke_29 : decode cX4_poke 29 = .ok (.iconst 1, 1) := by decide +kernel
theorem dX4_poke_30 : decode cX4_poke 30 = .ok (.if_icmp .lt 10, 3) := by decide +kernel
theorem dX4_poke_33 : decode cX4_poke 33 = .ok (.iload_n 3, 1) := by decide +kernel
theorem dX4_poke_34 : decode cX4_poke 34 = .ok (.sipush 255, 3) := by decide +kernel
theorem dX4_poke_37 : decode cX4_poke 37 = .ok (.if_icmp .le 5, 3) := by decide +kernel
theorem dX4_poke_40 : decode cX4_poke 40 = .ok (.iconst 0, 1) := by decide +kernel
theorem dX4_poke_41 : decode cX4_poke 41 = .ok (.ireturn, 1) := by decide +kernel
theorem dX4_poke_42 : decode cX4_poke 42 = .ok (.aload_n 0, 1) := by decide +kernel
theorem dX4_poke_43 : decode cX4_poke 43 = .ok (.getfield 9, 3) := by decide +kernel
theorem dX4_poke_46 : decode cX4_poke 46 = .ok (.iload_n 1, 1) := by decide +kernel
theorem dX4_poke_47 : decode cX4_poke 47 = .ok (.sipush 8192, 3) := by decide +kernel
theorem dX4_poke_50 : decode cX4_poke 50 = .ok (.imul, 1) := by decide +kernel
theorem dX4_poke_51 : decode cX4_poke 51 = .ok (.iload_n 2, 1) := by decide +kernel
theorem dX4_poke_52 : decode cX4_poke 52 = .ok (.iadd, 1) := by decide +kernel
theorem dX4_poke_53 : decode cX4_poke 53 = .ok (.dup2, 1) := by decide +kernel
theorem dX4_poke_54 : decode cX4_poke 54 = .ok (.iaload, 1) := by decide +kernel
theorem dX4_poke_55 : decode cX4_poke 55 = .ok (.iload_n 3, 1) := by decide +kernel
theorem dX4_poke_56 : decode cX4_poke 56 = .ok (.ixor, 1) := by decide +kernel
theorem dX4_poke_57 : decode cX4_poke 57 = .ok (.iastore, 1) := by decide +kernel
theorem dX4_poke_58 : decode cX4_poke 58 = .ok (.iconst 1, 1) := by decide +kernel
theorem dX4_poke_59 : decode cX4_poke 59 = .ok (.ireturn, 1) := by decide +kernel
theorem dX4_same_0 : decode cX4_same 0 = .ok (.aload_n 0, 1) := by decide +kernel
theorem dX4_same_1 : decode cX4_same 1 = .ok (.iconst 0, 1) := by decide +kernel
theorem dX4_same_2 : decode cX4_same 2 = .ok (.putfield 48, 3) := by decide +kernel
theorem dX4_same_5 : decode cX4_same 5 = .ok (.aload_n 0, 1) := by decide +kernel
theorem dX4_same_6 : decode cX4_same 6 = .ok (.iconst 0, 1) := by decide +kernel
theorem dX4_same_7 : decode cX4_same 7 = .ok (.aload_n 0, 1) := by decide +kernel
theorem dX4_same_8 : decode cX4_same 8 = .ok (.getfield 13, 3) := by decide +kernel
theorem dX4_same_11 : decode cX4_same 11 = .ok (.iconst 0, 1) := by decide +kernel
theorem dX4_same_12 : decode cX4_same 12 = .ok (.iaload, 1) := by decide +kernel
theorem dX4_same_13 : decode cX4_same 13 = .ok (.invokevirtual 93, 3) := by decide +kernel
theorem dX4_same_16 : decode cX4_same 16 = .ok (.ifCond .eq 22, 3) := by decide +kernel
theorem dX4_same_19 : decode cX4_same 19 = .ok (.aload_n 0, 1) := by decide +kernel
theorem dX4_same_20 : decode cX4_same 20 = .ok (.getfield 13, 3) := by decide +kernel
theorem dX4_same_23 : decode cX4_same 23 = .ok (.iconst 0, 1) := by decide +kernel
theorem dX4_same_24 : decode cX4_same 24 = .ok (.iaload, 1) := by decide +kernel
theorem dX4_same_25 : decode cX4_same 25 = .ok (.aload_n 0, 1) := by decide +kernel
theorem dX4_same_26 : decode cX4_same 26 = .ok (.getfield 13, 3) := by decide +kernel
theorem dX4_same_29 : decode cX4_same 29 = .ok (.iconst 1, 1) := by decide +kernel
theorem dX4_same_30 : decode cX4_same 30 = .ok (.iaload, 1) := by decide +kernel
theorem dX4_same_31 : decode cX4_same 31 = .ok (.if_icmp .ne 7, 3) := by decide +kernel
theorem dX4_same_34 : decode cX4_same 34 = .ok (.iconst 1, 1) := by decide +kernel
theorem dX4_same_35 : decode cX4_same 35 = .ok (.goto 4, 3) := by decide +kernel
theorem dX4_same_38 : decode cX4_same 38 = .ok (.iconst 0, 1) := by decide +kernel
theorem dX4_same_39 : decode cX4_same 39 = .ok (.ireturn, 1) := by decide +kernel
theorem dX4_areSame_0 : decode cX4_areSame 0 = .ok (.iconst 1, 1) := by decide +kernel
theorem dX4_areSame_1 : decode cX4_areSame 1 = .ok (.istore_n 3, 1) := by decide +kernel
theorem dX4_areSame_2 : decode cX4_areSame 2 = .ok (.iload_n 1, 1) := by decide +kernel
theorem dX4_areSame_3 : decode cX4_areSame 3 = .ok (.istore 4, 2) := by decide +kernel
theorem dX4_areSame_5 : decode cX4_areSame 5 = .ok (.iload 4, 2) := by decide +kernel
theorem dX4_areSame_7 : decode cX4_areSame 7 = .ok (.iload_n 2, 1) := by decide +kernel
theorem dX4_areSame_8 : decode cX4_areSame 8 = .ok (.if_icmp .ge 62, 3) := by decide +kernel
theorem dX4_areSame_11 : decode cX4_areSame 11 = .ok (.iload_n 3, 1) := by decide +kernel
theorem dX4_areSame_12 : decode cX4_areSame 12 = .ok (.ifCond .eq 58, 3) := by decide +kernel
theorem dX4_areSame_15 : decode cX4_areSame 15 = .ok (.iload 4, 2) := by decide +kernel
theorem dX4_areSame_17 : decode cX4_areSame 17 = .ok (.aload_n 0, 1) := by decide +kernel
theorem dX4_areSame_18 : decode cX4_areSame 18 = .ok (.getfield 13, 3) := by decide +kernel
theorem dX4_areSame_21 : decode cX4_areSame 21 = .ok (.iconst 0, 1) := by decide +kernel
theorem dX4_areSame_22 : decode cX4_areSame 22 = .ok (.iaload, 1) := by decide +kernel
theorem dX4_areSame_23 : decode cX4_areSame 23 = .ok (.if_icmp .ge 39, 3) := by decide +kernel
theorem dX4_areSame_26 : decode cX4_areSame 26 = .ok (.iload 4, 2) := by decide +kernel
theorem dX4_areSame_28 : decode cX4_areSame 28 = .ok (.aload_n 0, 1) := by decide +kernel
theorem dX4_areSame_29 : decode cX4_areSame 29 = .ok (.getfield 13, 3) := by decide +kernel
theorem dX4_areSame_32 : decode cX4_areSame 32 = .ok (.iconst 1, 1) := by decide +kernel
theorem dX4_areSame_33 : decode cX4_areSame 33 = .ok (.iaload, 1) := by decide +kernel
theorem dX4_areSame_34 : decode cX4_areSame 34 = .ok (.if_icmp .ge 28, 3) := by decide +kernel
theorem dX4_areSame_37 : decode cX4_areSame 37 = .ok (.aload_n 0, 1) := by decide +kernel
theorem dX4_areSame_38 : decode cX4_areSame 38 = .ok (.getfield 9, 3) := by decide +kernel
theorem dX4_areSame_41 : decode cX4_areSame 41 = .ok (.iload 4, 2) := by decide +kernel
theorem dX4_areSame_43 : decode cX4_areSame 43 = .ok (.iaload, 1) := by decide +kernel
theorem dX4_areSame_44 : decode cX4_areSame 44 = .ok (.aload_n 0, 1) := by decide +kernel
theorem dX4_areSame_45 : decode cX4_areSame 45 = .ok (.getfield 9, 3) := by decide +kernel
theorem dX4_areSame_48 : decode cX4_areSame 48 = .ok (.sipush 8192, 3) := by decide +kernel
theorem dX4_areSame_51 : decode cX4_areSame 51 = .ok (.iload 4, 2) := by decide +kernel
theorem dX4_areSame_53 : decode cX4_areSame 53 = .ok (.iadd, 1) := by decide +kernel
theorem dX4_areSame_54 : decode cX4_areSame 54 = .ok (.iaload, 1) := by decide +kernel
theorem dX4_areSame_55 : decode cX4_areSame 55 = .ok (.if_icmp .ne 7, 3) := by decide +kernel
theorem dX4_areSame_58 : decode cX4_areSame 58 = .ok (.iconst 1, 1) := by decide +kernel
theorem dX4_areSame_59 : decode cX4_areSame 59 = .ok (.goto 4, 3) := by decide +kernel
theorem dX4_areSame_62 : decode cX4_areSame 62 = .ok (.iconst 0, 1) := by decide +kernel
theorem dX4_areSame_63 : decode cX4_areSame 63 = .ok (.istore_n 3, 1) := by decide +kernel
theorem dX4_areSame_64 : decode cX4_areSame 64 = .ok (.iinc 4 1, 3) := by decide +kernel
theorem dX4_areSame_67 : decode cX4_areSame 67 = .ok (.goto (-62), 3) := by decide +kernel
theorem dX4_areSame_70 : decode cX4_areSame 70 = .ok (.iload_n 3, 1) := by decide +kernel
theorem dX4_areSame_71 : decode cX4_areSame 71 = .ok (.ireturn, 1) := by decide +kernel
theorem dX4_number_0 : decode cX4_number 0 = .ok (.iconst 0, 1) := by decide +kernel
theorem dX4_number_1 : decode cX4_number 1 = .ok (.istore 4, 2) := by decide +kernel
theorem dX4_number_3 : decode cX4_number 3 = .ok (.iconst 0, 1) := by decide +kernel
theorem dX4_number_4 : decode cX4_number 4 = .ok (.istore 5, 2) := by decide +kernel
theorem dX4_number_6 : decode cX4_number 6 = .ok (.iload 5, 2) := by decide +kernel
theorem dX4_number_8 : decode cX4_number 8 = .ok (.iload_n 3, 1) := by decide +kernel
theorem dX4_number_9 : decode cX4_number 9 = .ok (.if_icmp .ge 32, 3) := by decide +kernel
theorem dX4_number_12 : decode cX4_number 12 = .ok (.iload 4, 2) := by decide +kernel
theorem dX4_number_14 : decode cX4_number 14 = .ok (.bipush 8, 2) := by decide +kernel
theorem dX4_number_16 : decode cX4_number 16 = .ok (.ishl, 1) := by decide +kernel
theorem dX4_number_17 : decode cX4_number 17 = .ok (.aload_n 0, 1) := by decide +kernel
theorem dX4_number_18 : decode cX4_number 18 = .ok (.getfield 9, 3) := by decide +kernel
theorem dX4_number_21 : decode cX4_number 21 = .ok (.iload_n 1, 1) := by decide +kernel
theorem dX4_number_22 : decode cX4_number 22 = .ok (.sipush 8192, 3) := by decide +kernel
theorem dX4_number_25 : decode cX4_number 25 = .ok (.imul, 1) := by decide +kernel
theorem dX4_number_26 : decode cX4_number 26 = .ok (.iload_n 2, 1) := by decide +kernel
theorem dX4_number_27 : decode cX4_number 27 = .ok (.iadd, 1) := by decide +kernel
theorem dX4_number_28 : decode cX4_number 28 = .ok (.iload 5, 2) := by decide +kernel
theorem dX4_number_30 : decode cX4_number 30 = .ok (.iadd, 1) := by decide +kernel
theorem dX4_number_31 : decode cX4_number 31 = .ok (.iaload, 1) := by decide +kernel
theorem dX4_number_32 : decode cX4_number 32 = .ok (.ior, 1) := by decide +kernel
theorem dX4_number_33 : decode cX4_number 33 = .ok (.istore 4, 2) := by decide +kernel
theorem dX4_number_35 : decode cX4_number 35 = .ok (.iinc 5 1, 3) := by decide +kernel
theorem dX4_number_38 : decode cX4_number 38 = .ok (.goto (-32), 3) := by decide +kernel
theorem dX4_number_41 : decode cX4_number 41 = .ok (.iload 4, 2) := by decide +kernel
theorem dX4_number_43 : decode cX4_number 43 = .ok (.ireturn, 1) := by decide +kernel
theorem dX4_sumOf_0 : decode cX4_sumOf 0 = .ok (.iload 4, 2) := by decide +kernel
theorem dX4_sumOf_2 : decode cX4_sumOf 2 = .ok (.istore 5, 2) := by decide +kernel
theorem dX4_sumOf_4 : decode cX4_sumOf 4 = .ok (.iload_n 2, 1) := by decide +kernel
theorem dX4_sumOf_5 : decode cX4_sumOf 5 = .ok (.istore 6, 2) := by decide +kernel
theorem dX4_sumOf_7 : decode cX4_sumOf 7 = .ok (.iload 6, 2) := by decide +kernel
theorem dX4_sumOf_9 : decode cX4_sumOf 9 = .ok (.iload_n 3, 1) := by decide +kernel
theorem dX4_sumOf_10 : decode cX4_sumOf 10 = .ok (.if_icmp .ge 29, 3) := by decide +kernel
theorem dX4_sumOf_13 : decode cX4_sumOf 13 = .ok (.iload 5, 2) := by decide +kernel
theorem dX4_sumOf_15 : decode cX4_sumOf 15 = .ok (.aload_n 0, 1) := by decide +kernel
theorem dX4_sumOf_16 : decode cX4_sumOf 16 = .ok (.getfield 9, 3) := by decide +kernel
theorem dX4_sumOf_19 : decode cX4_sumOf 19 = .ok (.iload_n 1, 1) := by decide +kernel
theorem dX4_sumOf_20 : decode cX4_sumOf 20 = .ok (.sipush 8192, 3) := by decide +kernel
theorem dX4_sumOf_23 : decode cX4_sumOf 23 = .ok (.imul, 1) := by decide +kernel
theorem dX4_sumOf_24 : decode cX4_sumOf 24 = .ok (.iload 6, 2) := by decide +kernel
theorem dX4_sumOf_26 : decode cX4_sumOf 26 = .ok (.iadd, 1) := by decide +kernel
theorem dX4_sumOf_27 : decode cX4_sumOf 27 = .ok (.iaload, 1) := by decide +kernel
theorem dX4_sumOf_28 : decode cX4_sumOf 28 = .ok (.invokestatic 73, 3) := by decide +kernel
theorem dX4_sumOf_31 : decode cX4_sumOf 31 = .ok (.istore 5, 2) := by decide +kernel
theorem dX4_sumOf_33 : decode cX4_sumOf 33 = .ok (.iinc 6 1, 3) := by decide +kernel
theorem dX4_sumOf_36 : decode cX4_sumOf 36 = .ok (.goto (-29), 3) := by decide +kernel
theorem dX4_sumOf_39 : decode cX4_sumOf 39 = .ok (.iload 5, 2) := by decide +kernel
theorem dX4_sumOf_41 : decode cX4_sumOf 41 = .ok (.ireturn, 1) := by decide +kernel
theorem dX4_isGood_0 : decode cX4_isGood 0 = .ok (.iload_n 2, 1) := by decide +kernel
theorem dX4_isGood_1 : decode cX4_isGood 1 = .ok (.istore_n 3, 1) := by decide +kernel
theorem dX4_isGood_2 : decode cX4_isGood 2 = .ok (.iconst 0, 1) := by decide +kernel
theorem dX4_isGood_3 : decode cX4_isGood 3 = .ok (.istore 4, 2) := by decide +kernel
theorem dX4_isGood_5 : decode cX4_isGood 5 = .ok (.aload_n 0, 1) := by decide +kernel
theorem dX4_isGood_6 : decode cX4_isGood 6 = .ok (.getfield 62, 3) := by decide +kernel
theorem dX4_isGood_9 : decode cX4_isGood 9 = .ok (.ifCond .le 17, 3) := by decide +kernel
theorem dX4_isGood_12 : decode cX4_isGood 12 = .ok (.aload_n 0, 1) := by decide +kernel
theorem dX4_isGood_13 : decode cX4_isGood 13 = .ok (.getfield 16, 3) := by decide +kernel
theorem dX4_isGood_16 : decode cX4_isGood 16 = .ok (.aload_n 0, 1) := by decide +kernel
theorem dX4_isGood_17 : decode cX4_isGood 17 = .ok (.getfield 62, 3) := by decide +kernel
theorem dX4_isGood_20 : decode cX4_isGood 20 = .ok (.iconst 1, 1) := by decide +kernel
theorem dX4_isGood_21 : decode cX4_isGood 21 = .ok (.isub, 1) := by decide +kernel
theorem dX4_isGood_22 : decode cX4_isGood 22 = .ok (.iaload, 1) := by decide +kernel
theorem dX4_isGood_23 : decode cX4_isGood 23 = .ok (.goto 4, 3) := by decide +kernel
theorem dX4_isGood_26 : decode cX4_isGood 26 = .ok (.iconst 0, 1) := by decide +kernel
theorem dX4_isGood_27 : decode cX4_isGood 27 = .ok (.istore 5, 2) := by decide +kernel
theorem dX4_isGood_29 : decode cX4_isGood 29 = .ok (.iconst 0, 1) := by decide +kernel
theorem dX4_isGood_30 : decode cX4_isGood 30 = .ok (.istore 6, 2) := by decide +kernel
theorem dX4_isGood_32 : decode cX4_isGood 32 = .ok (.iload_n 3, 1) := by decide +kernel
theorem dX4_isGood_33 : decode cX4_isGood 33 = .ok (.aload_n 0, 1) := by decide +kernel
theorem dX4_isGood_34 : decode cX4_isGood 34 = .ok (.getfield 13, 3) := by decide +kernel
theorem dX4_isGood_37 : decode cX4_isGood 37 = .ok (.iload_n 1, 1) := by decide +kernel
theorem dX4_isGood_38 : decode cX4_isGood 38 = .ok (.iaload, 1) := by decide +kernel
theorem dX4_isGood_39 : decode cX4_isGood 39 = .ok (.if_icmp .ge 165, 3) := by decide +kernel
theorem dX4_isGood_42 : decode cX4_isGood 42 = .ok (.aload_n 0, 1) := by decide +kernel
theorem dX4_isGood_43 : decode cX4_isGood 43 = .ok (.getfield 9, 3) := by decide +kernel
theorem dX4_isGood_46 : decode cX4_isGood 46 = .ok (.iload_n 1, 1) := by decide +kernel
theorem dX4_isGood_47 : decode cX4_isGood 47 = .ok (.sipush 8192, 3) := by decide +kernel
theorem dX4_isGood_50 : decode cX4_isGood 50 = .ok (.imul, 1) := by decide +kernel
theorem dX4_isGood_51 : decode cX4_isGood 51 = .ok (.iload_n 3, 1) := by decide +kernel
theorem dX4_isGood_52 : decode cX4_isGood 52 = .ok (.iadd, 1) := by decide +kernel
theorem dX4_isGood_53 : decode cX4_isGood 53 = .ok (.iaload, 1) := by decide +kernel
theorem dX4_isGood_54 : decode cX4_isGood 54 = .ok (.ifCond .eq 150, 3) := by decide +kernel
theorem dX4_isGood_57 : decode cX4_isGood 57 = .ok (.aload_n 0, 1) := by decide +kernel
theorem dX4_isGood_58 : decode cX4_isGood 58 = .ok (.getfield 9, 3) := by decide +kernel
theorem dX4_isGood_61 : decode cX4_isGood 61 = .ok (.iload_n 1, 1) := by decide +kernel
theorem dX4_isGood_62 : decode cX4_isGood 62 = .ok (.sipush 8192, 3) := by decide +kernel
theorem dX4_isGood_65 : decode cX4_isGood 65 = .ok (.imul, 1) := by decide +kernel
theorem dX4_isGood_66 : decode cX4_isGood 66 = .ok (.iload_n 3, 1) := by decide +kernel
theorem dX4_isGood_67 : decode cX4_isGood 67 = .ok (.iadd, 1) := by decide +kernel
theorem dX4_isGood_68 : decode cX4_isGood 68 = .ok (.iaload, 1) := by decide +kernel
theorem dX4_isGood_69 : decode cX4_isGood 69 = .ok (.istore 7, 2) := by decide +kernel
end
section
theorem dX4_isGood_71 : decode cX4_isGood 71 = .ok (.iload 7, 2) := by decide +kernel
theorem dX4_isGood_73 : decode cX4_isGood 73 = .ok (.bipush 64, 2) := by decide +kernel
theorem dX4_isGood_75 : decode cX4_isGood 75 = .ok (.if_icmp .gt 26, 3) := by decide +kernel
theorem dX4_isGood_78 : decode cX4_isGood 78 = .ok (.iload_n 3, 1) := by decide +kernel
theorem dX4_isGood_79 : decode cX4_isGood 79 = .ok (.bipush 11, 2) := by decide +kernel
theorem dX4_isGood_81 : decode cX4_isGood 81 = .ok (.iadd, 1) := by decide +kernel
theorem dX4_isGood_82 : decode cX4_isGood 82 = .ok (.iload 7, 2) := by decide +kernel
theorem dX4_isGood_84 : decode cX4_isGood 84 = .ok (.iadd, 1) := by decide +kernel
theorem dX4_isGood_85 : decode cX4_isGood 85 = .ok (.aload_n 0, 1) := by decide +kernel
theorem dX4_isGood_86 : decode cX4_isGood 86 = .ok (.getfield 13, 3) := by decide +kernel
theorem dX4_isGood_89 : decode cX4_isGood 89 = .ok (.iload_n 1, 1) := by decide +kernel
theorem dX4_isGood_90 : decode cX4_isGood 90 = .ok (.iaload, 1) := by decide +kernel
theorem dX4_isGood_91 : decode cX4_isGood 91 = .ok (.if_icmp .gt 10, 3) := by decide +kernel
theorem dX4_isGood_94 : decode cX4_isGood 94 = .ok (.iload 4, 2) := by decide +kernel
theorem dX4_isGood_96 : decode cX4_isGood 96 = .ok (.bipush 16, 2) := by decide +kernel
theorem dX4_isGood_98 : decode cX4_isGood 98 = .ok (.if_icmp .ne 5, 3) := by decide +kernel
theorem dX4_isGood_101 : decode cX4_isGood 101 = .ok (.iconst 0, 1) := by decide +kernel
theorem dX4_isGood_102 : decode cX4_isGood 102 = .ok (.ireturn, 1) := by decide +kernel
theorem dX4_isGood_103 : decode cX4_isGood 103 = .ok (.aload_n 0, 1) := by decide +kernel
theorem dX4_isGood_104 : decode cX4_isGood 104 = .ok (.iload_n 1, 1) := by decide +kernel
theorem dX4_isGood_105 : decode cX4_isGood 105 = .ok (.iload_n 3, 1) := by decide +kernel
theorem dX4_isGood_106 : decode cX4_isGood 106 = .ok (.iconst 1, 1) := by decide +kernel
theorem dX4_isGood_107 : decode cX4_isGood 107 = .ok (.iadd, 1) := by decide +kernel
theorem dX4_isGood_108 : decode cX4_isGood 108 = .ok (.iconst 4, 1) := by decide +kernel
theorem dX4_isGood_109 : decode cX4_isGood 109 = .ok (.invokevirtual 97, 3) := by decide +kernel
theorem dX4_isGood_112 : decode cX4_isGood 112 = .ok (.istore 8, 2) := by decide +kernel
theorem dX4_isGood_114 : decode cX4_isGood 114 = .ok (.aload_n 0, 1) := by decide +kernel
theorem dX4_isGood_115 : decode cX4_isGood 115 = .ok (.iload_n 1, 1) := by decide +kernel
theorem dX4_isGood_116 : decode cX4_isGood 116 = .ok (.iload_n 3, 1) := by decide +kernel
theorem dX4_isGood_117 : decode cX4_isGood 117 = .ok (.iload_n 3, 1) := by decide +kernel
theorem dX4_isGood_118 : decode cX4_isGood 118 = .ok (.bipush 7, 2) := by decide +kernel
theorem dX4_isGood_120 : decode cX4_isGood 120 = .ok (.iadd, 1) := by decide +kernel
theorem dX4_isGood_121 : decode cX4_isGood 121 = .ok (.iload 7, 2) := by decide +kernel
theorem dX4_isGood_123 : decode cX4_isGood 123 = .ok (.iadd, 1) := by decide +kernel
theorem dX4_isGood_124 : decode cX4_isGood 124 = .ok (.iconst 0, 1) := by decide +kernel
theorem dX4_isGood_125 : decode cX4_isGood 125 = .ok (.invokevirtual 101, 3) := by decide +kernel
theorem dX4_isGood_128 : decode cX4_isGood 128 = .ok (.istore 6, 2) := by decide +kernel
theorem dX4_isGood_130 : decode cX4_isGood 130 = .ok (.iload 6, 2) := by decide +kernel
theorem dX4_isGood_132 : decode cX4_isGood 132 = .ok (.aload_n 0, 1) := by decide +kernel
theorem dX4_isGood_133 : decode cX4_isGood 133 = .ok (.iload_n 1, 1) := by decide +kernel
theorem dX4_isGood_134 : decode cX4_isGood 134 = .ok (.iload_n 3, 1) := by decide +kernel
theorem dX4_isGood_135 : decode cX4_isGood 135 = .ok (.bipush 7, 2) := by decide +kernel
theorem dX4_isGood_137 : decode cX4_isGood 137 = .ok (.iadd, 1) := by decide +kernel
theorem dX4_isGood_138 : decode cX4_isGood 138 = .ok (.iload 7, 2) := by decide +kernel
theorem dX4_isGood_140 : decode cX4_isGood 140 = .ok (.iadd, 1) := by decide +kernel
theorem dX4_isGood_141 : decode cX4_isGood 141 = .ok (.iconst 4, 1) := by decide +kernel
theorem dX4_isGood_142 : decode cX4_isGood 142 = .ok (.invokevirtual 97, 3) := by decide +kernel
theorem dX4_isGood_145 : decode cX4_isGood 145 = .ok (.if_icmp .ne 39, 3) := by decide +kernel
theorem dX4_isGood_148 : decode cX4_isGood 148 = .ok (.aload_n 0, 1) := by decide +kernel
theorem dX4_isGood_149 : decode cX4_isGood 149 = .ok (.iload_n 1, 1) := by decide +kernel
theorem dX4_isGood_150 : decode cX4_isGood 150 = .ok (.iload_n 3, 1) := by decide +kernel
theorem dX4_isGood_151 : decode cX4_isGood 151 = .ok (.iconst 5, 1) := by decide +kernel
theorem dX4_isGood_152 : decode cX4_isGood 152 = .ok (.iadd, 1) := by decide +kernel
theorem dX4_isGood_153 : decode cX4_isGood 153 = .ok (.iload 7, 2) := by decide +kernel
theorem dX4_isGood_155 : decode cX4_isGood 155 = .ok (.iadd, 1) := by decide +kernel
theorem dX4_isGood_156 : decode cX4_isGood 156 = .ok (.iconst 2, 1) := by decide +kernel
theorem dX4_isGood_157 : decode cX4_isGood 157 = .ok (.invokevirtual 97, 3) := by decide +kernel
theorem dX4_isGood_160 : decode cX4_isGood 160 = .ok (.aload_n 0, 1) := by decide +kernel
theorem dX4_isGood_161 : decode cX4_isGood 161 = .ok (.getfield 62, 3) := by decide +kernel
theorem dX4_isGood_164 : decode cX4_isGood 164 = .ok (.iload 4, 2) := by decide +kernel
theorem dX4_isGood_166 : decode cX4_isGood 166 = .ok (.iadd, 1) := by decide +kernel
theorem dX4_isGood_167 : decode cX4_isGood 167 = .ok (.if_icmp .ne 17, 3) := by decide +kernel
theorem dX4_isGood_170 : decode cX4_isGood 170 = .ok (.iload 8, 2) := by decide +kernel
theorem dX4_isGood_172 : decode cX4_isGood 172 = .ok (.iload 5, 2) := by decide +kernel
theorem dX4_isGood_174 : decode cX4_isGood 174 = .ok (.if_icmp .lt 10, 3) := by decide +kernel
theorem dX4_isGood_177 : decode cX4_isGood 177 = .ok (.iload 8, 2) := by decide +kernel
theorem dX4_isGood_179 : decode cX4_isGood 179 = .ok (.ldc 65, 2) := by decide +kernel
theorem dX4_isGood_181 : decode cX4_isGood 181 = .ok (.if_icmp .le 5, 3) := by decide +kernel
theorem dX4_isGood_184 : decode cX4_isGood 184 = .ok (.iconst 0, 1) := by decide +kernel
theorem dX4_isGood_185 : decode cX4_isGood 185 = .ok (.ireturn, 1) := by decide +kernel
theorem dX4_isGood_186 : decode cX4_isGood 186 = .ok (.iload 8, 2) := by decide +kernel
theorem dX4_isGood_188 : decode cX4_isGood 188 = .ok (.istore 5, 2) := by decide +kernel
theorem dX4_isGood_190 : decode cX4_isGood 190 = .ok (.iinc 4 1, 3) := by decide +kernel
theorem dX4_isGood_193 : decode cX4_isGood 193 = .ok (.iload_n 3, 1) := by decide +kernel
theorem dX4_isGood_194 : decode cX4_isGood 194 = .ok (.bipush 11, 2) := by decide +kernel
theorem dX4_isGood_196 : decode cX4_isGood 196 = .ok (.iload 7, 2) := by decide +kernel
theorem dX4_isGood_198 : decode cX4_isGood 198 = .ok (.iadd, 1) := by decide +kernel
theorem dX4_isGood_199 : decode cX4_isGood 199 = .ok (.iadd, 1) := by decide +kernel
theorem dX4_isGood_200 : decode cX4_isGood 200 = .ok (.istore_n 3, 1) := by decide +kernel
theorem dX4_isGood_201 : decode cX4_isGood 201 = .ok (.goto (-169), 3) := by decide +kernel
theorem dX4_isGood_204 : decode cX4_isGood 204 = .ok (.iload 4, 2) := by decide +kernel
theorem dX4_isGood_206 : decode cX4_isGood 206 = .ok (.ifCond .eq 71, 3) := by decide +kernel
theorem dX4_isGood_209 : decode cX4_isGood 209 = .ok (.iload_n 3, 1) := by decide +kernel
theorem dX4_isGood_210 : decode cX4_isGood 210 = .ok (.bipush 6, 2) := by decide +kernel
theorem dX4_isGood_212 : decode cX4_isGood 212 = .ok (.iadd, 1) := by decide +kernel
theorem dX4_isGood_213 : decode cX4_isGood 213 = .ok (.aload_n 0, 1) := by decide +kernel
theorem dX4_isGood_214 : decode cX4_isGood 214 = .ok (.getfield 13, 3) := by decide +kernel
theorem dX4_isGood_217 : decode cX4_isGood 217 = .ok (.iload_n 1, 1) := by decide +kernel
theorem dX4_isGood_218 : decode cX4_isGood 218 = .ok (.iaload, 1) := by decide +kernel
theorem dX4_isGood_219 : decode cX4_isGood 219 = .ok (.if_icmp .gt 58, 3) := by decide +kernel
theorem dX4_isGood_222 : decode cX4_isGood 222 = .ok (.aload_n 0, 1) := by decide +kernel
theorem dX4_isGood_223 : decode cX4_isGood 223 = .ok (.getfield 9, 3) := by decide +kernel
theorem dX4_isGood_226 : decode cX4_isGood 226 = .ok (.iload_n 1, 1) := by decide +kernel
theorem dX4_isGood_227 : decode cX4_isGood 227 = .ok (.sipush 8192, 3) := by decide +kernel
theorem dX4_isGood_230 : decode cX4_isGood 230 = .ok (.imul, 1) := by decide +kernel
theorem dX4_isGood_231 : decode cX4_isGood 231 = .ok (.iload_n 3, 1) := by decide +kernel
theorem dX4_isGood_232 : decode cX4_isGood 232 = .ok (.iadd, 1) := by decide +kernel
theorem dX4_isGood_233 : decode cX4_isGood 233 = .ok (.iconst 1, 1) := by decide +kernel
theorem dX4_isGood_234 : decode cX4_isGood 234 = .ok (.iadd, 1) := by decide +kernel
theorem dX4_isGood_235 : decode cX4_isGood 235 = .ok (.iaload, 1) := by decide +kernel
theorem dX4_isGood_236 : decode cX4_isGood 236 = .ok (.iload 4, 2) := by decide +kernel
theorem dX4_isGood_238 : decode cX4_isGood 238 = .ok (.if_icmp .ne 39, 3) := by decide +kernel
theorem dX4_isGood_241 : decode cX4_isGood 241 = .ok (.aload_n 0, 1) := by decide +kernel
theorem dX4_isGood_242 : decode cX4_isGood 242 = .ok (.iload_n 1, 1) := by decide +kernel
theorem dX4_isGood_243 : decode cX4_isGood 243 = .ok (.iload_n 3, 1) := by decide +kernel
theorem dX4_isGood_244 : decode cX4_isGood 244 = .ok (.iload_n 3, 1) := by decide +kernel
theorem dX4_isGood_245 : decode cX4_isGood 245 = .ok (.iconst 2, 1) := by decide +kernel
theorem dX4_isGood_246 : decode cX4_isGood 246 = .ok (.iadd, 1) := by decide +kernel
theorem dX4_isGood_247 : decode cX4_isGood 247 = .ok (.iload 6, 2) := by decide +kernel
theorem dX4_isGood_249 : decode cX4_isGood 249 = .ok (.invokevirtual 101, 3) := by decide +kernel
theorem dX4_isGood_252 : decode cX4_isGood 252 = .ok (.aload_n 0, 1) := by decide +kernel
theorem dX4_isGood_253 : decode cX4_isGood 253 = .ok (.iload_n 1, 1) := by decide +kernel
theorem dX4_isGood_254 : decode cX4_isGood 254 = .ok (.iload_n 3, 1) := by decide +kernel
theorem dX4_isGood_255 : decode cX4_isGood 255 = .ok (.iconst 2, 1) := by decide +kernel
theorem dX4_isGood_256 : decode cX4_isGood 256 = .ok (.iadd, 1) := by decide +kernel
theorem dX4_isGood_257 : decode cX4_isGood 257 = .ok (.iconst 4, 1) := by decide +kernel
theorem dX4_isGood_258 : decode cX4_isGood 258 = .ok (.invokevirtual 97, 3) := by decide +kernel
theorem dX4_isGood_261 : decode cX4_isGood 261 = .ok (.if_icmp .ne 16, 3) := by decide +kernel
theorem dX4_isGood_264 : decode cX4_isGood 264 = .ok (.aload_n 0, 1) := by decide +kernel
theorem dX4_isGood_265 : decode cX4_isGood 265 = .ok (.getfield 62, 3) := by decide +kernel
theorem dX4_isGood_268 : decode cX4_isGood 268 = .ok (.iload 4, 2) := by decide +kernel
theorem dX4_isGood_270 : decode cX4_isGood 270 = .ok (.iadd, 1) := by decide +kernel
theorem dX4_isGood_271 : decode cX4_isGood 271 = .ok (.sipush 600, 3) := by decide +kernel
theorem dX4_isGood_274 : decode cX4_isGood 274 = .ok (.if_icmp .le 5, 3) := by decide +kernel
theorem dX4_isGood_277 : decode cX4_isGood 277 = .ok (.iconst 0, 1) := by decide +kernel
theorem dX4_isGood_278 : decode cX4_isGood 278 = .ok (.ireturn, 1) := by decide +kernel
theorem dX4_isGood_279 : decode cX4_isGood 279 = .ok (.aload_n 0, 1) := by decide +kernel
theorem dX4_isGood_280 : decode cX4_isGood 280 = .ok (.iload 4, 2) := by decide +kernel
theorem dX4_isGood_282 : decode cX4_isGood 282 = .ok (.putfield 105, 3) := by decide +kernel
theorem dX4_isGood_285 : decode cX4_isGood 285 = .ok (.aload_n 0, 1) := by decide +kernel
theorem dX4_isGood_286 : decode cX4_isGood 286 = .ok (.iload_n 3, 1) := by decide +kernel
theorem dX4_isGood_287 : decode cX4_isGood 287 = .ok (.bipush 6, 2) := by decide +kernel
theorem dX4_isGood_289 : decode cX4_isGood 289 = .ok (.iadd, 1) := by decide +kernel
theorem dX4_isGood_290 : decode cX4_isGood 290 = .ok (.iload_n 2, 1) := by decide +kernel
theorem dX4_isGood_291 : decode cX4_isGood 291 = .ok (.isub, 1) := by decide +kernel
theorem dX4_isGood_292 : decode cX4_isGood 292 = .ok (.putfield 108, 3) := by decide +kernel
theorem dX4_isGood_295 : decode cX4_isGood 295 = .ok (.iconst 1, 1) := by decide +kernel
theorem dX4_isGood_296 : decode cX4_isGood 296 = .ok (.ireturn, 1) := by decide +kernel
theorem dX4_take_0 : decode cX4_take 0 = .ok (.iload_n 2, 1) := by decide +kernel
theorem dX4_take_1 : decode cX4_take 1 = .ok (.istore_n 3, 1) := by decide +kernel
theorem dX4_take_2 : decode cX4_take 2 = .ok (.iconst 0, 1) := by decide +kernel
theorem dX4_take_3 : decode cX4_take 3 = .ok (.istore 4, 2) := by decide +kernel
theorem dX4_take_5 : decode cX4_take 5 = .ok (.iload 4, 2) := by decide +kernel
theorem dX4_take_7 : decode cX4_take 7 = .ok (.aload_n 0, 1) := by decide +kernel
theorem dX4_take_8 : decode cX4_take 8 = .ok (.getfield 105, 3) := by decide +kernel
theorem dX4_take_11 : decode cX4_take 11 = .ok (.if_icmp .ge 118, 3) := by decide +kernel
theorem dX4_take_14 : decode cX4_take 14 = .ok (.aload_n 0, 1) := by decide +kernel
theorem dX4_take_15 : decode cX4_take 15 = .ok (.getfield 9, 3) := by decide +kernel
theorem dX4_take_18 : decode cX4_take 18 = .ok (.iload_n 1, 1) := by decide +kernel
theorem dX4_take_19 : decode cX4_take 19 = .ok (.sipush 8192, 3) := by decide +kernel
theorem dX4_take_22 : decode cX4_take 22 = .ok (.imul, 1) := by decide +kernel
theorem dX4_take_23 : decode cX4_take 23 = .ok (.iload_n 3, 1) := by decide +kernel
theorem dX4_take_24 : decode cX4_take 24 = .ok (.iadd, 1) := by decide +kernel
theorem dX4_take_25 : decode cX4_take 25 = .ok (.iaload, 1) := by decide +kernel
theorem dX4_take_26 : decode cX4_take 26 = .ok (.istore 5, 2) := by decide +kernel
theorem dX4_take_28 : decode cX4_take 28 = .ok (.aload_n 0, 1) := by decide +kernel
theorem dX4_take_29 : decode cX4_take 29 = .ok (.getfield 16, 3) := by decide +kernel
theorem dX4_take_32 : decode cX4_take 32 = .ok (.aload_n 0, 1) := by decide +kernel
theorem dX4_take_33 : decode cX4_take 33 = .ok (.getfield 62, 3) := by decide +kernel
theorem dX4_take_36 : decode cX4_take 36 = .ok (.aload_n 0, 1) := by decide +kernel
theorem dX4_take_37 : decode cX4_take 37 = .ok (.iload_n 1, 1) := by decide +kernel
theorem dX4_take_38 : decode cX4_take 38 = .ok (.iload_n 3, 1) := by decide +kernel
theorem dX4_take_39 : decode cX4_take 39 = .ok (.iconst 1, 1) := by decide +kernel
theorem dX4_take_40 : decode cX4_take 40 = .ok (.iadd, 1) := by decide +kernel
theorem dX4_take_41 : decode cX4_take 41 = .ok (.iconst 4, 1) := by decide +kernel
theorem dX4_take_42 : decode cX4_take 42 = .ok (.invokevirtual 97, 3) := by decide +kernel
theorem dX4_take_45 : decode cX4_take 45 = .ok (.iastore, 1) := by decide +kernel
theorem dX4_take_46 : decode cX4_take 46 = .ok (.aload_n 0, 1) := by decide +kernel
theorem dX4_take_47 : decode cX4_take 47 = .ok (.getfield 19, 3) := by decide +kernel
theorem dX4_take_50 : decode cX4_take 50 = .ok (.aload_n 0, 1) := by decide +kernel
theorem dX4_take_51 : decode cX4_take 51 = .ok (.getfield 62, 3) := by decide +kernel
theorem dX4_take_54 : decode cX4_take 54 = .ok (.iload 5, 2) := by decide +kernel
theorem dX4_take_56 : decode cX4_take 56 = .ok (.iastore, 1) := by decide +kernel
theorem dX4_take_57 : decode cX4_take 57 = .ok (.iconst 0, 1) := by decide +kernel
theorem dX4_take_58 : decode cX4_take 58 = .ok (.istore 6, 2) := by decide +kernel
theorem dX4_take_60 : decode cX4_take 60 = .ok (.iload 6, 2) := by decide +kernel
theorem dX4_take_62 : decode cX4_take 62 = .ok (.iload 5, 2) := by decide +kernel
theorem dX4_take_64 : decode cX4_take 64 = .ok (.if_icmp .ge 41, 3) := by decide +kernel
theorem dX4_take_67 : decode cX4_take 67 = .ok (.aload_n 0, 1) := by decide +kernel
theorem dX4_take_68 : decode cX4_take 68 = .ok (.getfield 23, 3) := by decide +kernel
theorem dX4_take_71 : decode cX4_take 71 = .ok (.aload_n 0, 1) := by decide +kernel
theorem dX4_take_72 : decode cX4_take 72 = .ok (.getfield 62, 3) := by decide +kernel
theorem dX4_take_75 : decode cX4_take 75 = .ok (.bipush 64, 2) := by decide +kernel
theorem dX4_take_77 : decode cX4_take 77 = .ok (.imul, 1) := by decide +kernel
theorem dX4_take_78 : decode cX4_take 78 = .ok (.iload 6, 2) := by decide +kernel
theorem dX4_take_80 : decode cX4_take 80 = .ok (.iadd, 1) := by decide +kernel
theorem dX4_take_81 : decode cX4_take 81 = .ok (.aload_n 0, 1) := by decide +kernel
theorem dX4_take_82 : decode cX4_take 82 = .ok (.getfield 9, 3) := by decide +kernel
theorem dX4_take_85 : decode cX4_take 85 = .ok (.iload_n 1, 1) := by decide +kernel
theorem dX4_take_86 : decode cX4_take 86 = .ok (.sipush 8192, 3) := by decide +kernel
theorem dX4_take_89 : decode cX4_take 89 = .ok (.imul, 1) := by decide +kernel
theorem dX4_take_90 : decode cX4_take 90 = .ok (.iload_n 3, 1) := by decide +kernel
theorem dX4_take_91 : decode cX4_take 91 = .ok (.iadd, 1) := by decide +kernel
theorem dX4_take_92 : decode cX4_take 92 = .ok (.iconst 5, 1) := by decide +kernel
theorem dX4_take_93 : decode cX4_take 93 = .ok (.iadd, 1) := by decide +kernel
theorem dX4_take_94 : decode cX4_take 94 = .ok (.iload 6, 2) := by decide +kernel
theorem dX4_take_96 : decode cX4_take 96 = .ok (.iadd, 1) := by decide +kernel
theorem dX4_take_97 : decode cX4_take 97 = .ok (.iaload, 1) := by decide +kernel
theorem dX4_take_98 : decode cX4_take 98 = .ok (.iastore, 1) := by decide +kernel
theorem dX4_take_99 : decode cX4_take 99 = .ok (.iinc 6 1, 3) := by decide +kernel
theorem dX4_take_102 : decode cX4_take 102 = .ok (.goto (-42), 3) := by decide +kernel
theorem dX4_take_105 : decode cX4_take 105 = .ok (.aload_n 0, 1) := by decide +kernel
theorem dX4_take_106 : decode cX4_take 106 = .ok (.dup, 1) := by decide +kernel
theorem dX4_take_107 : decode cX4_take 107 = .ok (.getfield 62, 3) := by decide +kernel
theorem dX4_take_110 : decode cX4_take 110 = .ok (.iconst 1, 1) := by decide +kernel
theorem dX4_take_111 : decode cX4_take 111 = .ok (.iadd, 1) := by decide +kernel
theorem dX4_take_112 : decode cX4_take 112 = .ok (.putfield 62, 3) := by decide +kernel
theorem dX4_take_115 : decode cX4_take 115 = .ok (.iload_n 3, 1) := by decide +kernel
theorem dX4_take_116 : decode cX4_take 116 = .ok (.bipush 11, 2) := by decide +kernel
theorem dX4_take_118 : decode cX4_take 118 = .ok (.iload 5, 2) := by decide +kernel
theorem dX4_take_120 : decode cX4_take 120 = .ok (.iadd, 1) := by decide +kernel
theorem dX4_take_121 : decode cX4_take 121 = .ok (.iadd, 1) := by decide +kernel
theorem dX4_take_122 : decode cX4_take 122 = .ok (.istore_n 3, 1) := by decide +kernel
theorem dX4_take_123 : decode cX4_take 123 = .ok (.iinc 4 1, 3) := by decide +kernel
theorem dX4_take_126 : decode cX4_take 126 = .ok (.goto (-121), 3) := by decide +kernel
theorem dX4_take_129 : decode cX4_take 129 = .ok (.iload_n 2, 1) := by decide +kernel
theorem dX4_take_130 : decode cX4_take 130 = .ok (.istore 4, 2) := by decide +kernel
theorem dX4_take_132 : decode cX4_take 132 = .ok (.iload 4, 2) := by decide +kernel
theorem dX4_take_134 : decode cX4_take 134 = .ok (.iload_n 2, 1) := by decide +kernel
theorem dX4_take_135 : decode cX4_take 135 = .ok (.aload_n 0, 1) := by decide +kernel
theorem dX4_take_136 : decode cX4_take 136 = .ok (.getfield 108, 3) := by decide +kernel
theorem dX4_take_139 : decode cX4_take 139 = .ok (.iadd, 1) := by decide +kernel
theorem dX4_take_140 : decode cX4_take 140 = .ok (.if_icmp .ge 37, 3) := by decide +kernel
theorem dX4_take_143 : decode cX4_take 143 = .ok (.aload_n 0, 1) := by decide +kernel
theorem dX4_take_144 : decode cX4_take 144 = .ok (.getfield 9, 3) := by decide +kernel
theorem dX4_take_147 : decode cX4_take 147 = .ok (.iconst 1, 1) := by decide +kernel
theorem dX4_take_148 : decode cX4_take 148 = .ok (.iload_n 1, 1) := by decide +kernel
theorem dX4_take_149 : decode cX4_take 149 = .ok (.isub, 1) := by decide +kernel
theorem dX4_take_150 : decode cX4_take 150 = .ok (.sipush 8192, 3) := by decide +kernel
theorem dX4_take_153 : decode cX4_take 153 = .ok (.imul, 1) := by decide +kernel
theorem dX4_take_154 : decode cX4_take 154 = .ok (.iload 4, 2) := by decide +kernel
theorem dX4_take_156 : decode cX4_take 156 = .ok (.iadd, 1) := by decide +kernel
theorem dX4_take_157 : decode cX4_take 157 = .ok (.aload_n 0, 1) := by decide +kernel
theorem dX4_take_158 : decode cX4_take 158 = .ok (.getfield 9, 3) := by decide +kernel
theorem dX4_take_161 : decode cX4_take 161 = .ok (.iload_n 1, 1) := by decide +kernel
theorem dX4_take_162 : decode cX4_take 162 = .ok (.sipush 8192, 3) := by decide +kernel
theorem dX4_take_165 : decode cX4_take 165 = .ok (.imul, 1) := by decide +kernel
theorem dX4_take_166 : decode cX4_take 166 = .ok (.iload 4, 2) := by decide +kernel
theorem dX4_take_168 : decode cX4_take 168 = .ok (.iadd, 1) := by decide +kernel
theorem dX4_take_169 : decode cX4_take 169 = .ok (.iaload, 1) := by decide +kernel
theorem dX4_take_170 : decode cX4_take 170 = .ok (.iastore, 1) := by decide +kernel
theorem dX4_take_171 : decode cX4_take 171 = .ok (.iinc 4 1, 3) := by decide +kernel
theorem dX4_take_174 : decode cX4_take 174 = .ok (.goto (-42), 3) := by decide +kernel
theorem dX4_take_177 : decode cX4_take 177 = .ok (.aload_n 0, 1) := by decide +kernel
theorem dX4_take_178 : decode cX4_take 178 = .ok (.getfield 26, 3) := by decide +kernel
theorem dX4_take_181 : decode cX4_take 181 = .ok (.aload_n 0, 1) := by decide +kernel
theorem dX4_take_182 : decode cX4_take 182 = .ok (.getfield 84, 3) := by decide +kernel
theorem dX4_take_185 : decode cX4_take 185 = .ok (.aload_n 0, 1) := by decide +kernel
theorem dX4_take_186 : decode cX4_take 186 = .ok (.getfield 105, 3) := by decide +kernel
theorem dX4_take_189 : decode cX4_take 189 = .ok (.iastore, 1) := by decide +kernel
theorem dX4_take_190 : decode cX4_take 190 = .ok (.aload_n 0, 1) := by decide +kernel
theorem dX4_take_191 : decode cX4_take 191 = .ok (.getfield 29, 3) := by decide +kernel
theorem dX4_take_194 : decode cX4_take 194 = .ok (.aload_n 0, 1) := by decide +kernel
theorem dX4_take_195 : decode cX4_take 195 = .ok (.getfield 84, 3) := by decide +kernel
theorem dX4_take_198 : decode cX4_take 198 = .ok (.aload_n 0, 1) := by decide +kernel
theorem dX4_take_199 : decode cX4_take 199 = .ok (.getfield 108, 3) := by decide +kernel
theorem dX4_take_202 : decode cX4_take 202 = .ok (.iastore, 1) := by decide +kernel
theorem dX4_take_203 : decode cX4_take 203 = .ok (.aload_n 0, 1) := by decide +kernel
theorem dX4_take_204 : decode cX4_take 204 = .ok (.dup, 1) := by decide +kernel
theorem dX4_take_205 : decode cX4_take 205 = .ok (.getfield 84, 3) := by decide +kernel
theorem dX4_take_208 : decode cX4_take 208 = .ok (.iconst 1, 1) := by decide +kernel
theorem dX4_take_209 : decode cX4_take 209 = .ok (.iadd, 1) := by decide +kernel
theorem dX4_take_210 : decode cX4_take 210 = .ok (.putfield 84, 3) := by decide +kernel
theorem dX4_take_213 : decode cX4_take 213 = .ok (.return_, 1) := by decide +kernel
theorem dX4_reopen_0 : decode cX4_reopen 0 = .ok (.aload_n 0, 1) := by decide +kernel
theorem dX4_reopen_1 : decode cX4_reopen 1 = .ok (.iconst 0, 1) := by decide +kernel
theorem dX4_reopen_2 : decode cX4_reopen 2 = .ok (.putfield 48, 3) := by decide +kernel
theorem dX4_reopen_5 : decode cX4_reopen 5 = .ok (.aload_n 0, 1) := by decide +kernel
theorem dX4_reopen_6 : decode cX4_reopen 6 = .ok (.invokevirtual 90, 3) := by decide +kernel
theorem dX4_reopen_9 : decode cX4_reopen 9 = .ok (.aload_n 0, 1) := by decide +kernel
theorem dX4_reopen_10 : decode cX4_reopen 10 = .ok (.iconst 0, 1) := by decide +kernel
theorem dX4_reopen_11 : decode cX4_reopen 11 = .ok (.putfield 52, 3) := by decide +kernel
theorem dX4_reopen_14 : decode cX4_reopen 14 = .ok (.aload_n 0, 1) := by decide +kernel
theorem dX4_reopen_15 : decode cX4_reopen 15 = .ok (.iconst 0, 1) := by decide +kernel
theorem dX4_reopen_16 : decode cX4_reopen 16 = .ok (.putfield 111, 3) := by decide +kernel
theorem dX4_reopen_19 : decode cX4_reopen 19 = .ok (.iconst 0, 1) := by decide +kernel
theorem dX4_reopen_20 : decode cX4_reopen 20 = .ok (.istore_n 1, 1) := by decide +kernel
theorem dX4_reopen_21 : decode cX4_reopen 21 = .ok (.iconst 1, 1) := by decide +kernel
theorem dX4_reopen_22 : decode cX4_reopen 22 = .ok (.istore_n 2, 1) := by decide +kernel
theorem dX4_reopen_23 : decode cX4_reopen 23 = .ok (.iload_n 2, 1) := by decide +kernel
theorem dX4_reopen_24 : decode cX4_reopen 24 = .ok (.ifCond .eq 90, 3) := by decide +kernel
theorem dX4_reopen_27 : decode cX4_reopen 27 = .ok (.aload_n 0, 1) := by decide +kernel
theorem dX4_reopen_28 : decode cX4_reopen 28 = .ok (.iconst 0, 1) := by decide +kernel
theorem dX4_reopen_29 : decode cX4_reopen 29 = .ok (.iload_n 1, 1) := by decide +kernel
theorem dX4_reopen_30 : decode cX4_reopen 30 = .ok (.invokevirtual 114, 3) := by decide +kernel
theorem dX4_reopen_33 : decode cX4_reopen 33 = .ok (.ifCond .eq 7, 3) := by decide +kernel
theorem dX4_reopen_36 : decode cX4_reopen 36 = .ok (.iconst 0, 1) := by decide +kernel
theorem dX4_reopen_37 : decode cX4_reopen 37 = .ok (.goto 17, 3) := by decide +kernel
theorem dX4_reopen_40 : decode cX4_reopen 40 = .ok (.aload_n 0, 1) := by decide +kernel
theorem dX4_reopen_41 : decode cX4_reopen 41 = .ok (.iconst 1, 1) := by decide +kernel
theorem dX4_reopen_42 : decode cX4_reopen 42 = .ok (.iload_n 1, 1) := by decide +kernel
theorem dX4_reopen_43 : decode cX4_reopen 43 = .ok (.invokevirtual 114, 3) := by decide +kernel
theorem dX4_reopen_46 : decode cX4_reopen 46 = .ok (.ifCond .eq 7, 3) := by decide +kernel
theorem dX4_reopen_49 : decode cX4_reopen 49 = .ok (.iconst 1, 1) := by decide +kernel
theorem dX4_reopen_50 : decode cX4_reopen 50 = .ok (.goto 4, 3) := by decide +kernel
theorem dX4_reopen_53 : decode cX4_reopen 53 = .ok (.iconst (-1), 1) := by decide +kernel
theorem dX4_reopen_54 : decode cX4_reopen 54 = .ok (.istore_n 3, 1) := by decide +kernel
theorem dX4_reopen_55 : decode cX4_reopen 55 = .ok (.iload_n 3, 1) := by decide +kernel
theorem dX4_reopen_56 : decode cX4_reopen 56 = .ok (.iconst (-1), 1) := by decide +kernel
theorem dX4_reopen_57 : decode cX4_reopen 57 = .ok (.if_icmp .eq 7, 3) := by decide +kernel
theorem dX4_reopen_60 : decode cX4_reopen 60 = .ok (.iconst 1, 1) := by decide +kernel
theorem dX4_reopen_61 : decode cX4_reopen 61 = .ok (.goto 4, 3) := by decide +kernel
theorem dX4_reopen_64 : decode cX4_reopen 64 = .ok (.iconst 0, 1) := by decide +kernel
theorem dX4_reopen_65 : decode cX4_reopen 65 = .ok (.istore_n 2, 1) := by decide +kernel
theorem dX4_reopen_66 : decode cX4_reopen 66 = .ok (.iload_n 2, 1) := by decide +kernel
theorem dX4_reopen_67 : decode cX4_reopen 67 = .ok (.ifCond .eq 44, 3) := by decide +kernel
theorem dX4_reopen_70 : decode cX4_reopen 70 = .ok (.aload_n 0, 1) := by decide +kernel
theorem dX4_reopen_71 : decode cX4_reopen 71 = .ok (.dup, 1) := by decide +kernel
theorem dX4_reopen_72 : decode cX4_reopen 72 = .ok (.getfield 111, 3) := by decide +kernel
theorem dX4_reopen_75 : decode cX4_reopen 75 = .ok (.aload_n 0, 1) := by decide +kernel
theorem dX4_reopen_76 : decode cX4_reopen 76 = .ok (.iload_n 1, 1) := by decide +kernel
theorem dX4_reopen_77 : decode cX4_reopen 77 = .ok (.iload_n 1, 1) := by decide +kernel
theorem dX4_reopen_78 : decode cX4_reopen 78 = .ok (.aload_n 0, 1) := by decide +kernel
theorem dX4_reopen_79 : decode cX4_reopen 79 = .ok (.getfield 108, 3) := by decide +kernel
theorem dX4_reopen_82 : decode cX4_reopen 82 = .ok (.iadd, 1) := by decide +kernel
theorem dX4_reopen_83 : decode cX4_reopen 83 = .ok (.invokevirtual 93, 3) := by decide +kernel
theorem dX4_reopen_86 : decode cX4_reopen 86 = .ok (.ifCond .eq 7, 3) := by decide +kernel
theorem dX4_reopen_89 : decode cX4_reopen 89 = .ok (.iconst 0, 1) := by decide +kernel
theorem dX4_reopen_90 : decode cX4_reopen 90 = .ok (.goto 4, 3) := by decide +kernel
theorem dX4_reopen_93 : decode cX4_reopen 93 = .ok (.iconst 1, 1) := by decide +kernel
theorem dX4_reopen_94 : decode cX4_reopen 94 = .ok (.iadd, 1) := by decide +kernel
theorem dX4_reopen_95 : decode cX4_reopen 95 = .ok (.putfield 111, 3) := by decide +kernel
theorem dX4_reopen_98 : decode cX4_reopen 98 = .ok (.aload_n 0, 1) := by decide +kernel
theorem dX4_reopen_99 : decode cX4_reopen 99 = .ok (.iload_n 3, 1) := by decide +kernel
theorem dX4_reopen_100 : decode cX4_reopen 100 = .ok (.iload_n 1, 1) := by decide +kernel
theorem dX4_reopen_101 : decode cX4_reopen 101 = .ok (.invokevirtual 117, 3) := by decide +kernel
theorem dX4_reopen_104 : decode cX4_reopen 104 = .ok (.iload_n 1, 1) := by decide +kernel
theorem dX4_reopen_105 : decode cX4_reopen 105 = .ok (.aload_n 0, 1) := by decide +kernel
theorem dX4_reopen_106 : decode cX4_reopen 106 = .ok (.getfield 108, 3) := by decide +kernel
theorem dX4_reopen_109 : decode cX4_reopen 109 = .ok (.iadd, 1) := by decide +kernel
theorem dX4_reopen_110 : decode cX4_reopen 110 = .ok (.istore_n 1, 1) := by decide +kernel
theorem dX4_reopen_111 : decode cX4_reopen 111 = .ok (.goto (-88), 3) := by decide +kernel
theorem dX4_reopen_114 : decode cX4_reopen 114 = .ok (.aload_n 0, 1) := by decide +kernel
theorem dX4_reopen_115 : decode cX4_reopen 115 = .ok (.aload_n 0, 1) := by decide +kernel
theorem dX4_reopen_116 : decode cX4_reopen 116 = .ok (.getfield 13, 3) := by decide +kernel
theorem dX4_reopen_119 : decode cX4_reopen 119 = .ok (.iconst 0, 1) := by decide +kernel
theorem dX4_reopen_120 : decode cX4_reopen 120 = .ok (.iaload, 1) := by decide +kernel
theorem dX4_reopen_121 : decode cX4_reopen 121 = .ok (.iload_n 1, 1) := by decide +kernel
theorem dX4_reopen_122 : decode cX4_reopen 122 = .ok (.if_icmp .gt 13, 3) := by decide +kernel
theorem dX4_reopen_125 : decode cX4_reopen 125 = .ok (.aload_n 0, 1) := by decide +kernel
theorem dX4_reopen_126 : decode cX4_reopen 126 = .ok (.getfield 13, 3) := by decide +kernel
theorem dX4_reopen_129 : decode cX4_reopen 129 = .ok (.iconst 1, 1) := by decide +kernel
theorem dX4_reopen_130 : decode cX4_reopen 130 = .ok (.iaload, 1) := by decide +kernel
theorem dX4_reopen_131 : decode cX4_reopen 131 = .ok (.iload_n 1, 1) := by decide +kernel
theorem dX4_reopen_132 : decode cX4_reopen 132 = .ok (.if_icmp .le 7, 3) := by decide +kernel
theorem dX4_reopen_135 : decode cX4_reopen 135 = .ok (.iload_n 1, 1) := by decide +kernel
theorem dX4_reopen_136 : decode cX4_reopen 136 = .ok (.goto 4, 3) := by decide +kernel
theorem dX4_reopen_139 : decode cX4_reopen 139 = .ok (.iconst (-1), 1) := by decide +kernel
theorem dX4_reopen_140 : decode cX4_reopen 140 = .ok (.putfield 44, 3) := by decide +kernel
theorem dX4_reopen_143 : decode cX4_reopen 143 = .ok (.aload_n 0, 1) := by decide +kernel
theorem dX4_reopen_144 : decode cX4_reopen 144 = .ok (.getfield 13, 3) := by decide +kernel
theorem dX4_reopen_147 : decode cX4_reopen 147 = .ok (.iconst 0, 1) := by decide +kernel
theorem dX4_reopen_148 : decode cX4_reopen 148 = .ok (.iload_n 1, 1) := by decide +kernel
theorem dX4_reopen_149 : decode cX4_reopen 149 = .ok (.iastore, 1) := by decide +kernel
theorem dX4_reopen_150 : decode cX4_reopen 150 = .ok (.aload_n 0, 1) := by decide +kernel
theorem dX4_reopen_151 : decode cX4_reopen 151 = .ok (.getfield 13, 3) := by decide +kernel
theorem dX4_reopen_154 : decode cX4_reopen 154 = .ok (.iconst 1, 1) := by decide +kernel
theorem dX4_reopen_155 : decode cX4_reopen 155 = .ok (.iload_n 1, 1) := by decide +kernel
theorem dX4_reopen_156 : decode cX4_reopen 156 = .ok (.iastore, 1) := by decide +kernel
theorem dX4_reopen_157 : decode cX4_reopen 157 = .ok (.aload_n 0, 1) := by decide +kernel
theorem dX4_reopen_158 : decode cX4_reopen 158 = .ok (.getfield 62, 3) := by decide +kernel
theorem dX4_reopen_161 : decode cX4_reopen 161 = .ok (.ireturn, 1) := by decide +kernel
theorem dX4_repaired_0 : decode cX4_repaired 0 = .ok (.aload_n 0, 1) := by decide +kernel
theorem dX4_repaired_1 : decode cX4_repaired 1 = .ok (.iconst 0, 1) := by decide +kernel
theorem dX4_repaired_2 : decode cX4_repaired 2 = .ok (.putfield 48, 3) := by decide +kernel
theorem dX4_repaired_5 : decode cX4_repaired 5 = .ok (.aload_n 0, 1) := by decide +kernel
theorem dX4_repaired_6 : decode cX4_repaired 6 = .ok (.getfield 111, 3) := by decide +kernel
theorem dX4_repaired_9 : decode cX4_repaired 9 = .ok (.ireturn, 1) := by decide +kernel
theorem dX4_badAt_0 : decode cX4_badAt 0 = .ok (.aload_n 0, 1) := by decide +kernel
theorem dX4_badAt_1 : decode cX4_badAt 1 = .ok (.iconst 0, 1) := by decide +kernel
theorem dX4_badAt_2 : decode cX4_badAt 2 = .ok (.putfield 48, 3) := by decide +kernel
theorem dX4_badAt_5 : decode cX4_badAt 5 = .ok (.aload_n 0, 1) := by decide +kernel
theorem dX4_badAt_6 : decode cX4_badAt 6 = .ok (.getfield 44, 3) := by decide +kernel
theorem dX4_badAt_9 : decode cX4_badAt 9 = .ok (.ireturn, 1) := by decide +kernel
theorem dX4_byteAt_0 : decode cX4_byteAt 0 = .ok (.aload_n 0, 1) := by decide +kernel
theorem dX4_byteAt_1 : decode cX4_byteAt 1 = .ok (.iload_n 1, 1) := by decide +kernel
theorem dX4_byteAt_2 : decode cX4_byteAt 2 = .ok (.ifCond .lt 11, 3) := by decide +kernel
theorem dX4_byteAt_5 : decode cX4_byteAt 5 = .ok (.iload_n 1, 1) := by decide +kernel
theorem dX4_byteAt_6 : decode cX4_byteAt 6 = .ok (.aload_n 0, 1) := by decide +kernel
theorem dX4_byteAt_7 : decode cX4_byteAt 7 = .ok (.getfield 62, 3) := by decide +kernel
theorem dX4_byteAt_10 : decode cX4_byteAt 10 = .ok (.if_icmp .lt 7, 3) := by decide +kernel
theorem dX4_byteAt_13 : decode cX4_byteAt 13 = .ok (.iconst 1, 1) := by decide +kernel
theorem dX4_byteAt_14 : decode cX4_byteAt 14 = .ok (.goto 4, 3) := by decide +kernel
theorem dX4_byteAt_17 : decode cX4_byteAt 17 = .ok (.iconst 0, 1) := by decide +kernel
theorem dX4_byteAt_18 : decode cX4_byteAt 18 = .ok (.putfield 48, 3) := by decide +kernel
theorem dX4_byteAt_21 : decode cX4_byteAt 21 = .ok (.aload_n 0, 1) := by decide +kernel
theorem dX4_byteAt_22 : decode cX4_byteAt 22 = .ok (.getfield 48, 3) := by decide +kernel
theorem dX4_byteAt_25 : decode cX4_byteAt 25 = .ok (.iconst 1, 1) := by decide +kernel
theorem dX4_byteAt_26 : decode cX4_byteAt 26 = .ok (.if_icmp .eq 17, 3) := by decide +kernel
theorem dX4_byteAt_29 : decode cX4_byteAt 29 = .ok (.iload_n 2, 1) := by decide +kernel
theorem dX4_byteAt_30 : decode cX4_byteAt 30 = .ok (.ifCond .lt 13, 3) := by decide +kernel
theorem dX4_byteAt_33 : decode cX4_byteAt 33 = .ok (.iload_n 2, 1) := by decide +kernel
theorem dX4_byteAt_34 : decode cX4_byteAt 34 = .ok (.aload_n 0, 1) := by decide +kernel
theorem dX4_byteAt_35 : decode cX4_byteAt 35 = .ok (.getfield 19, 3) := by decide +kernel
theorem dX4_byteAt_38 : decode cX4_byteAt 38 = .ok (.iload_n 1, 1) := by decide +kernel
theorem dX4_byteAt_39 : decode cX4_byteAt 39 = .ok (.iaload, 1) := by decide +kernel
theorem dX4_byteAt_40 : decode cX4_byteAt 40 = .ok (.if_icmp .lt 7, 3) := by decide +kernel
theorem dX4_byteAt_43 : decode cX4_byteAt 43 = .ok (.iconst (-1), 1) := by decide +kernel
theorem dX4_byteAt_44 : decode cX4_byteAt 44 = .ok (.goto 14, 3) := by decide +kernel
theorem dX4_byteAt_47 : decode cX4_byteAt 47 = .ok (.aload_n 0, 1) := by decide +kernel
theorem dX4_byteAt_48 : decode cX4_byteAt 48 = .ok (.getfield 23, 3) := by decide +kernel
theorem dX4_byteAt_51 : decode cX4_byteAt 51 = .ok (.iload_n 1, 1) := by decide +kernel
theorem dX4_byteAt_52 : decode cX4_byteAt 52 = .ok (.bipush 64, 2) := by decide +kernel
theorem dX4_byteAt_54 : decode cX4_byteAt 54 = .ok (.imul, 1) := by decide +kernel
theorem dX4_byteAt_55 : decode cX4_byteAt 55 = .ok (.iload_n 2, 1) := by decide +kernel
theorem dX4_byteAt_56 : decode cX4_byteAt 56 = .ok (.iadd, 1) := by decide +kernel
theorem dX4_byteAt_57 : decode cX4_byteAt 57 = .ok (.iaload, 1) := by decide +kernel
theorem dX4_byteAt_58 : decode cX4_byteAt 58 = .ok (.ireturn, 1) := by decide +kernel
theorem dX4_rows_0 : decode cX4_rows 0 = .ok (.aload_n 0, 1) := by decide +kernel
theorem dX4_rows_1 : decode cX4_rows 1 = .ok (.iconst 0, 1) := by decide +kernel
theorem dX4_rows_2 : decode cX4_rows 2 = .ok (.putfield 48, 3) := by decide +kernel
theorem dX4_rows_5 : decode cX4_rows 5 = .ok (.iconst 0, 1) := by decide +kernel
theorem dX4_rows_6 : decode cX4_rows 6 = .ok (.istore_n 2, 1) := by decide +kernel
theorem dX4_rows_7 : decode cX4_rows 7 = .ok (.iconst 0, 1) := by decide +kernel
theorem dX4_rows_8 : decode cX4_rows 8 = .ok (.istore_n 3, 1) := by decide +kernel
theorem dX4_rows_9 : decode cX4_rows 9 = .ok (.iload_n 3, 1) := by decide +kernel
theorem dX4_rows_10 : decode cX4_rows 10 = .ok (.aload_n 0, 1) := by decide +kernel
theorem dX4_rows_11 : decode cX4_rows 11 = .ok (.getfield 62, 3) := by decide +kernel
theorem dX4_rows_14 : decode cX4_rows 14 = .ok (.if_icmp .ge 30, 3) := by decide +kernel
theorem dX4_rows_17 : decode cX4_rows 17 = .ok (.iload_n 2, 1) := by decide +kernel
theorem dX4_rows_18 : decode cX4_rows 18 = .ok (.aload_n 0, 1) := by decide +kernel
theorem dX4_rows_19 : decode cX4_rows 19 = .ok (.getfield 16, 3) := by decide +kernel
theorem dX4_rows_22 : decode cX4_rows 22 = .ok (.iload_n 3, 1) := by decide +kernel
theorem dX4_rows_23 : decode cX4_rows 23 = .ok (.iaload, 1) := by decide +kernel
theorem dX4_rows_24 : decode cX4_rows 24 = .ok (.ldc 121, 2) := by decide +kernel
theorem dX4_rows_26 : decode cX4_rows 26 = .ok (.idiv, 1) := by decide +kernel
theorem dX4_rows_27 : decode cX4_rows 27 = .ok (.iload_n 1, 1) := by decide +kernel
theorem dX4_rows_28 : decode cX4_rows 28 = .ok (.if_icmp .ne 7, 3) := by decide +kernel
theorem dX4_rows_31 : decode cX4_rows 31 = .ok (.iconst 1, 1) := by decide +kernel
theorem dX4_rows_32 : decode cX4_rows 32 = .ok (.goto 4, 3) := by decide +kernel
theorem dX4_rows_35 : decode cX4_rows 35 = .ok (.iconst 0, 1) := by decide +kernel
theorem dX4_rows_36 : decode cX4_rows 36 = .ok (.iadd, 1) := by decide +kernel
theorem dX4_rows_37 : decode cX4_rows 37 = .ok (.istore_n 2, 1) := by decide +kernel
theorem dX4_rows_38 : decode cX4_rows 38 = .ok (.iinc 3 1, 3) := by decide +kernel
theorem dX4_rows_41 : decode cX4_rows 41 = .ok (.goto (-32), 3) := by decide +kernel
theorem dX4_rows_44 : decode cX4_rows 44 = .ok (.iload_n 2, 1) := by decide +kernel
theorem dX4_rows_45 : decode cX4_rows 45 = .ok (.ireturn, 1) := by decide +kernel
theorem dX4_move_0 : decode cX4_move 0 = .ok (.aload_n 0, 1) := by decide +kernel
theorem dX4_move_1 : decode cX4_move 1 = .ok (.iconst 0, 1) := by decide +kernel
theorem dX4_move_2 : decode cX4_move 2 = .ok (.putfield 48, 3) := by decide +kernel
theorem dX4_move_5 : decode cX4_move 5 = .ok (.aload_n 0, 1) := by decide +kernel
theorem dX4_move_6 : decode cX4_move 6 = .ok (.getfield 52, 3) := by decide +kernel
theorem dX4_move_9 : decode cX4_move 9 = .ok (.ifCond .ne 39, 3) := by decide +kernel
theorem dX4_move_12 : decode cX4_move 12 = .ok (.aload_n 0, 1) := by decide +kernel
theorem dX4_move_13 : decode cX4_move 13 = .ok (.getfield 59, 3) := by decide +kernel
theorem dX4_move_16 : decode cX4_move 16 = .ok (.ifCond .gt 32, 3) := by decide +kernel
theorem dX4_move_19 : decode cX4_move 19 = .ok (.aload_n 0, 1) := by decide +kernel
theorem dX4_move_20 : decode cX4_move 20 = .ok (.getfield 13, 3) := by decide +kernel
theorem dX4_move_23 : decode cX4_move 23 = .ok (.iconst 0, 1) := by decide +kernel
theorem dX4_move_24 : decode cX4_move 24 = .ok (.iaload, 1) := by decide +kernel
theorem dX4_move_25 : decode cX4_move 25 = .ok (.aload_n 0, 1) := by decide +kernel
theorem dX4_move_26 : decode cX4_move 26 = .ok (.getfield 13, 3) := by decide +kernel
theorem dX4_move_29 : decode cX4_move 29 = .ok (.iconst 1, 1) := by decide +kernel
theorem dX4_move_30 : decode cX4_move 30 = .ok (.iaload, 1) := by decide +kernel
theorem dX4_move_31 : decode cX4_move 31 = .ok (.if_icmp .ne 17, 3) := by decide +kernel
theorem dX4_move_34 : decode cX4_move 34 = .ok (.aload_n 0, 1) := by decide +kernel
theorem dX4_move_35 : decode cX4_move 35 = .ok (.iconst 0, 1) := by decide +kernel
theorem dX4_move_36 : decode cX4_move 36 = .ok (.aload_n 0, 1) := by decide +kernel
theorem dX4_move_37 : decode cX4_move 37 = .ok (.getfield 13, 3) := by decide +kernel
theorem dX4_move_40 : decode cX4_move 40 = .ok (.iconst 0, 1) := by decide +kernel
theorem dX4_move_41 : decode cX4_move 41 = .ok (.iaload, 1) := by decide +kernel
theorem dX4_move_42 : decode cX4_move 42 = .ok (.invokevirtual 93, 3) := by decide +kernel
theorem dX4_move_45 : decode cX4_move 45 = .ok (.ifCond .ne 5, 3) := by decide +kernel
theorem dX4_move_48 : decode cX4_move 48 = .ok (.iconst 0, 1) := by decide +kernel
theorem dX4_move_49 : decode cX4_move 49 = .ok (.ireturn, 1) := by decide +kernel
theorem dX4_move_50 : decode cX4_move 50 = .ok (.iconst 0, 1) := by decide +kernel
theorem dX4_move_51 : decode cX4_move 51 = .ok (.istore_n 2, 1) := by decide +kernel
theorem dX4_move_52 : decode cX4_move 52 = .ok (.iconst 0, 1) := by decide +kernel
theorem dX4_move_53 : decode cX4_move 53 = .ok (.istore_n 3, 1) := by decide +kernel
theorem dX4_move_54 : decode cX4_move 54 = .ok (.aload_n 0, 1) := by decide +kernel
theorem dX4_move_55 : decode cX4_move 55 = .ok (.getfield 87, 3) := by decide +kernel
theorem dX4_move_58 : decode cX4_move 58 = .ok (.istore 4, 2) := by decide +kernel
theorem dX4_move_60 : decode cX4_move 60 = .ok (.iload_n 2, 1) := by decide +kernel
theorem dX4_move_61 : decode cX4_move 61 = .ok (.aload_n 0, 1) := by decide +kernel
theorem dX4_move_62 : decode cX4_move 62 = .ok (.getfield 84, 3) := by decide +kernel
theorem dX4_move_65 : decode cX4_move 65 = .ok (.if_icmp .ge 52, 3) := by decide +kernel
theorem dX4_move_68 : decode cX4_move 68 = .ok (.aload_n 0, 1) := by decide +kernel
theorem dX4_move_69 : decode cX4_move 69 = .ok (.getfield 16, 3) := by decide +kernel
theorem dX4_move_72 : decode cX4_move 72 = .ok (.iload 4, 2) := by decide +kernel
theorem dX4_move_74 : decode cX4_move 74 = .ok (.aload_n 0, 1) := by decide +kernel
theorem dX4_move_75 : decode cX4_move 75 = .ok (.getfield 26, 3) := by decide +kernel
theorem dX4_move_78 : decode cX4_move 78 = .ok (.iload_n 2, 1) := by decide +kernel
theorem dX4_move_79 : decode cX4_move 79 = .ok (.iaload, 1) := by decide +kernel
theorem dX4_move_80 : decode cX4_move 80 = .ok (.iadd, 1) := by decide +kernel
theorem dX4_move_81 : decode cX4_move 81 = .ok (.iconst 1, 1) := by decide +kernel
theorem dX4_move_82 : decode cX4_move 82 = .ok (.isub, 1) := by decide +kernel
theorem dX4_move_83 : decode cX4_move 83 = .ok (.iaload, 1) := by decide +kernel
theorem dX4_move_84 : decode cX4_move 84 = .ok (.ldc 121, 2) := by decide +kernel
theorem dX4_move_86 : decode cX4_move 86 = .ok (.idiv, 1) := by decide +kernel
theorem dX4_move_87 : decode cX4_move 87 = .ok (.iload_n 1, 1) := by decide +kernel
theorem dX4_move_88 : decode cX4_move 88 = .ok (.if_icmp .gt 29, 3) := by decide +kernel
theorem dX4_move_91 : decode cX4_move 91 = .ok (.iload 4, 2) := by decide +kernel
theorem dX4_move_93 : decode cX4_move 93 = .ok (.aload_n 0, 1) := by decide +kernel
theorem dX4_move_94 : decode cX4_move 94 = .ok (.getfield 26, 3) := by decide +kernel
theorem dX4_move_97 : decode cX4_move 97 = .ok (.iload_n 2, 1) := by decide +kernel
theorem dX4_move_98 : decode cX4_move 98 = .ok (.iaload, 1) := by decide +kernel
theorem dX4_move_99 : decode cX4_move 99 = .ok (.iadd, 1) := by decide +kernel
theorem dX4_move_100 : decode cX4_move 100 = .ok (.istore 4, 2) := by decide +kernel
theorem dX4_move_102 : decode cX4_move 102 = .ok (.iload_n 3, 1) := by decide +kernel
theorem dX4_move_103 : decode cX4_move 103 = .ok (.aload_n 0, 1) := by decide +kernel
theorem dX4_move_104 : decode cX4_move 104 = .ok (.getfield 29, 3) := by decide +kernel
theorem dX4_move_107 : decode cX4_move 107 = .ok (.iload_n 2, 1) := by decide +kernel
theorem dX4_move_108 : decode cX4_move 108 = .ok (.iaload, 1) := by decide +kernel
theorem dX4_move_109 : decode cX4_move 109 = .ok (.iadd, 1) := by decide +kernel
theorem dX4_move_110 : decode cX4_move 110 = .ok (.istore_n 3, 1) := by decide +kernel
theorem dX4_move_111 : decode cX4_move 111 = .ok (.iinc 2 1, 3) := by decide +kernel
theorem dX4_move_114 : decode cX4_move 114 = .ok (.goto (-54), 3) := by decide +kernel
theorem dX4_move_117 : decode cX4_move 117 = .ok (.iload_n 2, 1) := by decide +kernel
theorem dX4_move_118 : decode cX4_move 118 = .ok (.ifCond .ne 5, 3) := by decide +kernel
theorem dX4_move_121 : decode cX4_move 121 = .ok (.iconst 0, 1) := by decide +kernel
theorem dX4_move_122 : decode cX4_move 122 = .ok (.ireturn, 1) := by decide +kernel
theorem dX4_move_123 : decode cX4_move 123 = .ok (.iconst 0, 1) := by decide +kernel
theorem dX4_move_124 : decode cX4_move 124 = .ok (.istore 5, 2) := by decide +kernel
theorem dX4_move_126 : decode cX4_move 126 = .ok (.iload 5, 2) := by decide +kernel
theorem dX4_move_128 : decode cX4_move 128 = .ok (.iconst 2, 1) := by decide +kernel
theorem dX4_move_129 : decode cX4_move 129 = .ok (.if_icmp .ge 71, 3) := by decide +kernel
theorem dX4_move_132 : decode cX4_move 132 = .ok (.iload_n 3, 1) := by decide +kernel
theorem dX4_move_133 : decode cX4_move 133 = .ok (.istore 6, 2) := by decide +kernel
theorem dX4_move_135 : decode cX4_move 135 = .ok (.iload 6, 2) := by decide +kernel
theorem dX4_move_137 : decode cX4_move 137 = .ok (.aload_n 0, 1) := by decide +kernel
theorem dX4_move_138 : decode cX4_move 138 = .ok (.getfield 13, 3) := by decide +kernel
theorem dX4_move_141 : decode cX4_move 141 = .ok (.iload 5, 2) := by decide +kernel
theorem dX4_move_143 : decode cX4_move 143 = .ok (.iaload, 1) := by decide +kernel
theorem dX4_move_144 : decode cX4_move 144 = .ok (.if_icmp .ge 39, 3) := by decide +kernel
theorem dX4_move_147 : decode cX4_move 147 = .ok (.aload_n 0, 1) := by decide +kernel
theorem dX4_move_148 : decode cX4_move 148 = .ok (.getfield 9, 3) := by decide +kernel
theorem dX4_move_151 : decode cX4_move 151 = .ok (.iload 5, 2) := by decide +kernel
theorem dX4_move_153 : decode cX4_move 153 = .ok (.sipush 8192, 3) := by decide +kernel
theorem dX4_move_156 : decode cX4_move 156 = .ok (.imul, 1) := by decide +kernel
theorem dX4_move_157 : decode cX4_move 157 = .ok (.iload 6, 2) := by decide +kernel
theorem dX4_move_159 : decode cX4_move 159 = .ok (.iadd, 1) := by decide +kernel
theorem dX4_move_160 : decode cX4_move 160 = .ok (.iload_n 3, 1) := by decide +kernel
theorem dX4_move_161 : decode cX4_move 161 = .ok (.isub, 1) := by decide +kernel
theorem dX4_move_162 : decode cX4_move 162 = .ok (.aload_n 0, 1) := by decide +kernel
theorem dX4_move_163 : decode cX4_move 163 = .ok (.getfield 9, 3) := by decide +kernel
theorem dX4_move_166 : decode cX4_move 166 = .ok (.iload 5, 2) := by decide +kernel
theorem dX4_move_168 : decode cX4_move 168 = .ok (.sipush 8192, 3) := by decide +kernel
theorem dX4_move_171 : decode cX4_move 171 = .ok (.imul, 1) := by decide +kernel
theorem dX4_move_172 : decode cX4_move 172 = .ok (.iload 6, 2) := by decide +kernel
theorem dX4_move_174 : decode cX4_move 174 = .ok (.iadd, 1) := by decide +kernel
theorem dX4_move_175 : decode cX4_move 175 = .ok (.iaload, 1) := by decide +kernel
theorem dX4_move_176 : decode cX4_move 176 = .ok (.iastore, 1) := by decide +kernel
theorem dX4_move_177 : decode cX4_move 177 = .ok (.iinc 6 1, 3) := by decide +kernel
theorem dX4_move_180 : decode cX4_move 180 = .ok (.goto (-45), 3) := by decide +kernel
theorem dX4_move_183 : decode cX4_move 183 = .ok (.aload_n 0, 1) := by decide +kernel
theorem dX4_move_184 : decode cX4_move 184 = .ok (.getfield 13, 3) := by decide +kernel
theorem dX4_move_187 : decode cX4_move 187 = .ok (.iload 5, 2) := by decide +kernel
theorem dX4_move_189 : decode cX4_move 189 = .ok (.dup2, 1) := by decide +kernel
theorem dX4_move_190 : decode cX4_move 190 = .ok (.iaload, 1) := by decide +kernel
theorem dX4_move_191 : decode cX4_move 191 = .ok (.iload_n 3, 1) := by decide +kernel
theorem dX4_move_192 : decode cX4_move 192 = .ok (.isub, 1) := by decide +kernel
theorem dX4_move_193 : decode cX4_move 193 = .ok (.iastore, 1) := by decide +kernel
theorem dX4_move_194 : decode cX4_move 194 = .ok (.iinc 5 1, 3) := by decide +kernel
theorem dX4_move_197 : decode cX4_move 197 = .ok (.goto (-71), 3) := by decide +kernel
theorem dX4_move_200 : decode cX4_move 200 = .ok (.iload_n 2, 1) := by decide +kernel
theorem dX4_move_201 : decode cX4_move 201 = .ok (.istore 5, 2) := by decide +kernel
theorem dX4_move_203 : decode cX4_move 203 = .ok (.iload 5, 2) := by decide +kernel
theorem dX4_move_205 : decode cX4_move 205 = .ok (.aload_n 0, 1) := by decide +kernel
theorem dX4_move_206 : decode cX4_move 206 = .ok (.getfield 84, 3) := by decide +kernel
theorem dX4_move_209 : decode cX4_move 209 = .ok (.if_icmp .ge 41, 3) := by decide +kernel
theorem dX4_move_212 : decode cX4_move 212 = .ok (.aload_n 0, 1) := by decide +kernel
theorem dX4_move_213 : decode cX4_move 213 = .ok (.getfield 26, 3) := by decide +kernel
theorem dX4_move_216 : decode cX4_move 216 = .ok (.iload 5, 2) := by decide +kernel
theorem dX4_move_218 : decode cX4_move 218 = .ok (.iload_n 2, 1) := by decide +kernel
theorem dX4_move_219 : decode cX4_move 219 = .ok (.isub, 1) := by decide +kernel
theorem dX4_move_220 : decode cX4_move 220 = .ok (.aload_n 0, 1) := by decide +kernel
theorem dX4_move_221 : decode cX4_move 221 = .ok (.getfield 26, 3) := by decide +kernel
theorem dX4_move_224 : decode cX4_move 224 = .ok (.iload 5, 2) := by decide +kernel
theorem dX4_move_226 : decode cX4_move 226 = .ok (.iaload, 1) := by decide +kernel
theorem dX4_move_227 : decode cX4_move 227 = .ok (.iastore, 1) := by decide +kernel
theorem dX4_move_228 : decode cX4_move 228 = .ok (.aload_n 0, 1) := by decide +kernel
theorem dX4_move_229 : decode cX4_move 229 = .ok (.getfield 29, 3) := by decide +kernel
theorem dX4_move_232 : decode cX4_move 232 = .ok (.iload 5, 2) := by decide +kernel
theorem dX4_move_234 : decode cX4_move 234 = .ok (.iload_n 2, 1) := by decide +kernel
theorem dX4_move_235 : decode cX4_move 235 = .ok (.isub, 1) := by decide +kernel
theorem dX4_move_236 : decode cX4_move 236 = .ok (.aload_n 0, 1) := by decide +kernel
theorem dX4_move_237 : decode cX4_move 237 = .ok (.getfield 29, 3) := by decide +kernel
theorem dX4_move_240 : decode cX4_move 240 = .ok (.iload 5, 2) := by decide +kernel
theorem dX4_move_242 : decode cX4_move 242 = .ok (.iaload, 1) := by decide +kernel
theorem dX4_move_243 : decode cX4_move 243 = .ok (.iastore, 1) := by decide +kernel
theorem dX4_move_244 : decode cX4_move 244 = .ok (.iinc 5 1, 3) := by decide +kernel
theorem dX4_move_247 : decode cX4_move 247 = .ok (.goto (-44), 3) := by decide +kernel
theorem dX4_move_250 : decode cX4_move 250 = .ok (.aload_n 0, 1) := by decide +kernel
theorem dX4_move_251 : decode cX4_move 251 = .ok (.dup, 1) := by decide +kernel
theorem dX4_move_252 : decode cX4_move 252 = .ok (.getfield 84, 3) := by decide +kernel
theorem dX4_move_255 : decode cX4_move 255 = .ok (.iload_n 2, 1) := by decide +kernel
theorem dX4_move_256 : decode cX4_move 256 = .ok (.isub, 1) := by decide +kernel
theorem dX4_move_257 : decode cX4_move 257 = .ok (.putfield 84, 3) := by decide +kernel
theorem dX4_move_260 : decode cX4_move 260 = .ok (.aload_n 0, 1) := by decide +kernel
theorem dX4_move_261 : decode cX4_move 261 = .ok (.iload 4, 2) := by decide +kernel
theorem dX4_move_263 : decode cX4_move 263 = .ok (.putfield 87, 3) := by decide +kernel
theorem dX4_move_266 : decode cX4_move 266 = .ok (.iconst 1, 1) := by decide +kernel
theorem dX4_move_267 : decode cX4_move 267 = .ok (.ireturn, 1) := by decide +kernel
end
section
theorem dJx00060_init_a7421_0 : decode cJx00060_init_a7421 0 = .ok (.aload_n 0, 1) := by decide +kernel
theorem dJx00060_init_a7421_1 : decode cJx00060_init_a7421 1 = .ok (.aload_n 1, 1) := by decide +kernel
theorem dJx00060_init_a7421_2 : decode cJx00060_init_a7421 2 = .ok (.invokespecial 7, 3) := by decide +kernel
theorem dJx00060_init_a7421_5 : decode cJx00060_init_a7421 5 = .ok (.return_, 1) := by decide +kernel
end
section
theorem dJ6_rotateLeft_7cf53_0 : decode cJ6_rotateLeft_7cf53 0 = .ok (.iload_n 0, 1) := by decide +kernel
theorem dJ6_rotateLeft_7cf53_1 : decode cJ6_rotateLeft_7cf53 1 = .ok (.iload_n 1, 1) := by decide +kernel
theorem dJ6_rotateLeft_7cf53_2 : decode cJ6_rotateLeft_7cf53 2 = .ok (.ishl, 1) := by decide +kernel
theorem dJ6_rotateLeft_7cf53_3 : decode cJ6_rotateLeft_7cf53 3 = .ok (.iload_n 0, 1) := by decide +kernel
theorem dJ6_rotateLeft_7cf53_4 : decode cJ6_rotateLeft_7cf53 4 = .ok (.iload_n 1, 1) := by decide +kernel
theorem dJ6_rotateLeft_7cf53_5 : decode cJ6_rotateLeft_7cf53 5 = .ok (.ineg, 1) := by decide +kernel
theorem dJ6_rotateLeft_7cf53_6 : decode cJ6_rotateLeft_7cf53 6 = .ok (.iushr, 1) := by decide +kernel
theorem dJ6_rotateLeft_7cf53_7 : decode cJ6_rotateLeft_7cf53 7 = .ok (.ior, 1) := by decide +kernel
theorem dJ6_rotateLeft_7cf53_8 : decode cJ6_rotateLeft_7cf53 8 = .ok (.ireturn, 1) := by decide +kernel
end
section
theorem dL_byteAt_0 : decode cL_byteAt 0 = .ok (.aload_n 3, 1) := by decide +kernel
theorem dL_byteAt_1 : decode cL_byteAt 1 = .ok (.iconst 0, 1) := by decide +kernel
theorem dL_byteAt_2 : decode cL_byteAt 2 = .ok (.aload_n 0, 1) := by decide +kernel
theorem dL_byteAt_3 : decode cL_byteAt 3 = .ok (.iload_n 1, 1) := by decide +kernel
theorem dL_byteAt_4 : decode cL_byteAt 4 = .ok (.iload_n 2, 1) := by decide +kernel
theorem dL_byteAt_5 : decode cL_byteAt 5 = .ok (.invokevirtual 7, 3) := by decide +kernel
theorem dL_byteAt_8 : decode cL_byteAt 8 = .ok (.i2l, 1) := by decide +kernel
theorem dL_byteAt_9 : decode cL_byteAt 9 = .ok (.lastore, 1) := by decide +kernel
theorem dL_byteAt_10 : decode cL_byteAt 10 = .ok (.goto 7, 3) := by decide +kernel
theorem dL_byteAt_13 : decode cL_byteAt 13 = .ok (.astore 4, 2) := by decide +kernel
theorem dL_byteAt_15 : decode cL_byteAt 15 = .ok (.iconst 1, 1) := by decide +kernel
theorem dL_byteAt_16 : decode cL_byteAt 16 = .ok (.ireturn, 1) := by decide +kernel
theorem dL_byteAt_17 : decode cL_byteAt 17 = .ok (.iconst 0, 1) := by decide +kernel
theorem dL_byteAt_18 : decode cL_byteAt 18 = .ok (.ireturn, 1) := by decide +kernel
theorem dL_law_0 : decode cL_law 0 = .ok (.new 8, 3) := by decide +kernel
theorem dL_law_3 : decode cL_law 3 = .ok (.dup, 1) := by decide +kernel
theorem dL_law_4 : decode cL_law 4 = .ok (.invokespecial 15, 3) := by decide +kernel
theorem dL_law_7 : decode cL_law 7 = .ok (.astore_n 1, 1) := by decide +kernel
theorem dL_law_8 : decode cL_law 8 = .ok (.new 16, 3) := by decide +kernel
theorem dL_law_11 : decode cL_law 11 = .ok (.dup, 1) := by decide +kernel
theorem dL_law_12 : decode cL_law 12 = .ok (.invokespecial 18, 3) := by decide +kernel
theorem dL_law_15 : decode cL_law 15 = .ok (.astore_n 2, 1) := by decide +kernel
theorem dL_law_16 : decode cL_law 16 = .ok (.iconst 1, 1) := by decide +kernel
theorem dL_law_17 : decode cL_law 17 = .ok (.newarray .long, 2) := by decide +kernel
theorem dL_law_19 : decode cL_law 19 = .ok (.astore_n 3, 1) := by decide +kernel
theorem dL_law_20 : decode cL_law 20 = .ok (.iconst 0, 1) := by decide +kernel
theorem dL_law_21 : decode cL_law 21 = .ok (.istore 4, 2) := by decide +kernel
theorem dL_law_23 : decode cL_law 23 = .ok (.iload 4, 2) := by decide +kernel
theorem dL_law_25 : decode cL_law 25 = .ok (.aload_n 0, 1) := by decide +kernel
theorem dL_law_26 : decode cL_law 26 = .ok (.arraylength, 1) := by decide +kernel
theorem dL_law_27 : decode cL_law 27 = .ok (.iconst 4, 1) := by decide +kernel
theorem dL_law_28 : decode cL_law 28 = .ok (.isub, 1) := by decide +kernel
theorem dL_law_29 : decode cL_law 29 = .ok (.if_icmp .gt 396, 3) := by decide +kernel
theorem dL_law_32 : decode cL_law 32 = .ok (.aload_n 0, 1) := by decide +kernel
theorem dL_law_33 : decode cL_law 33 = .ok (.iload 4, 2) := by decide +kernel
theorem dL_law_35 : decode cL_law 35 = .ok (.iaload, 1) := by decide +kernel
theorem dL_law_36 : decode cL_law 36 = .ok (.bipush 15, 2) := by decide +kernel
theorem dL_law_38 : decode cL_law 38 = .ok (.iand, 1) := by decide +kernel
theorem dL_law_39 : decode cL_law 39 = .ok (.tableswitch 380 0 11 #[61, 86, 111, 124, 161, 174, 242, 291, 304, 317, 342, 367], 61) := by decide +kernel
theorem dL_law_100 : decode cL_law 100 = .ok (.aload_n 1, 1) := by decide +kernel
theorem dL_law_101 : decode cL_law 101 = .ok (.aload_n 0, 1) := by decide +kernel
theorem dL_law_102 : decode cL_law 102 = .ok (.iload 4, 2) := by decide +kernel
theorem dL_law_104 : decode cL_law 104 = .ok (.iconst 1, 1) := by decide +kernel
theorem dL_law_105 : decode cL_law 105 = .ok (.iadd, 1) := by decide +kernel
theorem dL_law_106 : decode cL_law 106 = .ok (.iaload, 1) := by decide +kernel
theorem dL_law_107 : decode cL_law 107 = .ok (.invokevirtual 19, 3) := by decide +kernel
theorem dL_law_110 : decode cL_law 110 = .ok (.aload_n 2, 1) := by decide +kernel
theorem dL_law_111 : decode cL_law 111 = .ok (.aload_n 0, 1) := by decide +kernel
theorem dL_law_112 : decode cL_law 112 = .ok (.iload 4, 2) := by decide +kernel
theorem dL_law_114 : decode cL_law 114 = .ok (.iconst 1, 1) := by decide +kernel
theorem dL_law_115 : decode cL_law 115 = .ok (.iadd, 1) := by decide +kernel
theorem dL_law_116 : decode cL_law 116 = .ok (.iaload, 1) := by decide +kernel
theorem dL_law_117 : decode cL_law 117 = .ok (.invokevirtual 23, 3) := by decide +kernel
theorem dL_law_120 : decode cL_law 120 = .ok (.if_icmp .eq 299, 3) := by decide +kernel
theorem dL_law_123 : decode cL_law 123 = .ok (.iconst 0, 1) := by decide +kernel
theorem dL_law_124 : decode cL_law 124 = .ok (.ireturn, 1) := by decide +kernel
theorem dL_law_125 : decode cL_law 125 = .ok (.aload_n 1, 1) := by decide +kernel
theorem dL_law_126 : decode cL_law 126 = .ok (.aload_n 0, 1) := by decide +kernel
theorem dL_law_127 : decode cL_law 127 = .ok (.iload 4, 2) := by decide +kernel
theorem dL_law_129 : decode cL_law 129 = .ok (.iconst 1, 1) := by decide +kernel
theorem dL_law_130 : decode cL_law 130 = .ok (.iadd, 1) := by decide +kernel
theorem dL_law_131 : decode cL_law 131 = .ok (.iaload, 1) := by decide +kernel
theorem dL_law_132 : decode cL_law 132 = .ok (.invokevirtual 24, 3) := by decide +kernel
theorem dL_law_135 : decode cL_law 135 = .ok (.aload_n 2, 1) := by decide +kernel
theorem dL_law_136 : decode cL_law 136 = .ok (.aload_n 0, 1) := by decide +kernel
theorem dL_law_137 : decode cL_law 137 = .ok (.iload 4, 2) := by decide +kernel
theorem dL_law_139 : decode cL_law 139 = .ok (.iconst 1, 1) := by decide +kernel
theorem dL_law_140 : decode cL_law 140 = .ok (.iadd, 1) := by decide +kernel
theorem dL_law_141 : decode cL_law 141 = .ok (.iaload, 1) := by decide +kernel
theorem dL_law_142 : decode cL_law 142 = .ok (.invokevirtual 28, 3) := by decide +kernel
theorem dL_law_145 : decode cL_law 145 = .ok (.if_icmp .eq 274, 3) := by decide +kernel
theorem dL_law_148 : decode cL_law 148 = .ok (.iconst 0, 1) := by decide +kernel
theorem dL_law_149 : decode cL_law 149 = .ok (.ireturn, 1) := by decide +kernel
theorem dL_law_150 : decode cL_law 150 = .ok (.aload_n 1, 1) := by decide +kernel
theorem dL_law_151 : decode cL_law 151 = .ok (.invokevirtual 29, 3) := by decide +kernel
theorem dL_law_154 : decode cL_law 154 = .ok (.aload_n 2, 1) := by decide +kernel
theorem dL_law_155 : decode cL_law 155 = .ok (.invokevirtual 33, 3) := by decide +kernel
theorem dL_law_158 : decode cL_law 158 = .ok (.if_icmp .eq 261, 3) := by decide +kernel
theorem dL_law_161 : decode cL_law 161 = .ok (.iconst 0, 1) := by decide +kernel
theorem dL_law_162 : decode cL_law 162 = .ok (.ireturn, 1) := by decide +kernel
theorem dL_law_163 : decode cL_law 163 = .ok (.aload_n 1, 1) := by decide +kernel
theorem dL_law_164 : decode cL_law 164 = .ok (.aload_n 0, 1) := by decide +kernel
theorem dL_law_165 : decode cL_law 165 = .ok (.iload 4, 2) := by decide +kernel
theorem dL_law_167 : decode cL_law 167 = .ok (.iconst 1, 1) := by decide +kernel
theorem dL_law_168 : decode cL_law 168 = .ok (.iadd, 1) := by decide +kernel
theorem dL_law_169 : decode cL_law 169 = .ok (.iaload, 1) := by decide +kernel
theorem dL_law_170 : decode cL_law 170 = .ok (.aload_n 0, 1) := by decide +kernel
theorem dL_law_171 : decode cL_law 171 = .ok (.iload 4, 2) := by decide +kernel
theorem dL_law_173 : decode cL_law 173 = .ok (.iconst 2, 1) := by decide +kernel
theorem dL_law_174 : decode cL_law 174 = .ok (.iadd, 1) := by decide +kernel
theorem dL_law_175 : decode cL_law 175 = .ok (.iaload, 1) := by decide +kernel
theorem dL_law_176 : decode cL_law 176 = .ok (.invokevirtual 34, 3) := by decide +kernel
theorem dL_law_179 : decode cL_law 179 = .ok (.aload_n 2, 1) := by decide +kernel
theorem dL_law_180 : decode cL_law 180 = .ok (.aload_n 0, 1) := by decide +kernel
theorem dL_law_181 : decode cL_law 181 = .ok (.iload 4, 2) := by decide +kernel
theorem dL_law_183 : decode cL_law 183 = .ok (.iconst 1, 1) := by decide +kernel
theorem dL_law_184 : decode cL_law 184 = .ok (.iadd, 1) := by decide +kernel
theorem dL_law_185 : decode cL_law 185 = .ok (.iaload, 1) := by decide +kernel
theorem dL_law_186 : decode cL_law 186 = .ok (.aload_n 0, 1) := by decide +kernel
theorem dL_law_187 : decode cL_law 187 = .ok (.iload 4, 2) := by decide +kernel
theorem dL_law_189 : decode cL_law 189 = .ok (.iconst 2, 1) := by decide +kernel
theorem dL_law_190 : decode cL_law 190 = .ok (.iadd, 1) := by decide +kernel
theorem dL_law_191 : decode cL_law 191 = .ok (.iaload, 1) := by decide +kernel
theorem dL_law_192 : decode cL_law 192 = .ok (.invokevirtual 38, 3) := by decide +kernel
theorem dL_law_195 : decode cL_law 195 = .ok (.if_icmp .eq 224, 3) := by decide +kernel
theorem dL_law_198 : decode cL_law 198 = .ok (.iconst 0, 1) := by decide +kernel
theorem dL_law_199 : decode cL_law 199 = .ok (.ireturn, 1) := by decide +kernel
theorem dL_law_200 : decode cL_law 200 = .ok (.aload_n 1, 1) := by decide +kernel
theorem dL_law_201 : decode cL_law 201 = .ok (.invokevirtual 39, 3) := by decide +kernel
theorem dL_law_204 : decode cL_law 204 = .ok (.aload_n 2, 1) := by decide +kernel
theorem dL_law_205 : decode cL_law 205 = .ok (.invokevirtual 43, 3) := by decide +kernel
theorem dL_law_208 : decode cL_law 208 = .ok (.if_icmp .eq 211, 3) := by decide +kernel
theorem dL_law_211 : decode cL_law 211 = .ok (.iconst 0, 1) := by decide +kernel
theorem dL_law_212 : decode cL_law 212 = .ok (.ireturn, 1) := by decide +kernel
theorem dL_law_213 : decode cL_law 213 = .ok (.aload_n 1, 1) := by decide +kernel
theorem dL_law_214 : decode cL_law 214 = .ok (.aload_n 0, 1) := by decide +kernel
theorem dL_law_215 : decode cL_law 215 = .ok (.iload 4, 2) := by decide +kernel
theorem dL_law_217 : decode cL_law 217 = .ok (.iconst 1, 1) := by decide +kernel
theorem dL_law_218 : decode cL_law 218 = .ok (.iadd, 1) := by decide +kernel
theorem dL_law_219 : decode cL_law 219 = .ok (.iaload, 1) := by decide +kernel
theorem dL_law_220 : decode cL_law 220 = .ok (.aload_n 0, 1) := by decide +kernel
theorem dL_law_221 : decode cL_law 221 = .ok (.iload 4, 2) := by decide +kernel
theorem dL_law_223 : decode cL_law 223 = .ok (.iconst 2, 1) := by decide +kernel
theorem dL_law_224 : decode cL_law 224 = .ok (.iadd, 1) := by decide +kernel
theorem dL_law_225 : decode cL_law 225 = .ok (.iaload, 1) := by decide +kernel
theorem dL_law_226 : decode cL_law 226 = .ok (.aload_n 3, 1) := by decide +kernel
theorem dL_law_227 : decode cL_law 227 = .ok (.invokestatic 44, 3) := by decide +kernel
theorem dL_law_230 : decode cL_law 230 = .ok (.istore 5, 2) := by decide +kernel
theorem dL_law_232 : decode cL_law 232 = .ok (.aload_n 2, 1) := by decide +kernel
theorem dL_law_233 : decode cL_law 233 = .ok (.aload_n 0, 1) := by decide +kernel
theorem dL_law_234 : decode cL_law 234 = .ok (.iload 4, 2) := by decide +kernel
theorem dL_law_236 : decode cL_law 236 = .ok (.iconst 1, 1) := by decide +kernel
theorem dL_law_237 : decode cL_law 237 = .ok (.iadd, 1) := by decide +kernel
theorem dL_law_238 : decode cL_law 238 = .ok (.iaload, 1) := by decide +kernel
theorem dL_law_239 : decode cL_law 239 = .ok (.aload_n 0, 1) := by decide +kernel
theorem dL_law_240 : decode cL_law 240 = .ok (.iload 4, 2) := by decide +kernel
theorem dL_law_242 : decode cL_law 242 = .ok (.iconst 2, 1) := by decide +kernel
theorem dL_law_243 : decode cL_law 243 = .ok (.iadd, 1) := by decide +kernel
theorem dL_law_244 : decode cL_law 244 = .ok (.iaload, 1) := by decide +kernel
theorem dL_law_245 : decode cL_law 245 = .ok (.invokevirtual 49, 3) := by decide +kernel
theorem dL_law_248 : decode cL_law 248 = .ok (.istore 6, 2) := by decide +kernel
theorem dL_law_250 : decode cL_law 250 = .ok (.aload_n 2, 1) := by decide +kernel
theorem dL_law_251 : decode cL_law 251 = .ok (.invokevirtual 50, 3) := by decide +kernel
theorem dL_law_254 : decode cL_law 254 = .ok (.iload 5, 2) := by decide +kernel
theorem dL_law_256 : decode cL_law 256 = .ok (.if_icmp .eq 5, 3) := by decide +kernel
theorem dL_law_259 : decode cL_law 259 = .ok (.iconst 0, 1) := by decide +kernel
theorem dL_law_260 : decode cL_law 260 = .ok (.ireturn, 1) := by decide +kernel
theorem dL_law_261 : decode cL_law 261 = .ok (.iload 5, 2) := by decide +kernel
theorem dL_law_263 : decode cL_law 263 = .ok (.ifCond .ne 15, 3) := by decide +kernel
theorem dL_law_266 : decode cL_law 266 = .ok (.aload_n 3, 1) := by decide +kernel
theorem dL_law_267 : decode cL_law 267 = .ok (.iconst 0, 1) := by decide +kernel
theorem dL_law_268 : decode cL_law 268 = .ok (.laload, 1) := by decide +kernel
theorem dL_law_269 : decode cL_law 269 = .ok (.iload 6, 2) := by decide +kernel
theorem dL_law_271 : decode cL_law 271 = .ok (.i2l, 1) := by decide +kernel
theorem dL_law_272 : decode cL_law 272 = .ok (.lcmp, 1) := by decide +kernel
theorem dL_law_273 : decode cL_law 273 = .ok (.ifCond .eq 5, 3) := by decide +kernel
theorem dL_law_276 : decode cL_law 276 = .ok (.iconst 0, 1) := by decide +kernel
theorem dL_law_277 : decode cL_law 277 = .ok (.ireturn, 1) := by decide +kernel
theorem dL_law_278 : decode cL_law 278 = .ok (.goto 141, 3) := by decide +kernel
theorem dL_law_281 : decode cL_law 281 = .ok (.aload_n 1, 1) := by decide +kernel
theorem dL_law_282 : decode cL_law 282 = .ok (.aload_n 0, 1) := by decide +kernel
theorem dL_law_283 : decode cL_law 283 = .ok (.iload 4, 2) := by decide +kernel
theorem dL_law_285 : decode cL_law 285 = .ok (.iconst 1, 1) := by decide +kernel
theorem dL_law_286 : decode cL_law 286 = .ok (.iadd, 1) := by decide +kernel
theorem dL_law_287 : decode cL_law 287 = .ok (.iaload, 1) := by decide +kernel
theorem dL_law_288 : decode cL_law 288 = .ok (.aload_n 0, 1) := by decide +kernel
theorem dL_law_289 : decode cL_law 289 = .ok (.iload 4, 2) := by decide +kernel
theorem dL_law_291 : decode cL_law 291 = .ok (.iconst 2, 1) := by decide +kernel
theorem dL_law_292 : decode cL_law 292 = .ok (.iadd, 1) := by decide +kernel
theorem dL_law_293 : decode cL_law 293 = .ok (.iaload, 1) := by decide +kernel
theorem dL_law_294 : decode cL_law 294 = .ok (.aload_n 0, 1) := by decide +kernel
theorem dL_law_295 : decode cL_law 295 = .ok (.iload 4, 2) := by decide +kernel
theorem dL_law_297 : decode cL_law 297 = .ok (.iconst 3, 1) := by decide +kernel
theorem dL_law_298 : decode cL_law 298 = .ok (.iadd, 1) := by decide +kernel
theorem dL_law_299 : decode cL_law 299 = .ok (.iaload, 1) := by decide +kernel
theorem dL_law_300 : decode cL_law 300 = .ok (.invokevirtual 53, 3) := by decide +kernel
theorem dL_law_303 : decode cL_law 303 = .ok (.aload_n 2, 1) := by decide +kernel
theorem dL_law_304 : decode cL_law 304 = .ok (.aload_n 0, 1) := by decide +kernel
theorem dL_law_305 : decode cL_law 305 = .ok (.iload 4, 2) := by decide +kernel
theorem dL_law_307 : decode cL_law 307 = .ok (.iconst 1, 1) := by decide +kernel
theorem dL_law_308 : decode cL_law 308 = .ok (.iadd, 1) := by decide +kernel
theorem dL_law_309 : decode cL_law 309 = .ok (.iaload, 1) := by decide +kernel
theorem dL_law_310 : decode cL_law 310 = .ok (.aload_n 0, 1) := by decide +kernel
theorem dL_law_311 : decode cL_law 311 = .ok (.iload 4, 2) := by decide +kernel
theorem dL_law_313 : decode cL_law 313 = .ok (.iconst 2, 1) := by decide +kernel
theorem dL_law_314 : decode cL_law 314 = .ok (.iadd, 1) := by decide +kernel
theorem dL_law_315 : decode cL_law 315 = .ok (.iaload, 1) := by decide +kernel
theorem dL_law_316 : decode cL_law 316 = .ok (.aload_n 0, 1) := by decide +kernel
theorem dL_law_317 : decode cL_law 317 = .ok (.iload 4, 2) := by decide +kernel
theorem dL_law_319 : decode cL_law 319 = .ok (.iconst 3, 1) := by decide +kernel
theorem dL_law_320 : decode cL_law 320 = .ok (.iadd, 1) := by decide +kernel
theorem dL_law_321 : decode cL_law 321 = .ok (.iaload, 1) := by decide +kernel
theorem dL_law_322 : decode cL_law 322 = .ok (.invokevirtual 57, 3) := by decide +kernel
theorem dL_law_325 : decode cL_law 325 = .ok (.if_icmp .eq 94, 3) := by decide +kernel
theorem dL_law_328 : decode cL_law 328 = .ok (.iconst 0, 1) := by decide +kernel
theorem dL_law_329 : decode cL_law 329 = .ok (.ireturn, 1) := by decide +kernel
theorem dL_law_330 : decode cL_law 330 = .ok (.aload_n 1, 1) := by decide +kernel
theorem dL_law_331 : decode cL_law 331 = .ok (.invokevirtual 58, 3) := by decide +kernel
theorem dL_law_334 : decode cL_law 334 = .ok (.aload_n 2, 1) := by decide +kernel
theorem dL_law_335 : decode cL_law 335 = .ok (.invokevirtual 61, 3) := by decide +kernel
theorem dL_law_338 : decode cL_law 338 = .ok (.if_icmp .eq 81, 3) := by decide +kernel
theorem dL_law_341 : decode cL_law 341 = .ok (.iconst 0, 1) := by decide +kernel
theorem dL_law_342 : decode cL_law 342 = .ok (.ireturn, 1) := by decide +kernel
theorem dL_law_343 : decode cL_law 343 = .ok (.aload_n 1, 1) := by decide +kernel
theorem dL_law_344 : decode cL_law 344 = .ok (.invokevirtual 62, 3) := by decide +kernel
theorem dL_law_347 : decode cL_law 347 = .ok (.aload_n 2, 1) := by decide +kernel
theorem dL_law_348 : decode cL_law 348 = .ok (.invokevirtual 65, 3) := by decide +kernel
theorem dL_law_351 : decode cL_law 351 = .ok (.if_icmp .eq 68, 3) := by decide +kernel
theorem dL_law_354 : decode cL_law 354 = .ok (.iconst 0, 1) := by decide +kernel
theorem dL_law_355 : decode cL_law 355 = .ok (.ireturn, 1) := by decide +kernel
theorem dL_law_356 : decode cL_law 356 = .ok (.aload_n 1, 1) := by decide +kernel
theorem dL_law_357 : decode cL_law 357 = .ok (.aload_n 0, 1) := by decide +kernel
theorem dL_law_358 : decode cL_law 358 = .ok (.iload 4, 2) := by decide +kernel
theorem dL_law_360 : decode cL_law 360 = .ok (.iconst 1, 1) := by decide +kernel
theorem dL_law_361 : decode cL_law 361 = .ok (.iadd, 1) := by decide +kernel
theorem dL_law_362 : decode cL_law 362 = .ok (.iaload, 1) := by decide +kernel
theorem dL_law_363 : decode cL_law 363 = .ok (.invokevirtual 66, 3) := by decide +kernel
theorem dL_law_366 : decode cL_law 366 = .ok (.aload_n 2, 1) := by decide +kernel
theorem dL_law_367 : decode cL_law 367 = .ok (.aload_n 0, 1) := by decide +kernel
theorem dL_law_368 : decode cL_law 368 = .ok (.iload 4, 2) := by decide +kernel
theorem dL_law_370 : decode cL_law 370 = .ok (.iconst 1, 1) := by decide +kernel
theorem dL_law_371 : decode cL_law 371 = .ok (.iadd, 1) := by decide +kernel
theorem dL_law_372 : decode cL_law 372 = .ok (.iaload, 1) := by decide +kernel
theorem dL_law_373 : decode cL_law 373 = .ok (.invokevirtual 69, 3) := by decide +kernel
theorem dL_law_376 : decode cL_law 376 = .ok (.if_icmp .eq 43, 3) := by decide +kernel
theorem dL_law_379 : decode cL_law 379 = .ok (.iconst 0, 1) := by decide +kernel
theorem dL_law_380 : decode cL_law 380 = .ok (.ireturn, 1) := by decide +kernel
theorem dL_law_381 : decode cL_law 381 = .ok (.aload_n 1, 1) := by decide +kernel
theorem dL_law_382 : decode cL_law 382 = .ok (.aload_n 0, 1) := by decide +kernel
theorem dL_law_383 : decode cL_law 383 = .ok (.iload 4, 2) := by decide +kernel
theorem dL_law_385 : decode cL_law 385 = .ok (.iconst 1, 1) := by decide +kernel
theorem dL_law_386 : decode cL_law 386 = .ok (.iadd, 1) := by decide +kernel
theorem dL_law_387 : decode cL_law 387 = .ok (.iaload, 1) := by decide +kernel
theorem dL_law_388 : decode cL_law 388 = .ok (.invokevirtual 70, 3) := by decide +kernel
theorem dL_law_391 : decode cL_law 391 = .ok (.aload_n 2, 1) := by decide +kernel
theorem dL_law_392 : decode cL_law 392 = .ok (.aload_n 0, 1) := by decide +kernel
theorem dL_law_393 : decode cL_law 393 = .ok (.iload 4, 2) := by decide +kernel
theorem dL_law_395 : decode cL_law 395 = .ok (.iconst 1, 1) := by decide +kernel
theorem dL_law_396 : decode cL_law 396 = .ok (.iadd, 1) := by decide +kernel
theorem dL_law_397 : decode cL_law 397 = .ok (.iaload, 1) := by decide +kernel
theorem dL_law_398 : decode cL_law 398 = .ok (.invokevirtual 73, 3) := by decide +kernel
theorem dL_law_401 : decode cL_law 401 = .ok (.if_icmp .eq 18, 3) := by decide +kernel
theorem dL_law_404 : decode cL_law 404 = .ok (.iconst 0, 1) := by decide +kernel
theorem dL_law_405 : decode cL_law 405 = .ok (.ireturn, 1) := by decide +kernel
theorem dL_law_406 : decode cL_law 406 = .ok (.aload_n 1, 1) := by decide +kernel
theorem dL_law_407 : decode cL_law 407 = .ok (.invokevirtual 74, 3) := by decide +kernel
theorem dL_law_410 : decode cL_law 410 = .ok (.aload_n 2, 1) := by decide +kernel
theorem dL_law_411 : decode cL_law 411 = .ok (.invokevirtual 77, 3) := by decide +kernel
theorem dL_law_414 : decode cL_law 414 = .ok (.if_icmp .eq 5, 3) := by decide +kernel
theorem dL_law_417 : decode cL_law 417 = .ok (.iconst 0, 1) := by decide +kernel
theorem dL_law_418 : decode cL_law 418 = .ok (.ireturn, 1) := by decide +kernel
theorem dL_law_419 : decode cL_law 419 = .ok (.iinc 4 4, 3) := by decide +kernel
theorem dL_law_422 : decode cL_law 422 = .ok (.goto (-399), 3) := by decide +kernel
theorem dL_law_425 : decode cL_law 425 = .ok (.iconst 1, 1) := by decide +kernel
theorem dL_law_426 : decode cL_law 426 = .ok (.ireturn, 1) := by decide +kernel
end
section
/-! MY RULES: a judgement over the kit's W that carries world, locals and stack as lists; one rule an instruction -/
section XR
variable {p : Program} {l : Launch} {e : Env} {R : Room} {s : State} {m : MethodId} {args : Array Value} {below : List Frame} {meth : Method} {c : Code} {D : va_G} {cl : List vw_C} {A : Nat → Prop} {nL cells slots : Nat} {Q : State → Prop}
variable {cc : ByteArray} {own : String} {Ts : List Cond} {tys : List (ClassId × FieldType)} {ws ws' : va_W} {lv lv' : List (Nat × Value)} {pc : Nat} {st : List Value}
/-- the walk stands at pc, with the world ws, the locals lv, the stack st -/
def Xs (p : Program) (l : Launch) (e : Env) (R : Room) (s : State) (m : MethodId) (args : Array Value) (below : List Frame) (meth : Method) (c : Code) (D : va_G) (cl : List vw_C) (A : Nat → Prop) (nL cells slots : Nat) (Q : State → Prop) (ws : va_W) (lv : List (Nat × Value)) (pc : Nat) (st : List Value) : Prop :=
  ∀ (H : Heap) (locs : List Loc) (ls : Array Slot), va_P D cl ws H → va_D A ws → va_S A s.heap H locs → lv_has ls nL lv → W p l e R s m args below meth c H locs cells slots Q (F0 m pc ls st)
/-- what stays over a method's walk -/
def En (p : Program) (s : State) (m : MethodId) (args : Array Value) (c : Code) (cc : ByteArray) (nL : Nat) (own : String) (Ts : List Cond) (D : va_G) (cl : List vw_C) (tys : List (ClassId × FieldType)) (A : Nat → Prop) : Prop :=
  p.tables.exec = Jvm.exec ∧ c.code = cc ∧ c.maxLocals = nL ∧ s.vm.findClass own = some m.cls ∧ (∀ w ∈ Ts, w.before args s = true) ∧ va_K D cl tys s ∧ ∀ q : Nat, s.heap.size ≤ q → A q
/-- a method's end: its answer and its world, as the predicate says; nothing else has changed -/
def CQ (D : va_G) (cl : List vw_C) (tys : List (ClassId × FieldType)) (A : Nat → Prop) (P : Option Value → va_W → Prop) : Array Value → State → Outcome → State → Prop := fun _ st oc t => (∃ (r : Option Value) (u : va_W), oc = .returned r ∧ P r u ∧ va_P D cl u t.heap ∧ va_K D cl tys t ∧ va_D A u) ∧ va_F A st t
/-- a method's contract: the arguments, the world before, what holds of answer and world behind -/
def Cg (l : Launch) (D : va_G) (cl : List vw_C) (tys : List (ClassId × FieldType)) (y : MethodName) (wy : List Cond) (rm : Room) (mc ms : Nat) (av : List Value) (ws : va_W) (P : Option Value → va_W → Prop) : Prop :=
  ∀ sz : Nat, Met l y wy rm (va_Pc av (fun U => U.heap.size = sz ∧ va_P D cl ws U.heap ∧ va_K D cl tys U ∧ va_D (fun _ => True) ws)) (CQ D cl tys (va_A ws sz) P) mc ms (va_A ws sz)
/-- .. of one answer and one world -/
def Ct (l : Launch) (D : va_G) (cl : List vw_C) (tys : List (ClassId × FieldType)) (y : MethodName) (wy : List Cond) (rm : Room) (av : List Value) (ws : va_W) (r0 : Option Value) (w1 : va_W) : Prop :=
  Cg l D cl tys y wy rm 0 0 av ws (fun r u => r = r0 ∧ u = w1)
theorem x_fm {ws wc : va_W} {is : List Nat} (h : is.map (fun i => ws[i]?) = wc.map some) : is.filterMap (fun i => ws[i]?) = wc := by
  have h1 : (is.map (fun i => ws[i]?)).filterMap id = is.filterMap (fun i => ws[i]?) := by rw [List.filterMap_map]; rfl
  rw [← h1, h, List.filterMap_map]
  simp
/-- the beginning of a method's walk -/
theorem x_start {y : MethodName} {wy wy' : List Cond} {rm : Room} {mc ms maxL : Nat} {ret : Option FieldType} {av : List Value} {P : Option Value → va_W → Prop} (hy : plainName y.cls = true) (hw : wy = Cond.code y cc maxL ret :: wy') (hav : (lg_sl av).length ≤ maxL)
    (body : ∀ (p : Program) (e : Env) (s : State) (m : MethodId) (below : List Frame) (meth : Method) (c : Code) (A : Nat → Prop), En p s m av.toArray c cc maxL y.cls wy D cl tys A → meth.sig.returnType = ret → meth.locks = false → meth.name = y.name →
      Xs p l e rm s m av.toArray below meth c D cl A maxL 0 0 (MQ below (CQ D cl tys A P) av.toArray s mc ms A) ws (lv_args 0 av) 0 []) : Cg l D cl tys y wy rm mc ms av ws P := by
  intro sz
  refine Met.ofW (cc := cc) (maxL := maxL) (ret := ret) hy hw ?_
  intro p e s m args below meth c s₁ B hml hv
  obtain ⟨rfl, hsz, hP, hK, hD0⟩ := hv
  subst hsz
  have hD := hD0.self (sz := s.heap.size)
  rw [lg_entry_eq]
  exact body p e s m below meth c (va_A ws s.heap.size) ⟨B.exec, B.bytes, hml, findClass_of_methodNamed B.named, atoms_spec (ws := wy) B.pre, hK, fun q h => Or.inr h⟩ B.returns B.notSynchronized (name_of_methodNamed B.named B.method).1 s.heap [] _ hP hD va_S.rf (lv_entry av hav)
/-- fewer cells, in another order -/
theorem x_perm (is : List Nat) (hn : va_nd is = true) (hs : is.map (fun i => ws[i]?) = ws'.map some) (k : Xs p l e R s m args below meth c D cl A nL cells slots Q (ws') (lv) (pc) (st)) : Xs p l e R s m args below meth c D cl A nL cells slots Q (ws) (lv) (pc) (st) :=
  fun H locs ls hP hD hS hl => k H locs ls (hP.sub is (x_fm hs)) (hD.sub is hn hs) hS hl
theorem x_ws (h : ws = ws') (k : Xs p l e R s m args below meth c D cl A nL cells slots Q (ws') (lv) (pc) (st)) : Xs p l e R s m args below meth c D cl A nL cells slots Q (ws) (lv) (pc) (st) := by
  subst h
  exact k
theorem x_lv (ks : List Nat) (h : lv_pick lv ks = lv') (k : Xs p l e R s m args below meth c D cl A nL cells slots Q (ws) (lv') (pc) (st)) : Xs p l e R s m args below meth c D cl A nL cells slots Q (ws) (lv) (pc) (st) :=
  fun H locs ls hP hD hS hl => k H locs ls hP hD hS (lv_sub hl ks h)
theorem x_top {v w : Value} (h : v = w) (k : Xs p l e R s m args below meth c D cl A nL cells slots Q (ws) (lv) (pc) (w :: st)) : Xs p l e R s m args below meth c D cl A nL cells slots Q (ws) (lv) (pc) (v :: st) := by
  subst h
  exact k
theorem x_wide {k n : Nat} (h1 : cells ≤ k) (h2 : slots ≤ n) (kk : Xs p l e R s m args below meth c D cl A nL k n Q (ws) (lv) (pc) (st)) : Xs p l e R s m args below meth c D cl A nL cells slots Q (ws) (lv) (pc) (st) :=
  fun H locs ls hP hD hS hl => W.widen h1 h2 (kk H locs ls hP hD hS hl)

theorem x_lve (h : lv = lv') (k : Xs p l e R s m args below meth c D cl A nL cells slots Q (ws) (lv') (pc) (st)) : Xs p l e R s m args below meth c D cl A nL cells slots Q (ws) (lv) (pc) (st) := by
  subst h
  exact k
theorem x_iconst (E : En p s m args c cc nL own Ts D cl tys A) {n : Int} {v : Int32} (hd : decode cc pc = .ok (.iconst n, 1)) (hv : Int32.ofInt n = v)
    (k : Xs p l e R s m args below meth c D cl A nL cells slots Q (ws) (lv) (pc + 1) (.int v :: st)) : Xs p l e R s m args below meth c D cl A nL cells slots Q (ws) (lv) (pc) (st) := by
  obtain ⟨hx, hb, hml, hown, hts, hK, hA⟩ := E
  intro H locs ls hP hD hS hl
  exact lv_iconst hx hb hd hv (k H locs ls hP hD hS hl)
theorem x_bipush (E : En p s m args c cc nL own Ts D cl tys A) {n : Int} {v : Int32} (hd : decode cc pc = .ok (.bipush n, 2)) (hv : (Int8.ofInt n).toInt32 = v)
    (k : Xs p l e R s m args below meth c D cl A nL cells slots Q (ws) (lv) (pc + 2) (.int v :: st)) : Xs p l e R s m args below meth c D cl A nL cells slots Q (ws) (lv) (pc) (st) := by
  obtain ⟨hx, hb, hml, hown, hts, hK, hA⟩ := E
  intro H locs ls hP hD hS hl
  exact lv_bipush hx hb hd hv (k H locs ls hP hD hS hl)
theorem x_sipush (E : En p s m args c cc nL own Ts D cl tys A) {n : Int} {v : Int32} (hd : decode cc pc = .ok (.sipush n, 3)) (hv : (Int16.ofInt n).toInt32 = v)
    (k : Xs p l e R s m args below meth c D cl A nL cells slots Q (ws) (lv) (pc + 3) (.int v :: st)) : Xs p l e R s m args below meth c D cl A nL cells slots Q (ws) (lv) (pc) (st) := by
  obtain ⟨hx, hb, hml, hown, hts, hK, hA⟩ := E
  intro H locs ls hP hD hS hl
  exact lv_sipush hx hb hd hv (k H locs ls hP hD hS hl)
theorem x_ldc (E : En p s m args c cc nL own Ts D cl tys A) {index : Nat} {v w : Int32} (hd : decode cc pc = .ok (.ldc index, 2)) (hc : Jvm.Cond.constant own index w ∈ Ts) (hv : w = v)
    (k : Xs p l e R s m args below meth c D cl A nL cells slots Q (ws) (lv) (pc + 2) (.int v :: st)) : Xs p l e R s m args below meth c D cl A nL cells slots Q (ws) (lv) (pc) (st) := by
  obtain ⟨hx, hb, hml, hown, hts, hK, hA⟩ := E
  intro H locs ls hP hD hS hl
  exact lv_ldc hx hb hown (hts _ hc) hd (by rw [hv]; exact (k H locs ls hP hD hS hl))
theorem x_iload_n (E : En p s m args c cc nL own Ts D cl tys A) {i : Fin 4} {x : Int32} (ps : Nat) (hd : decode cc pc = .ok (.iload_n i, 1)) (hp : lv[ps]? = some ((i : Nat), .int x))
    (k : Xs p l e R s m args below meth c D cl A nL cells slots Q (ws) (lv) (pc + 1) (.int x :: st)) : Xs p l e R s m args below meth c D cl A nL cells slots Q (ws) (lv) (pc) (st) := by
  obtain ⟨hx, hb, hml, hown, hts, hK, hA⟩ := E
  intro H locs ls hP hD hS hl
  exact lv_iload_n hx hb hd rfl (lv_at hl ps hp) (k H locs ls hP hD hS hl)
theorem x_iload (E : En p s m args c cc nL own Ts D cl tys A) {i : Nat} {x : Int32} (ps : Nat) (hd : decode cc pc = .ok (.iload i, 2)) (hp : lv[ps]? = some (i, .int x))
    (k : Xs p l e R s m args below meth c D cl A nL cells slots Q (ws) (lv) (pc + 2) (.int x :: st)) : Xs p l e R s m args below meth c D cl A nL cells slots Q (ws) (lv) (pc) (st) := by
  obtain ⟨hx, hb, hml, hown, hts, hK, hA⟩ := E
  intro H locs ls hP hD hS hl
  exact lv_iload hx hb hd (lv_at hl ps hp) (k H locs ls hP hD hS hl)
theorem x_aload_n (E : En p s m args c cc nL own Ts D cl tys A) {i : Fin 4} {x : Nat} (ps : Nat) (hd : decode cc pc = .ok (.aload_n i, 1)) (hp : lv[ps]? = some ((i : Nat), .ref x))
    (k : Xs p l e R s m args below meth c D cl A nL cells slots Q (ws) (lv) (pc + 1) (.ref x :: st)) : Xs p l e R s m args below meth c D cl A nL cells slots Q (ws) (lv) (pc) (st) := by
  obtain ⟨hx, hb, hml, hown, hts, hK, hA⟩ := E
  intro H locs ls hP hD hS hl
  exact lv_aload_n hx hb hd rfl (lv_at hl ps hp) (k H locs ls hP hD hS hl)
theorem x_aload (E : En p s m args c cc nL own Ts D cl tys A) {i : Nat} {x : Nat} (ps : Nat) (hd : decode cc pc = .ok (.aload i, 2)) (hp : lv[ps]? = some (i, .ref x))
    (k : Xs p l e R s m args below meth c D cl A nL cells slots Q (ws) (lv) (pc + 2) (.ref x :: st)) : Xs p l e R s m args below meth c D cl A nL cells slots Q (ws) (lv) (pc) (st) := by
  obtain ⟨hx, hb, hml, hown, hts, hK, hA⟩ := E
  intro H locs ls hP hD hS hl
  exact lv_aload hx hb hd (lv_at hl ps hp) (k H locs ls hP hD hS hl)
theorem x_istore_n (E : En p s m args c cc nL own Ts D cl tys A) {i : Fin 4} {x : Int32} (lv' : List (Nat × Value)) (hd : decode cc pc = .ok (.istore_n i, 1)) (hn : (i : Nat) < nL) (hl0 : ((i : Nat), Value.int x) :: lv.filter (fun q => !(q.1 == (i : Nat)) && !(q.1 + 1 == (i : Nat) && q.2.category == 2)) = lv')
    (k : Xs p l e R s m args below meth c D cl A nL cells slots Q (ws) (lv') (pc + 1) (st)) : Xs p l e R s m args below meth c D cl A nL cells slots Q (ws) (lv) (pc) (.int x :: st) := by
  obtain ⟨hx, hb, hml, hown, hts, hK, hA⟩ := E
  intro H locs ls hP hD hS hl
  exact lv_istore_n hx hb hd rfl hl hn hl0 (fun ls' hl' => k H locs ls' hP hD hS hl')
theorem x_istore (E : En p s m args c cc nL own Ts D cl tys A) {i : Nat} {x : Int32} (lv' : List (Nat × Value)) (hd : decode cc pc = .ok (.istore i, 2)) (hn : i < nL) (hl0 : (i, Value.int x) :: lv.filter (fun q => !(q.1 == i) && !(q.1 + 1 == i && q.2.category == 2)) = lv')
    (k : Xs p l e R s m args below meth c D cl A nL cells slots Q (ws) (lv') (pc + 2) (st)) : Xs p l e R s m args below meth c D cl A nL cells slots Q (ws) (lv) (pc) (.int x :: st) := by
  obtain ⟨hx, hb, hml, hown, hts, hK, hA⟩ := E
  intro H locs ls hP hD hS hl
  exact lv_istore hx hb hd hl hn hl0 (fun ls' hl' => k H locs ls' hP hD hS hl')
theorem x_astore_n (E : En p s m args c cc nL own Ts D cl tys A) {i : Fin 4} {x : Nat} (lv' : List (Nat × Value)) (hd : decode cc pc = .ok (.astore_n i, 1)) (hn : (i : Nat) < nL) (hl0 : ((i : Nat), Value.ref x) :: lv.filter (fun q => !(q.1 == (i : Nat)) && !(q.1 + 1 == (i : Nat) && q.2.category == 2)) = lv')
    (k : Xs p l e R s m args below meth c D cl A nL cells slots Q (ws) (lv') (pc + 1) (st)) : Xs p l e R s m args below meth c D cl A nL cells slots Q (ws) (lv) (pc) (.ref x :: st) := by
  obtain ⟨hx, hb, hml, hown, hts, hK, hA⟩ := E
  intro H locs ls hP hD hS hl
  exact lv_astore_n hx hb hd rfl hl hn hl0 (fun ls' hl' => k H locs ls' hP hD hS hl')
theorem x_astore (E : En p s m args c cc nL own Ts D cl tys A) {i : Nat} {x : Nat} (lv' : List (Nat × Value)) (hd : decode cc pc = .ok (.astore i, 2)) (hn : i < nL) (hl0 : (i, Value.ref x) :: lv.filter (fun q => !(q.1 == i) && !(q.1 + 1 == i && q.2.category == 2)) = lv')
    (k : Xs p l e R s m args below meth c D cl A nL cells slots Q (ws) (lv') (pc + 2) (st)) : Xs p l e R s m args below meth c D cl A nL cells slots Q (ws) (lv) (pc) (.ref x :: st) := by
  obtain ⟨hx, hb, hml, hown, hts, hK, hA⟩ := E
  intro H locs ls hP hD hS hl
  exact lv_astore hx hb hd hl hn hl0 (fun ls' hl' => k H locs ls' hP hD hS hl')
theorem x_iinc (E : En p s m args c cc nL own Ts D cl tys A) {i : Nat} {n : Int} {x v : Int32} (ps : Nat) (lv' : List (Nat × Value)) (hd : decode cc pc = .ok (.iinc i n, 3)) (hp : lv[ps]? = some (i, .int x)) (hv : x + Int32.ofInt n = v) (hn : i < nL) (hl0 : (i, Value.int v) :: lv.filter (fun q => !(q.1 == i) && !(q.1 + 1 == i && q.2.category == 2)) = lv')
    (k : Xs p l e R s m args below meth c D cl A nL cells slots Q (ws) (lv') (pc + 3) (st)) : Xs p l e R s m args below meth c D cl A nL cells slots Q (ws) (lv) (pc) (st) := by
  obtain ⟨hx, hb, hml, hown, hts, hK, hA⟩ := E
  intro H locs ls hP hD hS hl
  exact lv_iinc hx hb hd hl hp hv hn hl0 (fun ls' hl' => k H locs ls' hP hD hS hl')
theorem x_iadd (E : En p s m args c cc nL own Ts D cl tys A) {x y : Int32} (hd : decode cc pc = .ok (.iadd, 1))
    (k : Xs p l e R s m args below meth c D cl A nL cells slots Q (ws) (lv) (pc + 1) (.int (x + y) :: st)) : Xs p l e R s m args below meth c D cl A nL cells slots Q (ws) (lv) (pc) (.int y :: .int x :: st) := by
  obtain ⟨hx, hb, hml, hown, hts, hK, hA⟩ := E
  intro H locs ls hP hD hS hl
  exact lv_iadd hx hb hd (k H locs ls hP hD hS hl)
theorem x_iadd' (E : En p s m args c cc nL own Ts D cl tys A) {x y z : Int32} (hd : decode cc pc = .ok (.iadd, 1)) (hz : x + y = z)
    (k : Xs p l e R s m args below meth c D cl A nL cells slots Q (ws) (lv) (pc + 1) (.int z :: st)) : Xs p l e R s m args below meth c D cl A nL cells slots Q (ws) (lv) (pc) (.int y :: .int x :: st) := by
  subst hz
  exact x_iadd E hd k
theorem x_isub (E : En p s m args c cc nL own Ts D cl tys A) {x y : Int32} (hd : decode cc pc = .ok (.isub, 1))
    (k : Xs p l e R s m args below meth c D cl A nL cells slots Q (ws) (lv) (pc + 1) (.int (x - y) :: st)) : Xs p l e R s m args below meth c D cl A nL cells slots Q (ws) (lv) (pc) (.int y :: .int x :: st) := by
  obtain ⟨hx, hb, hml, hown, hts, hK, hA⟩ := E
  intro H locs ls hP hD hS hl
  exact lv_isub hx hb hd (k H locs ls hP hD hS hl)
theorem x_isub' (E : En p s m args c cc nL own Ts D cl tys A) {x y z : Int32} (hd : decode cc pc = .ok (.isub, 1)) (hz : x - y = z)
    (k : Xs p l e R s m args below meth c D cl A nL cells slots Q (ws) (lv) (pc + 1) (.int z :: st)) : Xs p l e R s m args below meth c D cl A nL cells slots Q (ws) (lv) (pc) (.int y :: .int x :: st) := by
  subst hz
  exact x_isub E hd k
theorem x_imul (E : En p s m args c cc nL own Ts D cl tys A) {x y : Int32} (hd : decode cc pc = .ok (.imul, 1))
    (k : Xs p l e R s m args below meth c D cl A nL cells slots Q (ws) (lv) (pc + 1) (.int (x * y) :: st)) : Xs p l e R s m args below meth c D cl A nL cells slots Q (ws) (lv) (pc) (.int y :: .int x :: st) := by
  obtain ⟨hx, hb, hml, hown, hts, hK, hA⟩ := E
  intro H locs ls hP hD hS hl
  exact lv_imul hx hb hd (k H locs ls hP hD hS hl)
theorem x_imul' (E : En p s m args c cc nL own Ts D cl tys A) {x y z : Int32} (hd : decode cc pc = .ok (.imul, 1)) (hz : x * y = z)
    (k : Xs p l e R s m args below meth c D cl A nL cells slots Q (ws) (lv) (pc + 1) (.int z :: st)) : Xs p l e R s m args below meth c D cl A nL cells slots Q (ws) (lv) (pc) (.int y :: .int x :: st) := by
  subst hz
  exact x_imul E hd k
theorem x_iand (E : En p s m args c cc nL own Ts D cl tys A) {x y : Int32} (hd : decode cc pc = .ok (.iand, 1))
    (k : Xs p l e R s m args below meth c D cl A nL cells slots Q (ws) (lv) (pc + 1) (.int (x &&& y) :: st)) : Xs p l e R s m args below meth c D cl A nL cells slots Q (ws) (lv) (pc) (.int y :: .int x :: st) := by
  obtain ⟨hx, hb, hml, hown, hts, hK, hA⟩ := E
  intro H locs ls hP hD hS hl
  exact lv_iand hx hb hd (k H locs ls hP hD hS hl)
theorem x_iand' (E : En p s m args c cc nL own Ts D cl tys A) {x y z : Int32} (hd : decode cc pc = .ok (.iand, 1)) (hz : x &&& y = z)
    (k : Xs p l e R s m args below meth c D cl A nL cells slots Q (ws) (lv) (pc + 1) (.int z :: st)) : Xs p l e R s m args below meth c D cl A nL cells slots Q (ws) (lv) (pc) (.int y :: .int x :: st) := by
  subst hz
  exact x_iand E hd k
theorem x_ior (E : En p s m args c cc nL own Ts D cl tys A) {x y : Int32} (hd : decode cc pc = .ok (.ior, 1))
    (k : Xs p l e R s m args below meth c D cl A nL cells slots Q (ws) (lv) (pc + 1) (.int (x ||| y) :: st)) : Xs p l e R s m args below meth c D cl A nL cells slots Q (ws) (lv) (pc) (.int y :: .int x :: st) := by
  obtain ⟨hx, hb, hml, hown, hts, hK, hA⟩ := E
  intro H locs ls hP hD hS hl
  exact lv_ior hx hb hd (k H locs ls hP hD hS hl)
theorem x_ior' (E : En p s m args c cc nL own Ts D cl tys A) {x y z : Int32} (hd : decode cc pc = .ok (.ior, 1)) (hz : x ||| y = z)
    (k : Xs p l e R s m args below meth c D cl A nL cells slots Q (ws) (lv) (pc + 1) (.int z :: st)) : Xs p l e R s m args below meth c D cl A nL cells slots Q (ws) (lv) (pc) (.int y :: .int x :: st) := by
  subst hz
  exact x_ior E hd k
theorem x_ixor (E : En p s m args c cc nL own Ts D cl tys A) {x y : Int32} (hd : decode cc pc = .ok (.ixor, 1))
    (k : Xs p l e R s m args below meth c D cl A nL cells slots Q (ws) (lv) (pc + 1) (.int (x ^^^ y) :: st)) : Xs p l e R s m args below meth c D cl A nL cells slots Q (ws) (lv) (pc) (.int y :: .int x :: st) := by
  obtain ⟨hx, hb, hml, hown, hts, hK, hA⟩ := E
  intro H locs ls hP hD hS hl
  exact lv_ixor hx hb hd (k H locs ls hP hD hS hl)
theorem x_ixor' (E : En p s m args c cc nL own Ts D cl tys A) {x y z : Int32} (hd : decode cc pc = .ok (.ixor, 1)) (hz : x ^^^ y = z)
    (k : Xs p l e R s m args below meth c D cl A nL cells slots Q (ws) (lv) (pc + 1) (.int z :: st)) : Xs p l e R s m args below meth c D cl A nL cells slots Q (ws) (lv) (pc) (.int y :: .int x :: st) := by
  subst hz
  exact x_ixor E hd k
theorem x_ishl (E : En p s m args c cc nL own Ts D cl tys A) {x y : Int32} (hd : decode cc pc = .ok (.ishl, 1))
    (k : Xs p l e R s m args below meth c D cl A nL cells slots Q (ws) (lv) (pc + 1) (.int (x <<< (y &&& 31)) :: st)) : Xs p l e R s m args below meth c D cl A nL cells slots Q (ws) (lv) (pc) (.int y :: .int x :: st) := by
  obtain ⟨hx, hb, hml, hown, hts, hK, hA⟩ := E
  intro H locs ls hP hD hS hl
  exact lv_ishl hx hb hd (k H locs ls hP hD hS hl)
theorem x_ishl' (E : En p s m args c cc nL own Ts D cl tys A) {x y z : Int32} (hd : decode cc pc = .ok (.ishl, 1)) (hz : x <<< (y &&& 31) = z)
    (k : Xs p l e R s m args below meth c D cl A nL cells slots Q (ws) (lv) (pc + 1) (.int z :: st)) : Xs p l e R s m args below meth c D cl A nL cells slots Q (ws) (lv) (pc) (.int y :: .int x :: st) := by
  subst hz
  exact x_ishl E hd k
theorem x_ineg (E : En p s m args c cc nL own Ts D cl tys A) {x : Int32} (hd : decode cc pc = .ok (.ineg, 1))
    (k : Xs p l e R s m args below meth c D cl A nL cells slots Q (ws) (lv) (pc + 1) (.int (-x) :: st)) : Xs p l e R s m args below meth c D cl A nL cells slots Q (ws) (lv) (pc) (.int x :: st) := by
  obtain ⟨hx, hb, hml, hown, hts, hK, hA⟩ := E
  intro H locs ls hP hD hS hl
  exact lv_ineg hx hb hd (k H locs ls hP hD hS hl)
theorem x_idiv (E : En p s m args c cc nL own Ts D cl tys A) {x y : Int32} (hd : decode cc pc = .ok (.idiv, 1)) (hne : ¬ y = 0)
    (k : Xs p l e R s m args below meth c D cl A nL cells slots Q (ws) (lv) (pc + 1) (.int (x / y) :: st)) : Xs p l e R s m args below meth c D cl A nL cells slots Q (ws) (lv) (pc) (.int y :: .int x :: st) := by
  obtain ⟨hx, hb, hml, hown, hts, hK, hA⟩ := E
  intro H locs ls hP hD hS hl
  exact lv_idiv hx hb hd hne (k H locs ls hP hD hS hl)
theorem x_irem (E : En p s m args c cc nL own Ts D cl tys A) {x y : Int32} (hd : decode cc pc = .ok (.irem, 1)) (hne : ¬ y = 0)
    (k : Xs p l e R s m args below meth c D cl A nL cells slots Q (ws) (lv) (pc + 1) (.int (x - x / y * y) :: st)) : Xs p l e R s m args below meth c D cl A nL cells slots Q (ws) (lv) (pc) (.int y :: .int x :: st) := by
  obtain ⟨hx, hb, hml, hown, hts, hK, hA⟩ := E
  intro H locs ls hP hD hS hl
  exact lv_irem hx hb hd hne (k H locs ls hP hD hS hl)
theorem x_iushr (E : En p s m args c cc nL own Ts D cl tys A) {x y v : Int32} (hd : decode cc pc = .ok (.iushr, 1)) (hv : (x.toUInt32 >>> (y.toUInt32 &&& Int32.toUInt32 31)).toInt32 = v)
    (k : Xs p l e R s m args below meth c D cl A nL cells slots Q (ws) (lv) (pc + 1) (.int v :: st)) : Xs p l e R s m args below meth c D cl A nL cells slots Q (ws) (lv) (pc) (.int y :: .int x :: st) := by
  obtain ⟨hx, hb, hml, hown, hts, hK, hA⟩ := E
  intro H locs ls hP hD hS hl
  exact lv_iushr hx hb hd hv (k H locs ls hP hD hS hl)
theorem x_i2b (E : En p s m args c cc nL own Ts D cl tys A) {x : Int32} (hd : decode cc pc = .ok (.i2b, 1))
    (k : Xs p l e R s m args below meth c D cl A nL cells slots Q (ws) (lv) (pc + 1) (.int x.toInt8.toInt32 :: st)) : Xs p l e R s m args below meth c D cl A nL cells slots Q (ws) (lv) (pc) (.int x :: st) := by
  obtain ⟨hx, hb, hml, hown, hts, hK, hA⟩ := E
  intro H locs ls hP hD hS hl
  exact lv_i2b hx hb hd rfl (k H locs ls hP hD hS hl)
theorem x_i2l (E : En p s m args c cc nL own Ts D cl tys A) {x : Int32} (hd : decode cc pc = .ok (.i2l, 1))
    (k : Xs p l e R s m args below meth c D cl A nL cells slots Q (ws) (lv) (pc + 1) (.long x.toInt64 :: st)) : Xs p l e R s m args below meth c D cl A nL cells slots Q (ws) (lv) (pc) (.int x :: st) := by
  obtain ⟨hx, hb, hml, hown, hts, hK, hA⟩ := E
  intro H locs ls hP hD hS hl
  exact lv_i2l hx hb hd rfl (k H locs ls hP hD hS hl)
theorem x_dup (E : En p s m args c cc nL own Ts D cl tys A) {va : Value} (hd : decode cc pc = .ok (.dup, 1)) (hv : va.category = 1)
    (k : Xs p l e R s m args below meth c D cl A nL cells slots Q (ws) (lv) (pc + 1) (va :: va :: st)) : Xs p l e R s m args below meth c D cl A nL cells slots Q (ws) (lv) (pc) (va :: st) := by
  obtain ⟨hx, hb, hml, hown, hts, hK, hA⟩ := E
  intro H locs ls hP hD hS hl
  exact lv_dup hx hb hd hv (k H locs ls hP hD hS hl)
theorem x_pop (E : En p s m args c cc nL own Ts D cl tys A) {va : Value} (hd : decode cc pc = .ok (.pop, 1)) (hv : va.category = 1)
    (k : Xs p l e R s m args below meth c D cl A nL cells slots Q (ws) (lv) (pc + 1) (st)) : Xs p l e R s m args below meth c D cl A nL cells slots Q (ws) (lv) (pc) (va :: st) := by
  obtain ⟨hx, hb, hml, hown, hts, hK, hA⟩ := E
  intro H locs ls hP hD hS hl
  exact lv_pop hx hb hd hv (k H locs ls hP hD hS hl)
theorem x_dup_x1 (E : En p s m args c cc nL own Ts D cl tys A) {va vb : Value} (hd : decode cc pc = .ok (.dup_x1, 1)) (hv : va.category = 1) (hw : vb.category = 1)
    (k : Xs p l e R s m args below meth c D cl A nL cells slots Q (ws) (lv) (pc + 1) (va :: vb :: va :: st)) : Xs p l e R s m args below meth c D cl A nL cells slots Q (ws) (lv) (pc) (va :: vb :: st) := by
  obtain ⟨hx, hb, hml, hown, hts, hK, hA⟩ := E
  intro H locs ls hP hD hS hl
  exact lv_dup_x1 hx hb hd hv hw (k H locs ls hP hD hS hl)
theorem x_dup2 (E : En p s m args c cc nL own Ts D cl tys A) {va vb : Value} (hd : decode cc pc = .ok (.dup2, 1)) (hv : va.category = 1) (hw : vb.category = 1)
    (k : Xs p l e R s m args below meth c D cl A nL cells slots Q (ws) (lv) (pc + 1) (va :: vb :: va :: vb :: st)) : Xs p l e R s m args below meth c D cl A nL cells slots Q (ws) (lv) (pc) (va :: vb :: st) := by
  obtain ⟨hx, hb, hml, hown, hts, hK, hA⟩ := E
  intro H locs ls hP hD hS hl
  exact lv_dup2_11 hx hb hd hv hw (k H locs ls hP hD hS hl)
theorem x_goto (E : En p s m args c cc nL own Ts D cl tys A) {off : Int} (tgt : Nat) (hd : decode cc pc = .ok (.goto off, 3)) (ht : (pc : Int) + off = (tgt : Int))
    (k : Xs p l e R s m args below meth c D cl A nL cells slots Q (ws) (lv) (tgt) (st)) : Xs p l e R s m args below meth c D cl A nL cells slots Q (ws) (lv) (pc) (st) := by
  obtain ⟨hx, hb, hml, hown, hts, hK, hA⟩ := E
  intro H locs ls hP hD hS hl
  exact lv_goto hx hb hd ht (k H locs ls hP hD hS hl)
theorem x_icmp_eq (E : En p s m args c cc nL own Ts D cl tys A) {x y : Int32} {off : Int} (tgt : Nat) (hd : decode cc pc = .ok (.if_icmp .eq off, 3)) (ht : (pc : Int) + off = (tgt : Int))
    (kt : x = y → Xs p l e R s m args below meth c D cl A nL cells slots Q (ws) (lv) (tgt) (st)) (kf : ¬ x = y → Xs p l e R s m args below meth c D cl A nL cells slots Q (ws) (lv) (pc + 3) (st)) : Xs p l e R s m args below meth c D cl A nL cells slots Q (ws) (lv) (pc) (.int y :: .int x :: st) := by
  obtain ⟨hx, hb, hml, hown, hts, hK, hA⟩ := E
  intro H locs ls hP hD hS hl
  exact lv_icmp_eq hx hb hd ht (fun h => kt h H locs ls hP hD hS hl) (fun h => kf h H locs ls hP hD hS hl)
theorem x_if_eq (E : En p s m args c cc nL own Ts D cl tys A) {x : Int32} {off : Int} (tgt : Nat) (hd : decode cc pc = .ok (.ifCond .eq off, 3)) (ht : (pc : Int) + off = (tgt : Int))
    (kt : x = 0 → Xs p l e R s m args below meth c D cl A nL cells slots Q (ws) (lv) (tgt) (st)) (kf : ¬ x = 0 → Xs p l e R s m args below meth c D cl A nL cells slots Q (ws) (lv) (pc + 3) (st)) : Xs p l e R s m args below meth c D cl A nL cells slots Q (ws) (lv) (pc) (.int x :: st) := by
  obtain ⟨hx, hb, hml, hown, hts, hK, hA⟩ := E
  intro H locs ls hP hD hS hl
  exact lv_if_eq hx hb hd ht (fun h => kt h H locs ls hP hD hS hl) (fun h => kf h H locs ls hP hD hS hl)
theorem x_ncmp_eq (E : En p s m args c cc nL own Ts D cl tys A) {a b : Nat} {off : Int} (tgt : Nat) (hd : decode cc pc = .ok (.if_icmp .eq off, 3)) (ht : (pc : Int) + off = (tgt : Int)) (ha : a < 2 ^ 31) (hb0 : b < 2 ^ 31)
    (kt : a = b → Xs p l e R s m args below meth c D cl A nL cells slots Q (ws) (lv) (tgt) (st)) (kf : ¬ a = b → Xs p l e R s m args below meth c D cl A nL cells slots Q (ws) (lv) (pc + 3) (st)) : Xs p l e R s m args below meth c D cl A nL cells slots Q (ws) (lv) (pc) (.int (nI b) :: .int (nI a) :: st) :=
  x_icmp_eq E tgt hd ht (fun h => kt ((nI_eq ha hb0).mp h)) (fun h => kf (fun q => h ((nI_eq ha hb0).mpr q)))
theorem x_nif_eq (E : En p s m args c cc nL own Ts D cl tys A) {a : Nat} {off : Int} (tgt : Nat) (hd : decode cc pc = .ok (.ifCond .eq off, 3)) (ht : (pc : Int) + off = (tgt : Int)) (ha : a < 2 ^ 31)
    (kt : a = 0 → Xs p l e R s m args below meth c D cl A nL cells slots Q (ws) (lv) (tgt) (st)) (kf : ¬ a = 0 → Xs p l e R s m args below meth c D cl A nL cells slots Q (ws) (lv) (pc + 3) (st)) : Xs p l e R s m args below meth c D cl A nL cells slots Q (ws) (lv) (pc) (.int (nI a) :: st) :=
  x_if_eq E tgt hd ht (fun h => kt ((nI_eq ha (by omega : 0 < 2 ^ 31)).mp h)) (fun h => kf (fun q => h ((nI_eq ha (by omega : 0 < 2 ^ 31)).mpr q)))
theorem x_icmp_ne (E : En p s m args c cc nL own Ts D cl tys A) {x y : Int32} {off : Int} (tgt : Nat) (hd : decode cc pc = .ok (.if_icmp .ne off, 3)) (ht : (pc : Int) + off = (tgt : Int))
    (kt : ¬ x = y → Xs p l e R s m args below meth c D cl A nL cells slots Q (ws) (lv) (tgt) (st)) (kf : x = y → Xs p l e R s m args below meth c D cl A nL cells slots Q (ws) (lv) (pc + 3) (st)) : Xs p l e R s m args below meth c D cl A nL cells slots Q (ws) (lv) (pc) (.int y :: .int x :: st) := by
  obtain ⟨hx, hb, hml, hown, hts, hK, hA⟩ := E
  intro H locs ls hP hD hS hl
  exact lv_icmp_ne hx hb hd ht (fun h => kt h H locs ls hP hD hS hl) (fun h => kf h H locs ls hP hD hS hl)
theorem x_if_ne (E : En p s m args c cc nL own Ts D cl tys A) {x : Int32} {off : Int} (tgt : Nat) (hd : decode cc pc = .ok (.ifCond .ne off, 3)) (ht : (pc : Int) + off = (tgt : Int))
    (kt : ¬ x = 0 → Xs p l e R s m args below meth c D cl A nL cells slots Q (ws) (lv) (tgt) (st)) (kf : x = 0 → Xs p l e R s m args below meth c D cl A nL cells slots Q (ws) (lv) (pc + 3) (st)) : Xs p l e R s m args below meth c D cl A nL cells slots Q (ws) (lv) (pc) (.int x :: st) := by
  obtain ⟨hx, hb, hml, hown, hts, hK, hA⟩ := E
  intro H locs ls hP hD hS hl
  exact lv_if_ne hx hb hd ht (fun h => kt h H locs ls hP hD hS hl) (fun h => kf h H locs ls hP hD hS hl)
theorem x_ncmp_ne (E : En p s m args c cc nL own Ts D cl tys A) {a b : Nat} {off : Int} (tgt : Nat) (hd : decode cc pc = .ok (.if_icmp .ne off, 3)) (ht : (pc : Int) + off = (tgt : Int)) (ha : a < 2 ^ 31) (hb0 : b < 2 ^ 31)
    (kt : ¬ a = b → Xs p l e R s m args below meth c D cl A nL cells slots Q (ws) (lv) (tgt) (st)) (kf : a = b → Xs p l e R s m args below meth c D cl A nL cells slots Q (ws) (lv) (pc + 3) (st)) : Xs p l e R s m args below meth c D cl A nL cells slots Q (ws) (lv) (pc) (.int (nI b) :: .int (nI a) :: st) :=
  x_icmp_ne E tgt hd ht (fun h => kt (fun q => h ((nI_eq ha hb0).mpr q))) (fun h => kf ((nI_eq ha hb0).mp h))
theorem x_nif_ne (E : En p s m args c cc nL own Ts D cl tys A) {a : Nat} {off : Int} (tgt : Nat) (hd : decode cc pc = .ok (.ifCond .ne off, 3)) (ht : (pc : Int) + off = (tgt : Int)) (ha : a < 2 ^ 31)
    (kt : ¬ a = 0 → Xs p l e R s m args below meth c D cl A nL cells slots Q (ws) (lv) (tgt) (st)) (kf : a = 0 → Xs p l e R s m args below meth c D cl A nL cells slots Q (ws) (lv) (pc + 3) (st)) : Xs p l e R s m args below meth c D cl A nL cells slots Q (ws) (lv) (pc) (.int (nI a) :: st) :=
  x_if_ne E tgt hd ht (fun h => kt (fun q => h ((nI_eq ha (by omega : 0 < 2 ^ 31)).mpr q))) (fun h => kf ((nI_eq ha (by omega : 0 < 2 ^ 31)).mp h))
theorem x_icmp_lt (E : En p s m args c cc nL own Ts D cl tys A) {x y : Int32} {off : Int} (tgt : Nat) (hd : decode cc pc = .ok (.if_icmp .lt off, 3)) (ht : (pc : Int) + off = (tgt : Int))
    (kt : x < y → Xs p l e R s m args below meth c D cl A nL cells slots Q (ws) (lv) (tgt) (st)) (kf : ¬ x < y → Xs p l e R s m args below meth c D cl A nL cells slots Q (ws) (lv) (pc + 3) (st)) : Xs p l e R s m args below meth c D cl A nL cells slots Q (ws) (lv) (pc) (.int y :: .int x :: st) := by
  obtain ⟨hx, hb, hml, hown, hts, hK, hA⟩ := E
  intro H locs ls hP hD hS hl
  exact lv_icmp_lt hx hb hd ht (fun h => kt h H locs ls hP hD hS hl) (fun h => kf h H locs ls hP hD hS hl)
theorem x_if_lt (E : En p s m args c cc nL own Ts D cl tys A) {x : Int32} {off : Int} (tgt : Nat) (hd : decode cc pc = .ok (.ifCond .lt off, 3)) (ht : (pc : Int) + off = (tgt : Int))
    (kt : x < 0 → Xs p l e R s m args below meth c D cl A nL cells slots Q (ws) (lv) (tgt) (st)) (kf : ¬ x < 0 → Xs p l e R s m args below meth c D cl A nL cells slots Q (ws) (lv) (pc + 3) (st)) : Xs p l e R s m args below meth c D cl A nL cells slots Q (ws) (lv) (pc) (.int x :: st) := by
  obtain ⟨hx, hb, hml, hown, hts, hK, hA⟩ := E
  intro H locs ls hP hD hS hl
  exact lv_if_lt hx hb hd ht (fun h => kt h H locs ls hP hD hS hl) (fun h => kf h H locs ls hP hD hS hl)
theorem x_ncmp_lt (E : En p s m args c cc nL own Ts D cl tys A) {a b : Nat} {off : Int} (tgt : Nat) (hd : decode cc pc = .ok (.if_icmp .lt off, 3)) (ht : (pc : Int) + off = (tgt : Int)) (ha : a < 2 ^ 31) (hb0 : b < 2 ^ 31)
    (kt : a < b → Xs p l e R s m args below meth c D cl A nL cells slots Q (ws) (lv) (tgt) (st)) (kf : ¬ a < b → Xs p l e R s m args below meth c D cl A nL cells slots Q (ws) (lv) (pc + 3) (st)) : Xs p l e R s m args below meth c D cl A nL cells slots Q (ws) (lv) (pc) (.int (nI b) :: .int (nI a) :: st) :=
  x_icmp_lt E tgt hd ht (fun h => kt ((nI_ltI ha hb0).mp h)) (fun h => kf (fun q => h ((nI_ltI ha hb0).mpr q)))
theorem x_nif_lt (E : En p s m args c cc nL own Ts D cl tys A) {a : Nat} {off : Int} (tgt : Nat) (hd : decode cc pc = .ok (.ifCond .lt off, 3)) (ht : (pc : Int) + off = (tgt : Int)) (ha : a < 2 ^ 31)
    (kt : a < 0 → Xs p l e R s m args below meth c D cl A nL cells slots Q (ws) (lv) (tgt) (st)) (kf : ¬ a < 0 → Xs p l e R s m args below meth c D cl A nL cells slots Q (ws) (lv) (pc + 3) (st)) : Xs p l e R s m args below meth c D cl A nL cells slots Q (ws) (lv) (pc) (.int (nI a) :: st) :=
  x_if_lt E tgt hd ht (fun h => kt ((nI_ltI ha (by omega : 0 < 2 ^ 31)).mp h)) (fun h => kf (fun q => h ((nI_ltI ha (by omega : 0 < 2 ^ 31)).mpr q)))
theorem x_icmp_ge (E : En p s m args c cc nL own Ts D cl tys A) {x y : Int32} {off : Int} (tgt : Nat) (hd : decode cc pc = .ok (.if_icmp .ge off, 3)) (ht : (pc : Int) + off = (tgt : Int))
    (kt : y ≤ x → Xs p l e R s m args below meth c D cl A nL cells slots Q (ws) (lv) (tgt) (st)) (kf : ¬ y ≤ x → Xs p l e R s m args below meth c D cl A nL cells slots Q (ws) (lv) (pc + 3) (st)) : Xs p l e R s m args below meth c D cl A nL cells slots Q (ws) (lv) (pc) (.int y :: .int x :: st) := by
  obtain ⟨hx, hb, hml, hown, hts, hK, hA⟩ := E
  intro H locs ls hP hD hS hl
  exact lv_icmp_ge hx hb hd ht (fun h => kt h H locs ls hP hD hS hl) (fun h => kf h H locs ls hP hD hS hl)
theorem x_if_ge (E : En p s m args c cc nL own Ts D cl tys A) {x : Int32} {off : Int} (tgt : Nat) (hd : decode cc pc = .ok (.ifCond .ge off, 3)) (ht : (pc : Int) + off = (tgt : Int))
    (kt : 0 ≤ x → Xs p l e R s m args below meth c D cl A nL cells slots Q (ws) (lv) (tgt) (st)) (kf : ¬ 0 ≤ x → Xs p l e R s m args below meth c D cl A nL cells slots Q (ws) (lv) (pc + 3) (st)) : Xs p l e R s m args below meth c D cl A nL cells slots Q (ws) (lv) (pc) (.int x :: st) := by
  obtain ⟨hx, hb, hml, hown, hts, hK, hA⟩ := E
  intro H locs ls hP hD hS hl
  exact lv_if_ge hx hb hd ht (fun h => kt h H locs ls hP hD hS hl) (fun h => kf h H locs ls hP hD hS hl)
theorem x_ncmp_ge (E : En p s m args c cc nL own Ts D cl tys A) {a b : Nat} {off : Int} (tgt : Nat) (hd : decode cc pc = .ok (.if_icmp .ge off, 3)) (ht : (pc : Int) + off = (tgt : Int)) (ha : a < 2 ^ 31) (hb0 : b < 2 ^ 31)
    (kt : b ≤ a → Xs p l e R s m args below meth c D cl A nL cells slots Q (ws) (lv) (tgt) (st)) (kf : ¬ b ≤ a → Xs p l e R s m args below meth c D cl A nL cells slots Q (ws) (lv) (pc + 3) (st)) : Xs p l e R s m args below meth c D cl A nL cells slots Q (ws) (lv) (pc) (.int (nI b) :: .int (nI a) :: st) :=
  x_icmp_ge E tgt hd ht (fun h => kt ((nI_leI hb0 ha).mp h)) (fun h => kf (fun q => h ((nI_leI hb0 ha).mpr q)))
theorem x_nif_ge (E : En p s m args c cc nL own Ts D cl tys A) {a : Nat} {off : Int} (tgt : Nat) (hd : decode cc pc = .ok (.ifCond .ge off, 3)) (ht : (pc : Int) + off = (tgt : Int)) (ha : a < 2 ^ 31)
    (kt : 0 ≤ a → Xs p l e R s m args below meth c D cl A nL cells slots Q (ws) (lv) (tgt) (st)) (kf : ¬ 0 ≤ a → Xs p l e R s m args below meth c D cl A nL cells slots Q (ws) (lv) (pc + 3) (st)) : Xs p l e R s m args below meth c D cl A nL cells slots Q (ws) (lv) (pc) (.int (nI a) :: st) :=
  x_if_ge E tgt hd ht (fun h => kt ((nI_leI (by omega : 0 < 2 ^ 31) ha).mp h)) (fun h => kf (fun q => h ((nI_leI (by omega : 0 < 2 ^ 31) ha).mpr q)))
theorem x_icmp_gt (E : En p s m args c cc nL own Ts D cl tys A) {x y : Int32} {off : Int} (tgt : Nat) (hd : decode cc pc = .ok (.if_icmp .gt off, 3)) (ht : (pc : Int) + off = (tgt : Int))
    (kt : y < x → Xs p l e R s m args below meth c D cl A nL cells slots Q (ws) (lv) (tgt) (st)) (kf : ¬ y < x → Xs p l e R s m args below meth c D cl A nL cells slots Q (ws) (lv) (pc + 3) (st)) : Xs p l e R s m args below meth c D cl A nL cells slots Q (ws) (lv) (pc) (.int y :: .int x :: st) := by
  obtain ⟨hx, hb, hml, hown, hts, hK, hA⟩ := E
  intro H locs ls hP hD hS hl
  exact lv_icmp_gt hx hb hd ht (fun h => kt h H locs ls hP hD hS hl) (fun h => kf h H locs ls hP hD hS hl)
theorem x_if_gt (E : En p s m args c cc nL own Ts D cl tys A) {x : Int32} {off : Int} (tgt : Nat) (hd : decode cc pc = .ok (.ifCond .gt off, 3)) (ht : (pc : Int) + off = (tgt : Int))
    (kt : 0 < x → Xs p l e R s m args below meth c D cl A nL cells slots Q (ws) (lv) (tgt) (st)) (kf : ¬ 0 < x → Xs p l e R s m args below meth c D cl A nL cells slots Q (ws) (lv) (pc + 3) (st)) : Xs p l e R s m args below meth c D cl A nL cells slots Q (ws) (lv) (pc) (.int x :: st) := by
  obtain ⟨hx, hb, hml, hown, hts, hK, hA⟩ := E
  intro H locs ls hP hD hS hl
  exact lv_if_gt hx hb hd ht (fun h => kt h H locs ls hP hD hS hl) (fun h => kf h H locs ls hP hD hS hl)
theorem x_ncmp_gt (E : En p s m args c cc nL own Ts D cl tys A) {a b : Nat} {off : Int} (tgt : Nat) (hd : decode cc pc = .ok (.if_icmp .gt off, 3)) (ht : (pc : Int) + off = (tgt : Int)) (ha : a < 2 ^ 31) (hb0 : b < 2 ^ 31)
    (kt : b < a → Xs p l e R s m args below meth c D cl A nL cells slots Q (ws) (lv) (tgt) (st)) (kf : ¬ b < a → Xs p l e R s m args below meth c D cl A nL cells slots Q (ws) (lv) (pc + 3) (st)) : Xs p l e R s m args below meth c D cl A nL cells slots Q (ws) (lv) (pc) (.int (nI b) :: .int (nI a) :: st) :=
  x_icmp_gt E tgt hd ht (fun h => kt ((nI_ltI hb0 ha).mp h)) (fun h => kf (fun q => h ((nI_ltI hb0 ha).mpr q)))
theorem x_nif_gt (E : En p s m args c cc nL own Ts D cl tys A) {a : Nat} {off : Int} (tgt : Nat) (hd : decode cc pc = .ok (.ifCond .gt off, 3)) (ht : (pc : Int) + off = (tgt : Int)) (ha : a < 2 ^ 31)
    (kt : 0 < a → Xs p l e R s m args below meth c D cl A nL cells slots Q (ws) (lv) (tgt) (st)) (kf : ¬ 0 < a → Xs p l e R s m args below meth c D cl A nL cells slots Q (ws) (lv) (pc + 3) (st)) : Xs p l e R s m args below meth c D cl A nL cells slots Q (ws) (lv) (pc) (.int (nI a) :: st) :=
  x_if_gt E tgt hd ht (fun h => kt ((nI_ltI (by omega : 0 < 2 ^ 31) ha).mp h)) (fun h => kf (fun q => h ((nI_ltI (by omega : 0 < 2 ^ 31) ha).mpr q)))
theorem x_icmp_le (E : En p s m args c cc nL own Ts D cl tys A) {x y : Int32} {off : Int} (tgt : Nat) (hd : decode cc pc = .ok (.if_icmp .le off, 3)) (ht : (pc : Int) + off = (tgt : Int))
    (kt : x ≤ y → Xs p l e R s m args below meth c D cl A nL cells slots Q (ws) (lv) (tgt) (st)) (kf : ¬ x ≤ y → Xs p l e R s m args below meth c D cl A nL cells slots Q (ws) (lv) (pc + 3) (st)) : Xs p l e R s m args below meth c D cl A nL cells slots Q (ws) (lv) (pc) (.int y :: .int x :: st) := by
  obtain ⟨hx, hb, hml, hown, hts, hK, hA⟩ := E
  intro H locs ls hP hD hS hl
  exact lv_icmp_le hx hb hd ht (fun h => kt h H locs ls hP hD hS hl) (fun h => kf h H locs ls hP hD hS hl)
theorem x_if_le (E : En p s m args c cc nL own Ts D cl tys A) {x : Int32} {off : Int} (tgt : Nat) (hd : decode cc pc = .ok (.ifCond .le off, 3)) (ht : (pc : Int) + off = (tgt : Int))
    (kt : x ≤ 0 → Xs p l e R s m args below meth c D cl A nL cells slots Q (ws) (lv) (tgt) (st)) (kf : ¬ x ≤ 0 → Xs p l e R s m args below meth c D cl A nL cells slots Q (ws) (lv) (pc + 3) (st)) : Xs p l e R s m args below meth c D cl A nL cells slots Q (ws) (lv) (pc) (.int x :: st) := by
  obtain ⟨hx, hb, hml, hown, hts, hK, hA⟩ := E
  intro H locs ls hP hD hS hl
  exact lv_if_le hx hb hd ht (fun h => kt h H locs ls hP hD hS hl) (fun h => kf h H locs ls hP hD hS hl)
theorem x_ncmp_le (E : En p s m args c cc nL own Ts D cl tys A) {a b : Nat} {off : Int} (tgt : Nat) (hd : decode cc pc = .ok (.if_icmp .le off, 3)) (ht : (pc : Int) + off = (tgt : Int)) (ha : a < 2 ^ 31) (hb0 : b < 2 ^ 31)
    (kt : a ≤ b → Xs p l e R s m args below meth c D cl A nL cells slots Q (ws) (lv) (tgt) (st)) (kf : ¬ a ≤ b → Xs p l e R s m args below meth c D cl A nL cells slots Q (ws) (lv) (pc + 3) (st)) : Xs p l e R s m args below meth c D cl A nL cells slots Q (ws) (lv) (pc) (.int (nI b) :: .int (nI a) :: st) :=
  x_icmp_le E tgt hd ht (fun h => kt ((nI_leI ha hb0).mp h)) (fun h => kf (fun q => h ((nI_leI ha hb0).mpr q)))
theorem x_nif_le (E : En p s m args c cc nL own Ts D cl tys A) {a : Nat} {off : Int} (tgt : Nat) (hd : decode cc pc = .ok (.ifCond .le off, 3)) (ht : (pc : Int) + off = (tgt : Int)) (ha : a < 2 ^ 31)
    (kt : a ≤ 0 → Xs p l e R s m args below meth c D cl A nL cells slots Q (ws) (lv) (tgt) (st)) (kf : ¬ a ≤ 0 → Xs p l e R s m args below meth c D cl A nL cells slots Q (ws) (lv) (pc + 3) (st)) : Xs p l e R s m args below meth c D cl A nL cells slots Q (ws) (lv) (pc) (.int (nI a) :: st) :=
  x_if_le E tgt hd ht (fun h => kt ((nI_leI ha (by omega : 0 < 2 ^ 31)).mp h)) (fun h => kf (fun q => h ((nI_leI ha (by omega : 0 < 2 ^ 31)).mpr q)))
theorem x_qif_eq (E : En p s m args c cc nL own Ts D cl tys A) {b : Bool} {off : Int} (tgt : Nat) (hd : decode cc pc = .ok (.ifCond .eq off, 3)) (ht : (pc : Int) + off = (tgt : Int))
    (kt : b = false → Xs p l e R s m args below meth c D cl A nL cells slots Q (ws) (lv) (tgt) (st)) (kf : b = true → Xs p l e R s m args below meth c D cl A nL cells slots Q (ws) (lv) (pc + 3) (st)) : Xs p l e R s m args below meth c D cl A nL cells slots Q (ws) (lv) (pc) (.int (if b = true then 1 else 0) :: st) :=
  x_if_eq E tgt hd ht (fun h => kt (by cases b with | false => rfl | true => exact absurd h (by decide))) (fun h => kf (by cases b with | true => rfl | false => exact absurd rfl h))
theorem x_qif_ne (E : En p s m args c cc nL own Ts D cl tys A) {b : Bool} {off : Int} (tgt : Nat) (hd : decode cc pc = .ok (.ifCond .ne off, 3)) (ht : (pc : Int) + off = (tgt : Int))
    (kt : b = true → Xs p l e R s m args below meth c D cl A nL cells slots Q (ws) (lv) (tgt) (st)) (kf : b = false → Xs p l e R s m args below meth c D cl A nL cells slots Q (ws) (lv) (pc + 3) (st)) : Xs p l e R s m args below meth c D cl A nL cells slots Q (ws) (lv) (pc) (.int (if b = true then 1 else 0) :: st) :=
  x_if_ne E tgt hd ht (fun h => kt (by cases b with | true => rfl | false => exact absurd rfl h)) (fun h => kf (by cases b with | false => rfl | true => exact absurd h (by decide)))
theorem q_nar (b : Bool) : narrow .boolean (.int (if b = true then 1 else 0)) = .int (if b = true then 1 else 0) := by cases b <;> rfl
theorem q_fit (b : Bool) : fits .boolean (.int (if b = true then 1 else 0)) = true := by cases b <;> rfl
theorem q_t {b : Bool} (h : b = true) : nI 1 = if b = true then 1 else 0 := by subst h; rfl
theorem q_f {b : Bool} (h : b = false) : nI 0 = if b = true then 1 else 0 := by subst h; rfl
theorem q_t' {b : Bool} (h : b = true) : some (Value.int (nI 1)) = some (.int (if b = true then 1 else 0)) := by subst h; rfl
theorem q_f' {b : Bool} (h : b = false) : some (Value.int (nI 0)) = some (.int (if b = true then 1 else 0)) := by subst h; rfl
theorem x_niadd (E : En p s m args c cc nL own Ts D cl tys A) {a b : Nat} (hd : decode cc pc = .ok (.iadd, 1))
    (k : Xs p l e R s m args below meth c D cl A nL cells slots Q (ws) (lv) (pc + 1) (.int (nI (a + b)) :: st)) : Xs p l e R s m args below meth c D cl A nL cells slots Q (ws) (lv) (pc) (.int (nI b) :: .int (nI a) :: st) := by
  obtain ⟨hx, hb, hml, hown, hts, hK, hA⟩ := E
  intro H locs ls hP hD hS hl
  exact lv_iadd hx hb hd (by rw [nI_add]; exact (k H locs ls hP hD hS hl))
theorem x_nimul (E : En p s m args c cc nL own Ts D cl tys A) {a b : Nat} (hd : decode cc pc = .ok (.imul, 1))
    (k : Xs p l e R s m args below meth c D cl A nL cells slots Q (ws) (lv) (pc + 1) (.int (nI (a * b)) :: st)) : Xs p l e R s m args below meth c D cl A nL cells slots Q (ws) (lv) (pc) (.int (nI b) :: .int (nI a) :: st) := by
  obtain ⟨hx, hb, hml, hown, hts, hK, hA⟩ := E
  intro H locs ls hP hD hS hl
  exact lv_imul hx hb hd (by rw [pk_mul]; exact (k H locs ls hP hD hS hl))
theorem x_nisub (E : En p s m args c cc nL own Ts D cl tys A) {a b : Nat} (hd : decode cc pc = .ok (.isub, 1)) (h : b ≤ a)
    (k : Xs p l e R s m args below meth c D cl A nL cells slots Q (ws) (lv) (pc + 1) (.int (nI (a - b)) :: st)) : Xs p l e R s m args below meth c D cl A nL cells slots Q (ws) (lv) (pc) (.int (nI b) :: .int (nI a) :: st) := by
  obtain ⟨hx, hb, hml, hown, hts, hK, hA⟩ := E
  intro H locs ls hP hD hS hl
  exact lv_isub hx hb hd (by rw [pk_sub h]; exact (k H locs ls hP hD hS hl))
theorem x_nidiv (E : En p s m args c cc nL own Ts D cl tys A) {a b : Nat} (hd : decode cc pc = .ok (.idiv, 1)) (ha : a < 2 ^ 31) (h0 : 0 < b) (hb0 : b < 2 ^ 31)
    (k : Xs p l e R s m args below meth c D cl A nL cells slots Q (ws) (lv) (pc + 1) (.int (nI (a / b)) :: st)) : Xs p l e R s m args below meth c D cl A nL cells slots Q (ws) (lv) (pc) (.int (nI b) :: .int (nI a) :: st) := by
  obtain ⟨hx, hb, hml, hown, hts, hK, hA⟩ := E
  intro H locs ls hP hD hS hl
  exact lv_idiv hx hb hd (nI_ne0 h0 hb0) (by rw [pk_div ha h0 hb0]; exact (k H locs ls hP hD hS hl))
theorem x_get (E : En p s m args c cc nL own Ts D cl tys A) {ref C : String} {T : u_T} {N ci index a : Nat} (q0 f : Nat) {fs : List Value} {v : Value} (hd : decode cc pc = .ok (.getfield index, 3)) (hin : ∀ w ∈ u_ws C T N, w ∈ Ts) (he : ws[q0]? = some (a, .inr (ci, fs))) (hc : cl[ci]? = some (C, T, N)) (hk : f < N) (hlink : Cond.fieldLink own index ref (T f).2.1 (T f).2.2.1 ∈ Ts) (href : (T f).1 = ref) (hv : fs[f]? = some v)
    (k : Xs p l e R s m args below meth c D cl A nL cells slots Q (ws) (lv) (pc + 3) (v :: st)) : Xs p l e R s m args below meth c D cl A nL cells slots Q (ws) (lv) (pc) (.ref a :: st) := by
  obtain ⟨hx, hb, hml, hown, hts, hK, hA⟩ := E
  intro H locs ls hP hD hS hl
  exact va_get hx hb hts hin hown hK hP q0 he hc f hk (hts _ hlink) (fun _ h => by rw [← href]; exact h) hv hd (k H locs ls hP hD hS hl)
theorem x_put (E : En p s m args c cc nL own Ts D cl tys A) {ref C : String} {T : u_T} {N ci index a : Nat} (q0 f : Nat) (ws' : va_W) {fs : List Value} {v : Value} {ty0 : Nat → FieldType} (hd : decode cc pc = .ok (.putfield index, 3)) (hin : ∀ w ∈ u_ws C T N, w ∈ Ts) (hty : ∀ k, k < N → parseFieldDescriptor (T k).2.2.1 = some (ty0 k)) (hnm : ∀ a, a < N → ∀ b, b < N → a ≠ b → (T a).2.1 ≠ (T b).2.1) (he : ws[q0]? = some (a, .inr (ci, fs))) (hc : cl[ci]? = some (C, T, N)) (hk : f < N) (hlink : Cond.fieldLink own index ref (T f).2.1 (T f).2.2.1 ∈ Ts) (href : (T f).1 = ref) (hfin : (T f).2.2.2 = false) (hnr : narrow (ty0 f) v = v) (hfit : fits (ty0 f) v = true) (hlen : f < fs.length) (hw : ws.set q0 (a, .inr (ci, fs.set f v)) = ws')
    (k : Xs p l e R s m args below meth c D cl A nL cells slots Q (ws') (lv) (pc + 3) (st)) : Xs p l e R s m args below meth c D cl A nL cells slots Q (ws) (lv) (pc) (v :: .ref a :: st) := by
  obtain ⟨hx, hb, hml, hown, hts, hK, hA⟩ := E
  intro H locs ls hP hD hS hl
  subst hw
  exact va_put hx hb hts hin ty0 hty hnm hown hK hP hD hS q0 he hc f hk (hts _ hlink) (fun _ h => by rw [← href]; exact h) hfin (hty f hk) hnr hfit hlen hd (fun H1 locs1 hP1 hD1 hS1 => k H1 locs1 ls hP1 hD1 hS1 hl)
theorem x_putF (E : En p s m args c cc nL own Ts D cl tys A) {ref C : String} {T : u_T} {N ci index a : Nat} (q0 f : Nat) (ws' : va_W) {fs : List Value} {v : Value} {ty0 : Nat → FieldType} (hd : decode cc pc = .ok (.putfield index, 3)) (hin : ∀ w ∈ u_ws C T N, w ∈ Ts) (hty : ∀ k, k < N → parseFieldDescriptor (T k).2.2.1 = some (ty0 k)) (hnm : ∀ a, a < N → ∀ b, b < N → a ≠ b → (T a).2.1 ≠ (T b).2.1) (he : ws[q0]? = some (a, .inr (ci, fs))) (hc : cl[ci]? = some (C, T, N)) (hk : f < N) (hlink : Cond.fieldLink own index ref (T f).2.1 (T f).2.2.1 ∈ Ts) (href : (T f).1 = ref) (hfin : (T f).2.2.2 = true) (hin2 : meth.name = "<init>") (hdecl : (T f).1 = own) (hnr : narrow (ty0 f) v = v) (hfit : fits (ty0 f) v = true) (hlen : f < fs.length) (hw : ws.set q0 (a, .inr (ci, fs.set f v)) = ws')
    (k : Xs p l e R s m args below meth c D cl A nL cells slots Q (ws') (lv) (pc + 3) (st)) : Xs p l e R s m args below meth c D cl A nL cells slots Q (ws) (lv) (pc) (v :: .ref a :: st) := by
  obtain ⟨hx, hb, hml, hown, hts, hK, hA⟩ := E
  intro H locs ls hP hD hS hl
  subst hw
  exact va_putF hx hb hts hin ty0 hty hnm hown hK hP hD hS q0 he hc f hk (hts _ hlink) (fun _ h => by rw [← href]; exact h) hfin hin2 hdecl (hty f hk) hnr hfit hlen hd (fun H1 locs1 hP1 hD1 hS1 => k H1 locs1 ls hP1 hD1 hS1 hl)
/-- a row of bytes, as the cells hold it -/
def bf (g : Nat → UInt8) : Nat → Int32 := fun j => (g j).toInt8.toInt32
def u8 (x : Int32) : UInt8 := x.toInt8.toUInt8
def zf (g : Nat → Bool) : Nat → Int32 := fun j => if g j = true then 1 else 0
theorem bf_up (g : Nat → UInt8) (k : Nat) (v : UInt8) : upd (bf g) k v.toInt8.toInt32 = bf (va_up g k v) := by
  funext j
  by_cases h : j = k
  · subst h; simp [upd, bf, va_up]
  · simp [upd, bf, va_up, h]
theorem zf_up (g : Nat → Bool) (k : Nat) (v : Bool) : upd (zf g) k (if v = true then 1 else 0) = zf (va_up g k v) := by
  funext j
  by_cases h : j = k
  · subst h; simp [upd, zf, va_up]
  · simp [upd, zf, va_up, h]
theorem bf_cpy (f g : Nat → UInt8) (a b n : Nat) : va_cpy (bf f) (bf g) a b n = bf (va_cpy f g a b n) := by
  funext j
  simp only [va_cpy, bf]
  split <;> rfl
theorem u8_nar (x : Int32) : vp_nar .byte x = (u8 x).toInt8.toInt32 := by
  rw [vp_nar_byte]
  simp [u8]
theorem bf_255 (u : UInt8) : u.toInt8.toInt32 &&& 255 = nI u.toNat := by
  have h : ∀ n : Fin 256, (UInt8.ofNat n.val).toInt8.toInt32 &&& 255 = nI n.val := by decide +kernel
  have h2 := h ⟨u.toNat, u.toNat_lt⟩
  simpa using h2
theorem bf_fit (u : UInt8) : fits .byte (.int u.toInt8.toInt32) = true := by
  have h : ∀ n : Fin 256, fits .byte (.int (UInt8.ofNat n.val).toInt8.toInt32) = true := by decide +kernel
  have h2 := h ⟨u.toNat, u.toNat_lt⟩
  simpa using h2
theorem bf_n255 (g : Nat → UInt8) (k : Nat) : bf g k &&& nI 255 = nI (g k).toNat := bf_255 (g k)
theorem u_n255 (u : UInt8) : nI u.toNat &&& nI 255 = nI u.toNat := by
  have h : ∀ n : Fin 256, nI (UInt8.ofNat n.val).toNat &&& nI 255 = nI (UInt8.ofNat n.val).toNat := by decide +kernel
  have h2 := h ⟨u.toNat, u.toNat_lt⟩
  simpa using h2
theorem u8lt (u : UInt8) : u.toNat < 2 ^ 31 := Nat.lt_of_lt_of_le u.toNat_lt (by decide)
theorem u8l (u : UInt8) : u.toNat < 256 := u.toNat_lt
/-- rows of ints that hold numbers, or bytes -/
def nf (f : Nat → Nat) : Nat → Int32 := fun j => nI (f j)
def uf (g : Nat → UInt8) : Nat → Int32 := fun j => nI (g j).toNat
theorem nf_up (g : Nat → Nat) (k v : Nat) : upd (nf g) k (nI v) = nf (va_up g k v) := by
  funext j
  by_cases h : j = k
  · subst h; simp [upd, nf, va_up]
  · simp [upd, nf, va_up, h]
theorem uf_up (g : Nat → UInt8) (k : Nat) (v : UInt8) : upd (uf g) k (nI v.toNat) = uf (va_up g k v) := by
  funext j
  by_cases h : j = k
  · subst h; simp [upd, uf, va_up]
  · simp [upd, uf, va_up, h]
abbrev tyl (cB cI cZ cJ : ClassId) : List (ClassId × FieldType) := [(cB, .byte), (cI, .int), (cZ, .boolean), (cJ, .long)]
theorem x_ncl {n k : Nat} (h : k < n) (hn : n < 2 ^ 31) : (nI k).toNatClampNeg = k := nI_clamp (by omega)
theorem x_iald (E : En p s m args c cc nL own Ts D cl tys A) {a n i : Nat} {cA : ClassId} {f : Nat → Int32} (q0 t0 : Nat) (hd : decode cc pc = .ok (.iaload, 1)) (ha : ws[q0]? = some (a, .inl (cA, n, .inl (f)))) (ht : tys[t0]? = some (cA, .int)) (hi : i < n) (hn : n < 2 ^ 31)
    (k : Xs p l e R s m args below meth c D cl A nL cells slots Q (ws) (lv) (pc + 1) (.int ((f) i) :: st)) : Xs p l e R s m args below meth c D cl A nL cells slots Q (ws) (lv) (pc) (.int (nI i) :: .ref a :: st) := by
  obtain ⟨hx, hb, hml, hown, hts, hK, hA⟩ := E
  intro H locs ls hP hD hS hl
  exact va_iald hx hb hK hP q0 t0 ha ht (vp_in_nI hi hn) hd (by rw [x_ncl hi hn]; exact (k H locs ls hP hD hS hl))
theorem x_bald (E : En p s m args c cc nL own Ts D cl tys A) {a n i : Nat} {cA : ClassId} {g : Nat → UInt8} (q0 t0 : Nat) (hd : decode cc pc = .ok (.baload, 1)) (ha : ws[q0]? = some (a, .inl (cA, n, .inl (bf g)))) (ht : tys[t0]? = some (cA, .byte)) (hi : i < n) (hn : n < 2 ^ 31)
    (k : Xs p l e R s m args below meth c D cl A nL cells slots Q (ws) (lv) (pc + 1) (.int ((bf g) i) :: st)) : Xs p l e R s m args below meth c D cl A nL cells slots Q (ws) (lv) (pc) (.int (nI i) :: .ref a :: st) := by
  obtain ⟨hx, hb, hml, hown, hts, hK, hA⟩ := E
  intro H locs ls hP hD hS hl
  exact va_bald hx hb hK hP q0 t0 ha ht (vp_in_nI hi hn) hd (by rw [x_ncl hi hn]; exact (k H locs ls hP hD hS hl))
theorem x_zald (E : En p s m args c cc nL own Ts D cl tys A) {a n i : Nat} {cA : ClassId} {g : Nat → Bool} (q0 t0 : Nat) (hd : decode cc pc = .ok (.baload, 1)) (ha : ws[q0]? = some (a, .inl (cA, n, .inl (zf g)))) (ht : tys[t0]? = some (cA, .boolean)) (hi : i < n) (hn : n < 2 ^ 31)
    (k : Xs p l e R s m args below meth c D cl A nL cells slots Q (ws) (lv) (pc + 1) (.int ((zf g) i) :: st)) : Xs p l e R s m args below meth c D cl A nL cells slots Q (ws) (lv) (pc) (.int (nI i) :: .ref a :: st) := by
  obtain ⟨hx, hb, hml, hown, hts, hK, hA⟩ := E
  intro H locs ls hP hD hS hl
  exact va_zald hx hb hK hP q0 t0 ha ht (vp_in_nI hi hn) hd (by rw [x_ncl hi hn]; exact (k H locs ls hP hD hS hl))
theorem x_nald (E : En p s m args c cc nL own Ts D cl tys A) {a n i : Nat} {cA : ClassId} {f : Nat → Nat} (q0 t0 : Nat) (hd : decode cc pc = .ok (.iaload, 1)) (ha : ws[q0]? = some (a, .inl (cA, n, .inl (nf f)))) (ht : tys[t0]? = some (cA, .int)) (hi : i < n) (hn : n < 2 ^ 31)
    (k : Xs p l e R s m args below meth c D cl A nL cells slots Q (ws) (lv) (pc + 1) (.int (nI (f i)) :: st)) : Xs p l e R s m args below meth c D cl A nL cells slots Q (ws) (lv) (pc) (.int (nI i) :: .ref a :: st) := x_iald E q0 t0 hd ha ht hi hn k
theorem x_uald (E : En p s m args c cc nL own Ts D cl tys A) {a n i : Nat} {cA : ClassId} {g : Nat → UInt8} (q0 t0 : Nat) (hd : decode cc pc = .ok (.iaload, 1)) (ha : ws[q0]? = some (a, .inl (cA, n, .inl (uf g)))) (ht : tys[t0]? = some (cA, .int)) (hi : i < n) (hn : n < 2 ^ 31)
    (k : Xs p l e R s m args below meth c D cl A nL cells slots Q (ws) (lv) (pc + 1) (.int (nI (g i).toNat) :: st)) : Xs p l e R s m args below meth c D cl A nL cells slots Q (ws) (lv) (pc) (.int (nI i) :: .ref a :: st) := x_iald E q0 t0 hd ha ht hi hn k
theorem x_nast (E : En p s m args c cc nL own Ts D cl tys A) {a n i : Nat} {cA : ClassId} {f : Nat → Nat} {v : Nat} (q0 t0 : Nat) (ws' : va_W) (hd : decode cc pc = .ok (.iastore, 1)) (ha : ws[q0]? = some (a, .inl (cA, n, .inl (nf f)))) (ht : tys[t0]? = some (cA, .int)) (hi : i < n) (hn : n < 2 ^ 31) (hw : ws.set q0 (a, .inl (cA, n, .inl (nf (va_up f i v)))) = ws')
    (k : Xs p l e R s m args below meth c D cl A nL cells slots Q (ws') (lv) (pc + 1) (st)) : Xs p l e R s m args below meth c D cl A nL cells slots Q (ws) (lv) (pc) (.int (nI v) :: .int (nI i) :: .ref a :: st) := by
  obtain ⟨hx, hb, hml, hown, hts, hK, hA⟩ := E
  intro H locs ls hP hD hS hl
  subst hw
  refine va_iast hx hb hK hP hD hS q0 t0 ha ht (vp_in_nI hi hn) hd (fun H1 locs1 hP1 hD1 hS1 => ?_)
  rw [x_ncl hi hn, nf_up] at hP1 hD1
  exact k H1 locs1 ls hP1 hD1 hS1 hl
theorem x_uast (E : En p s m args c cc nL own Ts D cl tys A) {a n i : Nat} {cA : ClassId} {g : Nat → UInt8} {x : Int32} {v : UInt8} (q0 t0 : Nat) (ws' : va_W) (hd : decode cc pc = .ok (.iastore, 1)) (ha : ws[q0]? = some (a, .inl (cA, n, .inl (uf g)))) (ht : tys[t0]? = some (cA, .int)) (hi : i < n) (hn : n < 2 ^ 31) (hv : x = nI v.toNat) (hw : ws.set q0 (a, .inl (cA, n, .inl (uf (va_up g i v)))) = ws')
    (k : Xs p l e R s m args below meth c D cl A nL cells slots Q (ws') (lv) (pc + 1) (st)) : Xs p l e R s m args below meth c D cl A nL cells slots Q (ws) (lv) (pc) (.int (x) :: .int (nI i) :: .ref a :: st) := by
  obtain ⟨hx, hb, hml, hown, hts, hK, hA⟩ := E
  intro H locs ls hP hD hS hl
  subst hw; subst hv
  refine va_iast hx hb hK hP hD hS q0 t0 ha ht (vp_in_nI hi hn) hd (fun H1 locs1 hP1 hD1 hS1 => ?_)
  rw [x_ncl hi hn, uf_up] at hP1 hD1
  exact k H1 locs1 ls hP1 hD1 hS1 hl
theorem x_iast (E : En p s m args c cc nL own Ts D cl tys A) {a n i : Nat} {cA : ClassId} {f : Nat → Int32} {x : Int32} (q0 t0 : Nat) (ws' : va_W) (hd : decode cc pc = .ok (.iastore, 1)) (ha : ws[q0]? = some (a, .inl (cA, n, .inl f))) (ht : tys[t0]? = some (cA, .int)) (hi : i < n) (hn : n < 2 ^ 31) (hw : ws.set q0 (a, .inl (cA, n, .inl (upd f i x))) = ws')
    (k : Xs p l e R s m args below meth c D cl A nL cells slots Q (ws') (lv) (pc + 1) (st)) : Xs p l e R s m args below meth c D cl A nL cells slots Q (ws) (lv) (pc) (.int x :: .int (nI i) :: .ref a :: st) := by
  obtain ⟨hx, hb, hml, hown, hts, hK, hA⟩ := E
  intro H locs ls hP hD hS hl
  subst hw
  refine va_iast hx hb hK hP hD hS q0 t0 ha ht (vp_in_nI hi hn) hd (fun H1 locs1 hP1 hD1 hS1 => ?_)
  rw [x_ncl hi hn] at hP1 hD1
  exact k H1 locs1 ls hP1 hD1 hS1 hl
theorem x_bast (E : En p s m args c cc nL own Ts D cl tys A) {a n i : Nat} {cA : ClassId} {g : Nat → UInt8} {x : Int32} {v : UInt8} (q0 t0 : Nat) (ws' : va_W) (hd : decode cc pc = .ok (.bastore, 1)) (ha : ws[q0]? = some (a, .inl (cA, n, .inl (bf g)))) (ht : tys[t0]? = some (cA, .byte)) (hi : i < n) (hn : n < 2 ^ 31) (hv : u8 x = v) (hw : ws.set q0 (a, .inl (cA, n, .inl (bf (va_up g i v)))) = ws')
    (k : Xs p l e R s m args below meth c D cl A nL cells slots Q (ws') (lv) (pc + 1) (st)) : Xs p l e R s m args below meth c D cl A nL cells slots Q (ws) (lv) (pc) (.int x :: .int (nI i) :: .ref a :: st) := by
  obtain ⟨hx, hb, hml, hown, hts, hK, hA⟩ := E
  intro H locs ls hP hD hS hl
  subst hw; subst hv
  refine va_bast hx hb hK hP hD hS q0 t0 ha ht (vp_in_nI hi hn) hd (fun H1 locs1 hP1 hD1 hS1 => ?_)
  rw [x_ncl hi hn, u8_nar, bf_up] at hP1 hD1
  exact k H1 locs1 ls hP1 hD1 hS1 hl
theorem x_zast (E : En p s m args c cc nL own Ts D cl tys A) {a n i : Nat} {cA : ClassId} {g : Nat → Bool} {x : Int32} {v : Bool} (q0 t0 : Nat) (ws' : va_W) (hd : decode cc pc = .ok (.bastore, 1)) (ha : ws[q0]? = some (a, .inl (cA, n, .inl (zf g)))) (ht : tys[t0]? = some (cA, .boolean)) (hi : i < n) (hn : n < 2 ^ 31) (hv : vp_nar .boolean x = if v = true then 1 else 0) (hw : ws.set q0 (a, .inl (cA, n, .inl (zf (va_up g i v)))) = ws')
    (k : Xs p l e R s m args below meth c D cl A nL cells slots Q (ws') (lv) (pc + 1) (st)) : Xs p l e R s m args below meth c D cl A nL cells slots Q (ws) (lv) (pc) (.int x :: .int (nI i) :: .ref a :: st) := by
  obtain ⟨hx, hb, hml, hown, hts, hK, hA⟩ := E
  intro H locs ls hP hD hS hl
  subst hw
  refine va_zast hx hb hK hP hD hS q0 t0 ha ht (vp_in_nI hi hn) hd (fun H1 locs1 hP1 hD1 hS1 => ?_)
  rw [x_ncl hi hn, hv, zf_up] at hP1 hD1
  exact k H1 locs1 ls hP1 hD1 hS1 hl
theorem x_alen (E : En p s m args c cc nL own Ts D cl tys A) {a : Nat} {cA : ClassId} {x : vp_A} {ty : FieldType} (q0 t0 n : Nat) (hd : decode cc pc = .ok (.arraylength, 1)) (ha : ws[q0]? = some (a, .inl (cA, x))) (ht : tys[t0]? = some (cA, ty)) (hn : x.1 = n)
    (k : Xs p l e R s m args below meth c D cl A nL cells slots Q (ws) (lv) (pc + 1) (.int (nI n) :: st)) : Xs p l e R s m args below meth c D cl A nL cells slots Q (ws) (lv) (pc) (.ref a :: st) := by
  obtain ⟨hx, hb, hml, hown, hts, hK, hA⟩ := E
  intro H locs ls hP hD hS hl
  subst hn
  exact va_alen hx hb hK hP q0 t0 ha ht rfl hd (k H locs ls hP hD hS hl)
/-- System.arraycopy of a row of bytes upon itself -/
theorem x_bcopy (E : En p s m args c cc nL own Ts D cl tys A) {a n sp dp k0 index : Nat} {cA : ClassId} {g : Nat → UInt8} (q0 t0 : Nat) (ws' : va_W) (hd : decode cc pc = .ok (.invokestatic index, 3)) (ha : ws[q0]? = some (a, .inl (cA, n, .inl (bf g)))) (ht : tys[t0]? = some (cA, .byte)) (hn : n < 2 ^ 31) (h1 : sp + k0 ≤ n) (h2 : dp + k0 ≤ n) (hlink : Cond.methodLink own index arraycopyName ∈ Ts) (hnat : Cond.native arraycopyName ∈ Ts) (hstat : Cond.static arraycopyName ∈ Ts) (hini : Cond.initialized "java/lang/System" ∈ Ts) (hf : 1 ≤ R.frames) (hlo : (st.map fun v => v.category).sum + (nativeFrameWords "java/lang/System" "arraycopy" 5 + 11) ≤ R.locals) (hw : ws.set q0 (a, .inl (cA, n, .inl (bf (va_cpy g g sp dp k0)))) = ws')
    (k : Xs p l e R s m args below meth c D cl A nL cells slots Q (ws') (lv) (pc + 3) (st)) : Xs p l e R s m args below meth c D cl A nL cells slots Q (ws) (lv) (pc) (.int (nI k0) :: .int (nI dp) :: .ref a :: .int (nI sp) :: .ref a :: st) := by
  obtain ⟨hx, hb, hml, hown, hts, hK, hA⟩ := E
  intro H locs ls hP hD hS hl
  subst hw
  have e1 : (nI sp).toNatClampNeg = sp := nI_clamp (by omega)
  have e2 : (nI dp).toNatClampNeg = dp := nI_clamp (by omega)
  have e3 : (nI k0).toNatClampNeg = k0 := nI_clamp (by omega)
  refine va_copyi hx hb (hml.trans hl.1.symm) hown (hts _ hlink) (hts _ hnat) (hts _ hstat) (hts _ hini) hK hP hD hS q0 q0 t0 t0 ha ha ht ht rfl (nI_pos (by omega)) (nI_pos (by omega)) (nI_pos (by omega)) (by rw [e1, e3]; exact h1) (by rw [e2, e3]; exact h2) (fun i _ => bf_fit _) hf hlo hd (fun H1 locs1 hP1 hD1 hS1 => ?_)
  rw [e1, e2, e3, bf_cpy] at hP1 hD1
  exact k H1 locs1 ls hP1 hD1 hS1 hl
theorem x_iret {P : Option Value → va_W → Prop} {v : Int32} (E : En p s m args c cc nL own Ts D cl tys A) (hr : meth.sig.returnType = some .int) (hlocks : meth.locks = false) (hd : decode cc pc = .ok (.ireturn, 1)) (hp : P (some (.int v)) ws) :
    Xs p l e R s m args below meth c D cl A nL cells slots (MQ below (CQ D cl tys A P) args s cells slots A) ws lv pc [.int v] := by
  obtain ⟨hx, hb, hml, hown, hts, hK, hA⟩ := E
  intro H locs ls hP hD hS hl
  exact W.iret (v := v) hx hb hr (fun t ht hW => ⟨⟨some (.int v), ws, rfl, hp, by rw [ht]; exact hP, va_K.moved hW.alike hK, hD⟩, hS.F ht⟩) hS.2.2 hd
theorem x_vret {P : Option Value → va_W → Prop}  (E : En p s m args c cc nL own Ts D cl tys A) (hr : meth.sig.returnType = none) (hlocks : meth.locks = false) (hd : decode cc pc = .ok (.return_, 1)) (hp : P (none) ws) :
    Xs p l e R s m args below meth c D cl A nL cells slots (MQ below (CQ D cl tys A P) args s cells slots A) ws lv pc [] := by
  obtain ⟨hx, hb, hml, hown, hts, hK, hA⟩ := E
  intro H locs ls hP hD hS hl
  exact W.vret hx hb hr (fun t ht hW => ⟨⟨none, ws, rfl, hp, by rw [ht]; exact hP, va_K.moved hW.alike hK, hD⟩, hS.F ht⟩) hS.2.2 hd
theorem x_zret {P : Option Value → va_W → Prop} {v : Int32} {ty : FieldType} (E : En p s m args c cc nL own Ts D cl tys A) (hr : meth.sig.returnType = some ty) (hlocks : meth.locks = false) (hd : decode cc pc = .ok (.ireturn, 1)) (hn : narrow ty (.int v) = .int v) (hp : P (some (.int v)) ws) :
    Xs p l e R s m args below meth c D cl A nL cells slots (MQ below (CQ D cl tys A P) args s cells slots A) ws lv pc [.int v] := by
  obtain ⟨hx, hb, hml, hown, hts, hK, hA⟩ := E
  intro H locs ls hP hD hS hl
  exact W.zret (v := v) hx hb hr hn (fun t ht hW => ⟨⟨some (.int v), ws, rfl, hp, by rw [ht]; exact hP, va_K.moved hW.alike hK, hD⟩, hS.F ht⟩) hS.2.2 hd
theorem x_aret {P : Option Value → va_W → Prop} {a : Nat} {ty : FieldType} (E : En p s m args c cc nL own Ts D cl tys A) (hr : meth.sig.returnType = some ty) (hlocks : meth.locks = false) (hd : decode cc pc = .ok (.areturn, 1)) (hrt : (∃ n, ty = .object n) ∨ ∃ t, ty = .array t) (hp : P (some (.ref a)) ws) :
    Xs p l e R s m args below meth c D cl A nL cells slots (MQ below (CQ D cl tys A P) args s cells slots A) ws lv pc [.ref a] := by
  obtain ⟨hx, hb, hml, hown, hts, hK, hA⟩ := E
  intro H locs ls hP hD hS hl
  exact W.aret (v := .ref a) hx hb hr hrt (Or.inr ⟨a, rfl⟩) (fun t ht hW => ⟨⟨some (.ref a), ws, rfl, hp, by rw [ht]; exact hP, va_K.moved hW.alike hK, hD⟩, hS.F ht⟩) hS.2.2 hd
/-- behind a call: the callee's part of the world is its own, the rest is as it was -/
theorem x_after {rm : Room} {mc ms : Nat} {wc wr : va_W} {P : Option Value → va_W → Prop} {st0 : List Value} {a : Array Value} (hA : ∀ q : Nat, s.heap.size ≤ q → A q) (isC isR : List Nat) (hC : isC.map (fun i => ws[i]?) = wc.map some) (hR : isR.map (fun i => ws[i]?) = wr.map some) (hn : va_nd isR = true) (hdis : ∀ i ∈ isR, i ∉ isC)
    (hrun : ∀ (H : Heap) (locs : List Loc) (ls : Array Slot), va_P D cl ws H → va_D A ws → va_S A s.heap H locs → lv_has ls nL lv → va_Run p l e R s m args below meth c H locs cells slots mc ms (F0 m pc ls st0) st (CQ D cl tys (va_A wc H.size) P a) (va_A wc H.size))
    (k : ∀ (r : Option Value) (u : va_W), P r u → Xs p l e R s m args below meth c D cl A nL (cells + mc) (slots + ms) Q (wr ++ u) (lv) (pc + 3) (r.toList ++ st)) : Xs p l e R s m args below meth c D cl A nL cells slots Q (ws) (lv) (pc) (st0) := by
  intro H locs ls hP hD hS hl
  have hFc := va_free (wc := wc) hD hS hA isC hC
  intro T hT X
  obtain ⟨v, st₀, t, T', L, h0, X', hL, e1, e2, ⟨⟨r, u, hv, hp, hP1, hK1, hD1⟩, hz, hk⟩, stp⟩ := hrun H locs ls hP hD hS hl T hT X
  cases hv
  rw [h0] at hz hk
  have hP2 : va_P D cl u T'.heap := by rw [e1]; exact hP1
  have hk2 : ∀ q : Nat, q < H.size → ¬ va_A wc H.size q → T'.heap[q]? = H[q]? := by rw [e1]; exact hk
  obtain ⟨hP3, hD3⟩ := va_join hP hD isC isR hC hR hn hdis hk2 hFc hP2 hD1
  have hS3 : va_S A s.heap T'.heap (locs ++ L) := ⟨Nat.le_trans hS.1 (by rw [e1]; exact hz), fun q h1 h2 => by rw [hk2 q (Nat.lt_of_lt_of_le h1 hS.1) (fun z => h2 (hFc q z))]; exact hS.2.1 q h1 h2, fun q hq => by
    rcases List.mem_append.mp hq with h | h
    · exact hS.2.2 q h
    · exact hFc _ (hL q h)⟩
  obtain ⟨t2, a1, b1⟩ := k v u hp T'.heap (locs ++ L) ls hP3 hD3 hS3 hl T' rfl X'
  exact ⟨t2, stp t2 a1, b1⟩
theorem x_blind {av : List Value} {sz : Nat} {wc : va_W} : FrameBlind (va_Pc av (fun U => U.heap.size = sz ∧ va_P D cl wc U.heap ∧ va_K D cl tys U ∧ va_D (fun _ => True) wc)) := fun a U g mk q => by
  obtain ⟨q0, q1, qP, qK, qD⟩ := q
  exact ⟨q0, q1, qP, va_K.moved (u := U) (U := U.calling g mk a) (Vm.Alike.refl U.vm) qK, qD⟩

theorem x_gV (E : En p s m args c cc nL own Ts D cl tys A) {y : MethodName} {bytes : ByteArray} {maxL mc ms n index : Nat} {ret : Option FieldType} {wy : List Cond} {rm : Room} {wc wr : va_W} {P : Option Value → va_W → Prop} {b : Nat} {C : String} {T : u_T} {N ci : Nat} {fs : List Value}  (As : List Value) (hM : Cg l D cl tys y wy rm mc ms (.ref b :: As) wc P) (q0 : Nat) (he : wc[q0]? = some (b, .inr (ci, fs))) (hcl : cl[ci]? = some (C, T, N)) (cw : CallW R s args own C index y bytes maxL ret wy rm mc ms n) (isC isR : List Nat) (hC : isC.map (fun i => ws[i]?) = wc.map some) (hR : isR.map (fun i => ws[i]?) = wr.map some) (hnC : va_nd isC = true) (hnR : va_nd isR = true) (hdis : ∀ i ∈ isR, i ∉ isC) (hlen : As.length = n) (hroom : (st.map fun v => v.category).sum ≤ 8) (hd : decode cc pc = .ok (.invokevirtual index, 3)) (hf : cells + mc ≤ R.cells ∧ slots + ms ≤ R.slots) {st0 : List Value} (hst : st0 = As.reverse ++ .ref b :: st)
    (k : ∀ (r : Option Value) (u : va_W), P r u → Xs p l e R s m args below meth c D cl A nL (cells + mc) (slots + ms) Q (wr ++ u) (lv) (pc + 3) (r.toList ++ st)) : Xs p l e R s m args below meth c D cl A nL cells slots Q (ws) (lv) (pc) (st0) := by
  obtain ⟨hx, hb, hml, hown, hts, hK, hA⟩ := E
  refine x_after (tys := tys) (mc := mc) (ms := ms) (a := (.ref b :: As).toArray) (rm := rm) hA isC isR hC hR hnR hdis (fun H locs ls hP hD hS hl => ?_) k
  have hPc := hP.sub isC (x_fm hC)
  have hDc := hD.sub isC hnC hC
  exact va_runV (As := As) (rest := st) ⟨hx, hb, hml, hown, hts⟩ (hM H.size) cw ⟨x_blind, va_recv hK hPc hcl he, fun U hU hW => ⟨rfl, by rw [hU], by rw [hU]; exact hPc, va_K.moved hW.alike hK, hDc.weaken (fun _ _ _ _ => trivial)⟩⟩ rfl hlen hl.1 hst (lv_room hroom) hd hf
theorem x_gS (E : En p s m args c cc nL own Ts D cl tys A) {y : MethodName} {bytes : ByteArray} {maxL mc ms n index : Nat} {ret : Option FieldType} {wy : List Cond} {rm : Room} {wc wr : va_W} {P : Option Value → va_W → Prop}  (As : List Value) (hM : Cg l D cl tys y wy rm mc ms (As) wc P)  (cw : CallB R s args own index y bytes maxL ret wy rm mc ms n ∧ (Cond.static y).before args s = true) (isC isR : List Nat) (hC : isC.map (fun i => ws[i]?) = wc.map some) (hR : isR.map (fun i => ws[i]?) = wr.map some) (hnC : va_nd isC = true) (hnR : va_nd isR = true) (hdis : ∀ i ∈ isR, i ∉ isC) (hlen : As.length = n) (hroom : (st.map fun v => v.category).sum ≤ 8) (hd : decode cc pc = .ok (.invokestatic index, 3)) (hf : cells + mc ≤ R.cells ∧ slots + ms ≤ R.slots) {st0 : List Value} (hst : st0 = As.reverse ++ st)
    (k : ∀ (r : Option Value) (u : va_W), P r u → Xs p l e R s m args below meth c D cl A nL (cells + mc) (slots + ms) Q (wr ++ u) (lv) (pc + 3) (r.toList ++ st)) : Xs p l e R s m args below meth c D cl A nL cells slots Q (ws) (lv) (pc) (st0) := by
  obtain ⟨hx, hb, hml, hown, hts, hK, hA⟩ := E
  refine x_after (tys := tys) (mc := mc) (ms := ms) (a := (As).toArray) (rm := rm) hA isC isR hC hR hnR hdis (fun H locs ls hP hD hS hl => ?_) k
  have hPc := hP.sub isC (x_fm hC)
  have hDc := hD.sub isC hnC hC
  exact va_runS (As := As) (rest := st) ⟨hx, hb, hml, hown, hts⟩ (hM H.size) cw ⟨x_blind, fun U hU hW => ⟨rfl, by rw [hU], by rw [hU]; exact hPc, va_K.moved hW.alike hK, hDc.weaken (fun _ _ _ _ => trivial)⟩⟩ rfl hlen hl.1 hst (lv_room hroom) hd hf
theorem x_gVN (E : En p s m args c cc nL own Ts D cl tys A) {y : MethodName} {bytes : ByteArray} {maxL mc ms n index : Nat} {ret : Option FieldType} {wy : List Cond} {rm : Room} {wc wr : va_W} {P : Option Value → va_W → Prop} {b : Nat} {host : String} {C : String} {T : u_T} {N ci : Nat} {fs : List Value}  (As : List Value) (hM : Cg l D cl tys y wy rm mc ms (.ref b :: As) wc P) (q0 : Nat) (he : wc[q0]? = some (b, .inr (ci, fs))) (hcl : cl[ci]? = some (C, T, N)) (cw : va_CN R s args own index y host bytes maxL ret wy rm mc ms n ∧ (Cond.instanceMethod y).before args s = true ∧ (Cond.selects C y y).before args s = true) (isC isR : List Nat) (hC : isC.map (fun i => ws[i]?) = wc.map some) (hR : isR.map (fun i => ws[i]?) = wr.map some) (hnC : va_nd isC = true) (hnR : va_nd isR = true) (hdis : ∀ i ∈ isR, i ∉ isC) (hlen : As.length = n) (hroom : (st.map fun v => v.category).sum ≤ 8) (hd : decode cc pc = .ok (.invokevirtual index, 3)) (hf : cells + mc ≤ R.cells ∧ slots + ms ≤ R.slots) {st0 : List Value} (hst : st0 = As.reverse ++ .ref b :: st)
    (k : ∀ (r : Option Value) (u : va_W), P r u → Xs p l e R s m args below meth c D cl A nL (cells + mc) (slots + ms) Q (wr ++ u) (lv) (pc + 3) (r.toList ++ st)) : Xs p l e R s m args below meth c D cl A nL cells slots Q (ws) (lv) (pc) (st0) := by
  obtain ⟨hx, hb, hml, hown, hts, hK, hA⟩ := E
  refine x_after (tys := tys) (mc := mc) (ms := ms) (a := (.ref b :: As).toArray) (rm := rm) hA isC isR hC hR hnR hdis (fun H locs ls hP hD hS hl => ?_) k
  have hPc := hP.sub isC (x_fm hC)
  have hDc := hD.sub isC hnC hC
  exact va_runVN (As := As) (rest := st) ⟨hx, hb, hml, hown, hts⟩ (hM H.size) cw ⟨x_blind, va_recv hK hPc hcl he, fun U hU hW => ⟨rfl, by rw [hU], by rw [hU]; exact hPc, va_K.moved hW.alike hK, hDc.weaken (fun _ _ _ _ => trivial)⟩⟩ rfl hlen hl.1 hst (lv_room hroom) hd hf
theorem x_gSN (E : En p s m args c cc nL own Ts D cl tys A) {y : MethodName} {bytes : ByteArray} {maxL mc ms n index : Nat} {ret : Option FieldType} {wy : List Cond} {rm : Room} {wc wr : va_W} {P : Option Value → va_W → Prop} {host : String} (As : List Value) (hM : Cg l D cl tys y wy rm mc ms (As) wc P)  (cw : va_CN R s args own index y host bytes maxL ret wy rm mc ms n ∧ (Cond.static y).before args s = true ∧ True) (isC isR : List Nat) (hC : isC.map (fun i => ws[i]?) = wc.map some) (hR : isR.map (fun i => ws[i]?) = wr.map some) (hnC : va_nd isC = true) (hnR : va_nd isR = true) (hdis : ∀ i ∈ isR, i ∉ isC) (hlen : As.length = n) (hroom : (st.map fun v => v.category).sum ≤ 8) (hd : decode cc pc = .ok (.invokestatic index, 3)) (hf : cells + mc ≤ R.cells ∧ slots + ms ≤ R.slots) {st0 : List Value} (hst : st0 = As.reverse ++ st)
    (k : ∀ (r : Option Value) (u : va_W), P r u → Xs p l e R s m args below meth c D cl A nL (cells + mc) (slots + ms) Q (wr ++ u) (lv) (pc + 3) (r.toList ++ st)) : Xs p l e R s m args below meth c D cl A nL cells slots Q (ws) (lv) (pc) (st0) := by
  obtain ⟨hx, hb, hml, hown, hts, hK, hA⟩ := E
  refine x_after (tys := tys) (mc := mc) (ms := ms) (a := (As).toArray) (rm := rm) hA isC isR hC hR hnR hdis (fun H locs ls hP hD hS hl => ?_) k
  have hPc := hP.sub isC (x_fm hC)
  have hDc := hD.sub isC hnC hC
  exact va_runSN (As := As) (rest := st) ⟨hx, hb, hml, hown, hts⟩ (hM H.size) cw ⟨x_blind, fun U hU hW => ⟨rfl, by rw [hU], by rw [hU]; exact hPc, va_K.moved hW.alike hK, hDc.weaken (fun _ _ _ _ => trivial)⟩⟩ rfl hlen hl.1 hst (lv_room hroom) hd hf
theorem x_gI (E : En p s m args c cc nL own Ts D cl tys A) {y : MethodName} {bytes : ByteArray} {maxL mc ms n index : Nat} {ret : Option FieldType} {wy : List Cond} {rm : Room} {wc wr : va_W} {P : Option Value → va_W → Prop} {b : Nat}  (As : List Value) (hM : Cg l D cl tys y wy rm mc ms (.ref b :: As) wc P)  (cw : CallB R s args own index y bytes maxL none wy rm mc ms n ∧ y.name = "<init>" ∧ (Cond.instanceMethod y).before args s = true) (isC isR : List Nat) (hC : isC.map (fun i => ws[i]?) = wc.map some) (hR : isR.map (fun i => ws[i]?) = wr.map some) (hnC : va_nd isC = true) (hnR : va_nd isR = true) (hdis : ∀ i ∈ isR, i ∉ isC) (hlen : As.length = n) (hroom : (st.map fun v => v.category).sum ≤ 8) (hd : decode cc pc = .ok (.invokespecial index, 3)) (hf : cells + mc ≤ R.cells ∧ slots + ms ≤ R.slots) {st0 : List Value} (hst : st0 = As.reverse ++ .ref b :: st)
    (k : ∀ (r : Option Value) (u : va_W), P r u → Xs p l e R s m args below meth c D cl A nL (cells + mc) (slots + ms) Q (wr ++ u) (lv) (pc + 3) (r.toList ++ st)) : Xs p l e R s m args below meth c D cl A nL cells slots Q (ws) (lv) (pc) (st0) := by
  obtain ⟨hx, hb, hml, hown, hts, hK, hA⟩ := E
  refine x_after (tys := tys) (mc := mc) (ms := ms) (a := (.ref b :: As).toArray) (rm := rm) hA isC isR hC hR hnR hdis (fun H locs ls hP hD hS hl => ?_) k
  have hPc := hP.sub isC (x_fm hC)
  have hDc := hD.sub isC hnC hC
  exact va_runI (As := As) (rest := st) ⟨hx, hb, hml, hown, hts⟩ (hM H.size) cw ⟨x_blind, fun U hU hW => ⟨rfl, by rw [hU], by rw [hU]; exact hPc, va_K.moved hW.alike hK, hDc.weaken (fun _ _ _ _ => trivial)⟩⟩ rfl hlen hl.1 hst (lv_room hroom) hd hf
theorem x_gIN (E : En p s m args c cc nL own Ts D cl tys A) {y : MethodName} {bytes : ByteArray} {maxL mc ms n index : Nat} {ret : Option FieldType} {wy : List Cond} {rm : Room} {wc wr : va_W} {P : Option Value → va_W → Prop} {b : Nat} {host : String} (As : List Value) (hM : Cg l D cl tys y wy rm mc ms (.ref b :: As) wc P)  (cw : va_CN R s args own index y host bytes maxL none wy rm mc ms n ∧ y.name = "<init>" ∧ (Cond.instanceMethod y).before args s = true) (isC isR : List Nat) (hC : isC.map (fun i => ws[i]?) = wc.map some) (hR : isR.map (fun i => ws[i]?) = wr.map some) (hnC : va_nd isC = true) (hnR : va_nd isR = true) (hdis : ∀ i ∈ isR, i ∉ isC) (hlen : As.length = n) (hroom : (st.map fun v => v.category).sum ≤ 8) (hd : decode cc pc = .ok (.invokespecial index, 3)) (hf : cells + mc ≤ R.cells ∧ slots + ms ≤ R.slots) {st0 : List Value} (hst : st0 = As.reverse ++ .ref b :: st)
    (k : ∀ (r : Option Value) (u : va_W), P r u → Xs p l e R s m args below meth c D cl A nL (cells + mc) (slots + ms) Q (wr ++ u) (lv) (pc + 3) (r.toList ++ st)) : Xs p l e R s m args below meth c D cl A nL cells slots Q (ws) (lv) (pc) (st0) := by
  obtain ⟨hx, hb, hml, hown, hts, hK, hA⟩ := E
  refine x_after (tys := tys) (mc := mc) (ms := ms) (a := (.ref b :: As).toArray) (rm := rm) hA isC isR hC hR hnR hdis (fun H locs ls hP hD hS hl => ?_) k
  have hPc := hP.sub isC (x_fm hC)
  have hDc := hD.sub isC hnC hC
  exact va_runIN (As := As) (rest := st) ⟨hx, hb, hml, hown, hts⟩ (hM H.size) cw ⟨x_blind, fun U hU hW => ⟨rfl, by rw [hU], by rw [hU]; exact hPc, va_K.moved hW.alike hK, hDc.weaken (fun _ _ _ _ => trivial)⟩⟩ rfl hlen hl.1 hst (lv_room hroom) hd hf
theorem x_cV (E : En p s m args c cc nL own Ts D cl tys A) {y : MethodName} {bytes : ByteArray} {maxL n index : Nat} {ret : Option FieldType} {wy : List Cond} {rm : Room} {wc : va_W} {r0 : Option Value} {w1 : va_W} {b : Nat} {C : String} {T : u_T} {N ci : Nat} {fs : List Value}  (As st st1 : List Value) (ws' : va_W) (hM : Ct l D cl tys y wy rm (.ref b :: As) wc r0 w1) (q0 : Nat) (he : wc[q0]? = some (b, .inr (ci, fs))) (hcl : cl[ci]? = some (C, T, N)) (cw : CallW R s args own C index y bytes maxL ret wy rm 0 0 n) (isC isR : List Nat) (hC : isC.map (fun i => ws[i]?) = wc.map some) (hR : isR.map (fun i => ws[i]?) = (isR.filterMap (fun i => ws[i]?)).map some) (hnC : va_nd isC = true) (hnR : va_nd isR = true) (hdis : ∀ i ∈ isR, i ∉ isC) (ord : List Nat) (hno : va_nd ord = true) (hord : ord.map (fun i => (isR.filterMap (fun i => ws[i]?) ++ w1)[i]?) = ws'.map some) (hlen : As.length = n) (hroom : (st.map fun v => v.category).sum ≤ 8) (hd : decode cc pc = .ok (.invokevirtual index, 3)) (hf : cells ≤ R.cells ∧ slots ≤ R.slots) {st0 : List Value} (hst : st0 = As.reverse ++ .ref b :: st) (hst1 : r0.toList ++ st = st1)
    (k : Xs p l e R s m args below meth c D cl A nL cells slots Q (ws') (lv) (pc + 3) (st1)) : Xs p l e R s m args below meth c D cl A nL cells slots Q (ws) (lv) (pc) (st0) :=
  x_gV E As hM q0 he hcl cw isC isR hC hR hnC hnR hdis hlen hroom hd hf hst (fun r u hru => by
    obtain ⟨rfl, rfl⟩ := hru
    subst hst1
    exact x_perm ord hno hord k)
theorem x_cS (E : En p s m args c cc nL own Ts D cl tys A) {y : MethodName} {bytes : ByteArray} {maxL n index : Nat} {ret : Option FieldType} {wy : List Cond} {rm : Room} {wc : va_W} {r0 : Option Value} {w1 : va_W}  (As st st1 : List Value) (ws' : va_W) (hM : Ct l D cl tys y wy rm (As) wc r0 w1)  (cw : CallB R s args own index y bytes maxL ret wy rm 0 0 n ∧ (Cond.static y).before args s = true) (isC isR : List Nat) (hC : isC.map (fun i => ws[i]?) = wc.map some) (hR : isR.map (fun i => ws[i]?) = (isR.filterMap (fun i => ws[i]?)).map some) (hnC : va_nd isC = true) (hnR : va_nd isR = true) (hdis : ∀ i ∈ isR, i ∉ isC) (ord : List Nat) (hno : va_nd ord = true) (hord : ord.map (fun i => (isR.filterMap (fun i => ws[i]?) ++ w1)[i]?) = ws'.map some) (hlen : As.length = n) (hroom : (st.map fun v => v.category).sum ≤ 8) (hd : decode cc pc = .ok (.invokestatic index, 3)) (hf : cells ≤ R.cells ∧ slots ≤ R.slots) {st0 : List Value} (hst : st0 = As.reverse ++ st) (hst1 : r0.toList ++ st = st1)
    (k : Xs p l e R s m args below meth c D cl A nL cells slots Q (ws') (lv) (pc + 3) (st1)) : Xs p l e R s m args below meth c D cl A nL cells slots Q (ws) (lv) (pc) (st0) :=
  x_gS E As hM cw isC isR hC hR hnC hnR hdis hlen hroom hd hf hst (fun r u hru => by
    obtain ⟨rfl, rfl⟩ := hru
    subst hst1
    exact x_perm ord hno hord k)
theorem x_cVN (E : En p s m args c cc nL own Ts D cl tys A) {y : MethodName} {bytes : ByteArray} {maxL n index : Nat} {ret : Option FieldType} {wy : List Cond} {rm : Room} {wc : va_W} {r0 : Option Value} {w1 : va_W} {b : Nat} {host : String} {C : String} {T : u_T} {N ci : Nat} {fs : List Value}  (As st st1 : List Value) (ws' : va_W) (hM : Ct l D cl tys y wy rm (.ref b :: As) wc r0 w1) (q0 : Nat) (he : wc[q0]? = some (b, .inr (ci, fs))) (hcl : cl[ci]? = some (C, T, N)) (cw : va_CN R s args own index y host bytes maxL ret wy rm 0 0 n ∧ (Cond.instanceMethod y).before args s = true ∧ (Cond.selects C y y).before args s = true) (isC isR : List Nat) (hC : isC.map (fun i => ws[i]?) = wc.map some) (hR : isR.map (fun i => ws[i]?) = (isR.filterMap (fun i => ws[i]?)).map some) (hnC : va_nd isC = true) (hnR : va_nd isR = true) (hdis : ∀ i ∈ isR, i ∉ isC) (ord : List Nat) (hno : va_nd ord = true) (hord : ord.map (fun i => (isR.filterMap (fun i => ws[i]?) ++ w1)[i]?) = ws'.map some) (hlen : As.length = n) (hroom : (st.map fun v => v.category).sum ≤ 8) (hd : decode cc pc = .ok (.invokevirtual index, 3)) (hf : cells ≤ R.cells ∧ slots ≤ R.slots) {st0 : List Value} (hst : st0 = As.reverse ++ .ref b :: st) (hst1 : r0.toList ++ st = st1)
    (k : Xs p l e R s m args below meth c D cl A nL cells slots Q (ws') (lv) (pc + 3) (st1)) : Xs p l e R s m args below meth c D cl A nL cells slots Q (ws) (lv) (pc) (st0) :=
  x_gVN E As hM q0 he hcl cw isC isR hC hR hnC hnR hdis hlen hroom hd hf hst (fun r u hru => by
    obtain ⟨rfl, rfl⟩ := hru
    subst hst1
    exact x_perm ord hno hord k)
theorem x_cSN (E : En p s m args c cc nL own Ts D cl tys A) {y : MethodName} {bytes : ByteArray} {maxL n index : Nat} {ret : Option FieldType} {wy : List Cond} {rm : Room} {wc : va_W} {r0 : Option Value} {w1 : va_W} {host : String} (As st st1 : List Value) (ws' : va_W) (hM : Ct l D cl tys y wy rm (As) wc r0 w1)  (cw : va_CN R s args own index y host bytes maxL ret wy rm 0 0 n ∧ (Cond.static y).before args s = true ∧ True) (isC isR : List Nat) (hC : isC.map (fun i => ws[i]?) = wc.map some) (hR : isR.map (fun i => ws[i]?) = (isR.filterMap (fun i => ws[i]?)).map some) (hnC : va_nd isC = true) (hnR : va_nd isR = true) (hdis : ∀ i ∈ isR, i ∉ isC) (ord : List Nat) (hno : va_nd ord = true) (hord : ord.map (fun i => (isR.filterMap (fun i => ws[i]?) ++ w1)[i]?) = ws'.map some) (hlen : As.length = n) (hroom : (st.map fun v => v.category).sum ≤ 8) (hd : decode cc pc = .ok (.invokestatic index, 3)) (hf : cells ≤ R.cells ∧ slots ≤ R.slots) {st0 : List Value} (hst : st0 = As.reverse ++ st) (hst1 : r0.toList ++ st = st1)
    (k : Xs p l e R s m args below meth c D cl A nL cells slots Q (ws') (lv) (pc + 3) (st1)) : Xs p l e R s m args below meth c D cl A nL cells slots Q (ws) (lv) (pc) (st0) :=
  x_gSN E As hM cw isC isR hC hR hnC hnR hdis hlen hroom hd hf hst (fun r u hru => by
    obtain ⟨rfl, rfl⟩ := hru
    subst hst1
    exact x_perm ord hno hord k)
end XR
end
section
abbrev rmJ6_rotateLeft_7cf53 : Room := { frames := 0, cells := 0, slots := 0, locals := 0 }
abbrev rmX1_add : Room := { frames := 0, cells := 0, slots := 0, locals := 0 }
abbrev rmX1_addNumber : Room := { frames := 1, cells := 0, slots := 0, locals := 21 }
abbrev rmX1_agrees : Room := { frames := 1, cells := 0, slots := 0, locals := 21 }
abbrev rmX1_alter : Room := { frames := 0, cells := 0, slots := 0, locals := 0 }
abbrev rmX1_copyFrom : Room := { frames := 1, cells := 0, slots := 0, locals := 21 }
abbrev rmX1_cutTo : Room := { frames := 0, cells := 0, slots := 0, locals := 0 }
abbrev rmX1_dropFirst : Room := { frames := 1, cells := 0, slots := 0, locals := 60 }
abbrev rmX1_get : Room := { frames := 0, cells := 0, slots := 0, locals := 0 }
abbrev rmX1_hasRoomFor : Room := { frames := 0, cells := 0, slots := 0, locals := 0 }
abbrev rmX1_number : Room := { frames := 1, cells := 0, slots := 0, locals := 21 }
abbrev rmX1_size : Room := { frames := 0, cells := 0, slots := 0, locals := 0 }
abbrev rmX1_sumOf : Room := { frames := 1, cells := 0, slots := 0, locals := 21 }
theorem fl_X1_size_15 : Cond.fieldLink RX1 15 "MirrorLog$LogFile" "size" "I" ∈ wsX1_size := by decide +kernel
theorem ui_X1_size_X1 : ∀ w ∈ wsX10, w ∈ wsX1_size := by decide +kernel
theorem fl_X1_hasRoomFor_9 : Cond.fieldLink RX1 9 "MirrorLog$LogFile" "bytes" "[B" ∈ wsX1_hasRoomFor := by decide +kernel
theorem ui_X1_hasRoomFor_X1 : ∀ w ∈ wsX10, w ∈ wsX1_hasRoomFor := by decide +kernel
theorem fl_X1_hasRoomFor_15 : Cond.fieldLink RX1 15 "MirrorLog$LogFile" "size" "I" ∈ wsX1_hasRoomFor := by decide +kernel
theorem fl_X1_get_15 : Cond.fieldLink RX1 15 "MirrorLog$LogFile" "size" "I" ∈ wsX1_get := by decide +kernel
theorem ui_X1_get_X1 : ∀ w ∈ wsX10, w ∈ wsX1_get := by decide +kernel
theorem fl_X1_get_9 : Cond.fieldLink RX1 9 "MirrorLog$LogFile" "bytes" "[B" ∈ wsX1_get := by decide +kernel
theorem fl_X1_add_15 : Cond.fieldLink RX1 15 "MirrorLog$LogFile" "size" "I" ∈ wsX1_add := by decide +kernel
theorem ui_X1_add_X1 : ∀ w ∈ wsX10, w ∈ wsX1_add := by decide +kernel
theorem fl_X1_add_9 : Cond.fieldLink RX1 9 "MirrorLog$LogFile" "bytes" "[B" ∈ wsX1_add := by decide +kernel
theorem fl_X1_alter_15 : Cond.fieldLink RX1 15 "MirrorLog$LogFile" "size" "I" ∈ wsX1_alter := by decide +kernel
theorem ui_X1_alter_X1 : ∀ w ∈ wsX10, w ∈ wsX1_alter := by decide +kernel
theorem fl_X1_alter_9 : Cond.fieldLink RX1 9 "MirrorLog$LogFile" "bytes" "[B" ∈ wsX1_alter := by decide +kernel
theorem fl_X1_cutTo_15 : Cond.fieldLink RX1 15 "MirrorLog$LogFile" "size" "I" ∈ wsX1_cutTo := by decide +kernel
theorem ui_X1_cutTo_X1 : ∀ w ∈ wsX10, w ∈ wsX1_cutTo := by decide +kernel
theorem fl_X1_dropFirst_15 : Cond.fieldLink RX1 15 "MirrorLog$LogFile" "size" "I" ∈ wsX1_dropFirst := by decide +kernel
theorem ui_X1_dropFirst_X1 : ∀ w ∈ wsX10, w ∈ wsX1_dropFirst := by decide +kernel
theorem fl_X1_dropFirst_9 : Cond.fieldLink RX1 9 "MirrorLog$LogFile" "bytes" "[B" ∈ wsX1_dropFirst := by decide +kernel
theorem ac_X1_dropFirstl : Cond.methodLink RX1 34 arraycopyName ∈ wsX1_dropFirst := by decide +kernel
theorem ac_X1_dropFirstn : Cond.native arraycopyName ∈ wsX1_dropFirst := by decide +kernel
theorem ac_X1_dropFirsts : Cond.static arraycopyName ∈ wsX1_dropFirst := by decide +kernel
theorem ac_X1_dropFirsti : Cond.initialized "java/lang/System" ∈ wsX1_dropFirst := by decide +kernel
theorem cn_X1_sumOf_33 : Jvm.Cond.constant RX1 33 (668265263) ∈ wsX1_sumOf := by decide +kernel
theorem fl_X1_copyFrom_15 : Cond.fieldLink RX1 15 "MirrorLog$LogFile" "size" "I" ∈ wsX1_copyFrom := by decide +kernel
theorem ui_X1_copyFrom_X1 : ∀ w ∈ wsX10, w ∈ wsX1_copyFrom := by decide +kernel
theorem fl_X1_copyFrom_9 : Cond.fieldLink RX1 9 "MirrorLog$LogFile" "bytes" "[B" ∈ wsX1_copyFrom := by decide +kernel
/-! PURE: what the system computes -/
/-- a byte of a file of n bytes, or -1 -/
def gt (n : Nat) (g : Nat → UInt8) (k : Nat) : Int32 := if k < n then nI (g k).toNat else (-1)
/-- Integer.rotateLeft -/
def rol (x d : Int32) : Int32 := (x <<< (d &&& 31)) ||| (x.toUInt32 >>> ((-d).toUInt32 &&& Int32.toUInt32 31)).toInt32
/-- a sum with one byte more -/
def sm (s : Int32) (b : UInt8) : Int32 := rol (s ^^^ nI b.toNat) (nI 13) * nI 668265263
/-- a step a byte, k bytes from p on -/
def itG (f : Int32 → UInt8 → Int32) (g : Nat → UInt8) : Nat → Nat → Int32 → Int32
  | _, 0, s => s
  | p, k + 1, s => itG f g (p + 1) k (f s (g p))
/-- the sum of k bytes from p on, begun with s -/
def smG (g : Nat → UInt8) (p k : Nat) (s : Int32) : Int32 := itG sm g p k s
theorem itG_s (f : Int32 → UInt8 → Int32) (g : Nat → UInt8) (p k : Nat) (s : Int32) : itG f g p (k + 1) s = itG f g (p + 1) k (f s (g p)) := rfl
/-- k bytes from p on as a number, the highest first, behind v -/
def beG (g : Nat → UInt8) : Nat → Nat → Int32 → Int32
  | _, 0, v => v
  | p, k + 1, v => beG g (p + 1) k ((v <<< (nI 8 &&& 31)) ||| nI (g p).toNat)
/-- byte i, from the lowest on, of a number -/
def byt (v : Int32) (i : Nat) : UInt8 := u8 (v.toUInt32 >>> ((nI (8 * i)).toUInt32 &&& Int32.toUInt32 31)).toInt32
/-- bytes laid from p on -/
def app (g : Nat → UInt8) : Nat → List UInt8 → Nat → UInt8
  | _, [] => g
  | p, b :: r => app (va_up g p b) (p + 1) r
/-- w bytes of a number, the highest first -/
def beL (v : Int32) : Nat → List UInt8
  | 0 => []
  | w + 1 => byt v w :: beL v w
/-- whether two files have the same bytes, k from p on -/
def agr (n : Nat) (g : Nat → UInt8) (n2 : Nat) (g2 : Nat → UInt8) : Nat → Nat → Bool
  | _, 0 => true
  | p, k + 1 => if gt n g p = gt n2 g2 p then agr n g n2 g2 (p + 1) k else false
/-- copyFrom: size and bytes -/
def cpF (n2 : Nat) (g2 : Nat → UInt8) : Nat → Nat → Nat × (Nat → UInt8) → Nat × (Nat → UInt8)
  | _, 0, q => q
  | p, k + 1, (n, g) => cpF n2 g2 (p + 1) k (if p = n then (n + 1, va_up g n (u8 (gt n2 g2 p))) else if p < n then (n, va_up g p (u8 (gt n2 g2 p))) else (n, g))
theorem u8_b8 (x : Int32) : u8 x.toInt8.toInt32 = u8 x := by
  simp [u8]
theorem smG_s (g : Nat → UInt8) (p k : Nat) (s : Int32) : smG g p (k + 1) s = smG g (p + 1) k (sm s (g p)) := itG_s sm g p k s
theorem sm_e (s : Int32) (b : UInt8) : sm s b = rol (s ^^^ nI b.toNat) (nI 13) * nI 668265263 := rfl
theorem beG_s (g : Nat → UInt8) (p k : Nat) (v : Int32) : beG g p (k + 1) v = beG g (p + 1) k ((v <<< (nI 8 &&& 31)) ||| nI (g p).toNat) := rfl
theorem agr_s (n : Nat) (g : Nat → UInt8) (n2 : Nat) (g2 : Nat → UInt8) (p k : Nat) : agr n g n2 g2 p (k + 1) = if gt n g p = gt n2 g2 p then agr n g n2 g2 (p + 1) k else false := rfl
theorem cpF_s (n2 : Nat) (g2 : Nat → UInt8) (p k n : Nat) (g : Nat → UInt8) : cpF n2 g2 p (k + 1) (n, g) = cpF n2 g2 (p + 1) k (if p = n then (n + 1, va_up g n (u8 (gt n2 g2 p))) else if p < n then (n, va_up g p (u8 (gt n2 g2 p))) else (n, g)) := rfl
theorem nIp (k : Nat) : nI (k + 1) - nI 1 = nI k := pk_sub (Nat.le_add_left 1 k)
theorem nIm (x : Int32) : x + Int32.ofInt (-1) = x - nI 1 := by
  rw [Int32.sub_eq_add_neg]
  rfl
set_option maxRecDepth 100000 in
set_option maxHeartbeats 4000000 in
/-- Integer.rotateLeft -/
theorem c_J6_rotateLeft_7cf53 (l : Launch) (D : va_G) (cB cI cZ cJ : ClassId) (x : Int32) (d : Int32)  : Ct l D vwCl (tyl cB cI cZ cJ) yJ6_rotateLeft_7cf53 wsJ6_rotateLeft_7cf53 rmJ6_rotateLeft_7cf53 [.int x, .int d] [] (some (.int (rol x d))) [] := by
  refine x_start (cc := cJ6_rotateLeft_7cf53) (maxL := 2) (ret := (some .int)) (by decide) rfl (Nat.le_of_ble_eq_true rfl) ?_
  intro xp xe xs xm xb xt xc xA E hr hlocks hnm
  obtain ⟨-, -, -, hown, hts, hK, hA⟩ := id E
  refine x_lve (lv' := [(0, .int x), (1, .int d)]) rfl ?_
  refine x_iload_n E 0 dJ6_rotateLeft_7cf53_0 rfl ?_
  refine x_iload_n E 1 dJ6_rotateLeft_7cf53_1 rfl ?_
  refine x_ishl E dJ6_rotateLeft_7cf53_2 ?_
  refine x_iload_n E 0 dJ6_rotateLeft_7cf53_3 rfl ?_
  refine x_iload_n E 1 dJ6_rotateLeft_7cf53_4 rfl ?_
  refine x_ineg E dJ6_rotateLeft_7cf53_5 ?_
  refine x_iushr E dJ6_rotateLeft_7cf53_6 rfl ?_
  refine x_ior E dJ6_rotateLeft_7cf53_7 ?_
  exact x_iret E hr hlocks dJ6_rotateLeft_7cf53_8 ⟨rfl, rfl⟩
set_option maxRecDepth 100000 in
set_option maxHeartbeats 4000000 in
theorem c_X1_size (l : Launch) (D : va_G) (cB cI cZ cJ : ClassId) (a0 : Nat) (a1 : Nat) (n : Nat) (g : Nat → UInt8)  : Ct l D vwCl (tyl cB cI cZ cJ) yX1_size wsX1_size rmX1_size [.ref a0] [(a0, .inr (1, [.ref a1, .int (nI n)])), (a1, .inl (cB, 8192, .inl (bf g)))] (some (.int (nI n))) [(a0, .inr (1, [.ref a1, .int (nI n)])), (a1, .inl (cB, 8192, .inl (bf g)))] := by
  refine x_start (cc := cX1_size) (maxL := 1) (ret := (some .int)) (by decide) rfl (Nat.le_of_ble_eq_true rfl) ?_
  intro xp xe xs xm xb xt xc xA E hr hlocks hnm
  obtain ⟨-, -, -, hown, hts, hK, hA⟩ := id E
  refine x_lve (lv' := [(0, .ref a0)]) rfl ?_
  refine x_aload_n E 0 dX1_size_0 rfl ?_
  refine x_get E 0 1 dX1_size_1 ui_X1_size_X1 rfl rfl (by decide) fl_X1_size_15 rfl rfl ?_
  exact x_iret E hr hlocks dX1_size_4 ⟨rfl, rfl⟩
set_option maxRecDepth 100000 in
set_option maxHeartbeats 4000000 in
theorem c_X1_hasRoomFor (l : Launch) (D : va_G) (cB cI cZ cJ : ClassId) (a0 : Nat) (a1 : Nat) (n : Nat) (g : Nat → UInt8) (k : Nat) (hn : n ≤ 8192) (hk : k < 2 ^ 31) : Ct l D vwCl (tyl cB cI cZ cJ) yX1_hasRoomFor wsX1_hasRoomFor rmX1_hasRoomFor [.ref a0, .int (nI k)] [(a0, .inr (1, [.ref a1, .int (nI n)])), (a1, .inl (cB, 8192, .inl (bf g)))] (some (.int (if decide (n + k ≤ 8192) = true then 1 else 0))) [(a0, .inr (1, [.ref a1, .int (nI n)])), (a1, .inl (cB, 8192, .inl (bf g)))] := by
  refine x_start (cc := cX1_hasRoomFor) (maxL := 2) (ret := (some .boolean)) (by decide) rfl (Nat.le_of_ble_eq_true rfl) ?_
  intro xp xe xs xm xb xt xc xA E hr hlocks hnm
  obtain ⟨-, -, -, hown, hts, hK, hA⟩ := id E
  refine x_lve (lv' := [(0, .ref a0), (1, .int (nI k))]) rfl ?_
  refine x_iload_n E 1 dX1_hasRoomFor_0 rfl ?_
  refine x_aload_n E 0 dX1_hasRoomFor_1 rfl ?_
  refine x_get E 0 0 dX1_hasRoomFor_2 ui_X1_hasRoomFor_X1 rfl rfl (by decide) fl_X1_hasRoomFor_9 rfl rfl ?_
  refine x_alen E 1 0 8192 dX1_hasRoomFor_5 rfl rfl rfl ?_
  refine x_aload_n E 0 dX1_hasRoomFor_6 rfl ?_
  refine x_get E 0 1 dX1_hasRoomFor_7 ui_X1_hasRoomFor_X1 rfl rfl (by decide) fl_X1_hasRoomFor_15 rfl rfl ?_
  refine x_nisub E dX1_hasRoomFor_10 (by omega) ?_
  refine x_ncmp_gt E 18 dX1_hasRoomFor_11 (by decide) (by omega) (by omega) (fun h11 => ?_) (fun h11 => ?_)
  · refine x_iconst E (v := nI 0) dX1_hasRoomFor_18 (by decide) ?_
    exact x_zret E hr hlocks dX1_hasRoomFor_19 rfl ⟨q_f' (decide_eq_false (by omega)), rfl⟩
  · refine x_iconst E (v := nI 1) dX1_hasRoomFor_14 (by decide) ?_
    refine x_goto E 19 dX1_hasRoomFor_15 (by decide) ?_
    exact x_zret E hr hlocks dX1_hasRoomFor_19 rfl ⟨q_t' (decide_eq_true (by omega)), rfl⟩
set_option maxRecDepth 100000 in
set_option maxHeartbeats 4000000 in
theorem c_X1_get (l : Launch) (D : va_G) (cB cI cZ cJ : ClassId) (a0 : Nat) (a1 : Nat) (n : Nat) (g : Nat → UInt8) (k : Nat) (hn : n ≤ 8192) (hk : k < 2 ^ 31) : Ct l D vwCl (tyl cB cI cZ cJ) yX1_get wsX1_get rmX1_get [.ref a0, .int (nI k)] [(a0, .inr (1, [.ref a1, .int (nI n)])), (a1, .inl (cB, 8192, .inl (bf g)))] (some (.int (gt n g k))) [(a0, .inr (1, [.ref a1, .int (nI n)])), (a1, .inl (cB, 8192, .inl (bf g)))] := by
  refine x_start (cc := cX1_get) (maxL := 2) (ret := (some .int)) (by decide) rfl (Nat.le_of_ble_eq_true rfl) ?_
  intro xp xe xs xm xb xt xc xA E hr hlocks hnm
  obtain ⟨-, -, -, hown, hts, hK, hA⟩ := id E
  refine x_lve (lv' := [(0, .ref a0), (1, .int (nI k))]) rfl ?_
  refine x_iload_n E 1 dX1_get_0 rfl ?_
  refine x_nif_lt E 34 dX1_get_1 (by decide) (by omega) (fun h => absurd h (fun h => Nat.not_lt_zero _ h)) (fun h1 => ?_)
  refine x_iload_n E 1 dX1_get_4 rfl ?_
  refine x_aload_n E 0 dX1_get_5 rfl ?_
  refine x_get E 0 1 dX1_get_6 ui_X1_get_X1 rfl rfl (by decide) fl_X1_get_15 rfl rfl ?_
  refine x_ncmp_ge E 34 dX1_get_9 (by decide) (by omega) (by omega) (fun h9 => ?_) (fun h9 => ?_)
  · refine x_iconst E (v := (-1)) dX1_get_34 (by decide) ?_
    exact x_iret E hr hlocks dX1_get_35 ⟨by unfold gt; rw [if_neg (by omega)], rfl⟩
  · refine x_iload_n E 1 dX1_get_12 rfl ?_
    refine x_aload_n E 0 dX1_get_13 rfl ?_
    refine x_get E 0 0 dX1_get_14 ui_X1_get_X1 rfl rfl (by decide) fl_X1_get_9 rfl rfl ?_
    refine x_alen E 1 0 8192 dX1_get_17 rfl rfl rfl ?_
    refine x_ncmp_ge E 34 dX1_get_18 (by decide) (by omega) (by decide) (fun h18 => ?_) (fun h18 => ?_)
    · refine x_iconst E (v := (-1)) dX1_get_34 (by decide) ?_
      exact x_iret E hr hlocks dX1_get_35 ⟨by unfold gt; rw [if_neg (by omega)], rfl⟩
    · refine x_aload_n E 0 dX1_get_21 rfl ?_
      refine x_get E 0 0 dX1_get_22 ui_X1_get_X1 rfl rfl (by decide) fl_X1_get_9 rfl rfl ?_
      refine x_iload_n E 1 dX1_get_25 rfl ?_
      refine x_bald E 1 0 dX1_get_26 rfl rfl (by omega) (by decide) ?_
      refine x_sipush E (v := nI 255) dX1_get_27 (by decide) ?_
      refine x_iand' E dX1_get_30 (bf_n255 _ _) ?_
      refine x_goto E 35 dX1_get_31 (by decide) ?_
      exact x_iret E hr hlocks dX1_get_35 ⟨by unfold gt; rw [if_pos (by omega)], rfl⟩
set_option maxRecDepth 100000 in
set_option maxHeartbeats 4000000 in
theorem c_X1_get_in (l : Launch) (D : va_G) (cB cI cZ cJ : ClassId) (a0 : Nat) (a1 : Nat) (n : Nat) (g : Nat → UInt8) (k : Nat) (hn : n ≤ 8192) (hk : k < n) : Ct l D vwCl (tyl cB cI cZ cJ) yX1_get wsX1_get rmX1_get [.ref a0, .int (nI k)] [(a0, .inr (1, [.ref a1, .int (nI n)])), (a1, .inl (cB, 8192, .inl (bf g)))] (some (.int (nI ((g k).toNat)))) [(a0, .inr (1, [.ref a1, .int (nI n)])), (a1, .inl (cB, 8192, .inl (bf g)))] := by
  refine x_start (cc := cX1_get) (maxL := 2) (ret := (some .int)) (by decide) rfl (Nat.le_of_ble_eq_true rfl) ?_
  intro xp xe xs xm xb xt xc xA E hr hlocks hnm
  obtain ⟨-, -, -, hown, hts, hK, hA⟩ := id E
  refine x_lve (lv' := [(0, .ref a0), (1, .int (nI k))]) rfl ?_
  refine x_iload_n E 1 dX1_get_0 rfl ?_
  refine x_nif_lt E 34 dX1_get_1 (by decide) (by omega) (fun h => absurd h (fun h => Nat.not_lt_zero _ h)) (fun h1 => ?_)
  refine x_iload_n E 1 dX1_get_4 rfl ?_
  refine x_aload_n E 0 dX1_get_5 rfl ?_
  refine x_get E 0 1 dX1_get_6 ui_X1_get_X1 rfl rfl (by decide) fl_X1_get_15 rfl rfl ?_
  refine x_ncmp_ge E 34 dX1_get_9 (by decide) (by omega) (by omega) (fun h => False.elim (by omega)) (fun h9 => ?_)
  refine x_iload_n E 1 dX1_get_12 rfl ?_
  refine x_aload_n E 0 dX1_get_13 rfl ?_
  refine x_get E 0 0 dX1_get_14 ui_X1_get_X1 rfl rfl (by decide) fl_X1_get_9 rfl rfl ?_
  refine x_alen E 1 0 8192 dX1_get_17 rfl rfl rfl ?_
  refine x_ncmp_ge E 34 dX1_get_18 (by decide) (by omega) (by decide) (fun h => False.elim (by omega)) (fun h18 => ?_)
  refine x_aload_n E 0 dX1_get_21 rfl ?_
  refine x_get E 0 0 dX1_get_22 ui_X1_get_X1 rfl rfl (by decide) fl_X1_get_9 rfl rfl ?_
  refine x_iload_n E 1 dX1_get_25 rfl ?_
  refine x_bald E 1 0 dX1_get_26 rfl rfl (by omega) (by decide) ?_
  refine x_sipush E (v := nI 255) dX1_get_27 (by decide) ?_
  refine x_iand' E dX1_get_30 (bf_n255 _ _) ?_
  refine x_goto E 35 dX1_get_31 (by decide) ?_
  exact x_iret E hr hlocks dX1_get_35 ⟨rfl, rfl⟩
set_option maxRecDepth 100000 in
set_option maxHeartbeats 4000000 in
theorem c_X1_add (l : Launch) (D : va_G) (cB cI cZ cJ : ClassId) (a0 : Nat) (a1 : Nat) (n : Nat) (g : Nat → UInt8) (b : Int32) (hn : n < 8192) : Ct l D vwCl (tyl cB cI cZ cJ) yX1_add wsX1_add rmX1_add [.ref a0, .int b] [(a0, .inr (1, [.ref a1, .int (nI n)])), (a1, .inl (cB, 8192, .inl (bf g)))] none [(a0, .inr (1, [.ref a1, .int (nI (n + 1))])), (a1, .inl (cB, 8192, .inl (bf (va_up g n (u8 b)))))] := by
  refine x_start (cc := cX1_add) (maxL := 2) (ret := none) (by decide) rfl (Nat.le_of_ble_eq_true rfl) ?_
  intro xp xe xs xm xb xt xc xA E hr hlocks hnm
  obtain ⟨-, -, -, hown, hts, hK, hA⟩ := id E
  refine x_lve (lv' := [(0, .ref a0), (1, .int b)]) rfl ?_
  refine x_aload_n E 0 dX1_add_0 rfl ?_
  refine x_get E 0 1 dX1_add_1 ui_X1_add_X1 rfl rfl (by decide) fl_X1_add_15 rfl rfl ?_
  refine x_nif_lt E 40 dX1_add_4 (by decide) (by omega) (fun h => absurd h (fun h => Nat.not_lt_zero _ h)) (fun h4 => ?_)
  refine x_aload_n E 0 dX1_add_7 rfl ?_
  refine x_get E 0 1 dX1_add_8 ui_X1_add_X1 rfl rfl (by decide) fl_X1_add_15 rfl rfl ?_
  refine x_aload_n E 0 dX1_add_11 rfl ?_
  refine x_get E 0 0 dX1_add_12 ui_X1_add_X1 rfl rfl (by decide) fl_X1_add_9 rfl rfl ?_
  refine x_alen E 1 0 8192 dX1_add_15 rfl rfl rfl ?_
  refine x_ncmp_ge E 40 dX1_add_16 (by decide) (by omega) (by decide) (fun h => False.elim (by omega)) (fun h16 => ?_)
  refine x_aload_n E 0 dX1_add_19 rfl ?_
  refine x_get E 0 0 dX1_add_20 ui_X1_add_X1 rfl rfl (by decide) fl_X1_add_9 rfl rfl ?_
  refine x_aload_n E 0 dX1_add_23 rfl ?_
  refine x_get E 0 1 dX1_add_24 ui_X1_add_X1 rfl rfl (by decide) fl_X1_add_15 rfl rfl ?_
  refine x_iload_n E 1 dX1_add_27 rfl ?_
  refine x_i2b E dX1_add_28 ?_
  refine x_bast E 1 0 [(a0, .inr (1, [.ref a1, .int (nI n)])), (a1, .inl (cB, 8192, .inl (bf (va_up g n (u8 b)))))] dX1_add_29 rfl rfl (by omega) (by decide) (u8_b8 b) rfl ?_
  refine x_aload_n E 0 dX1_add_30 rfl ?_
  refine x_dup E dX1_add_31 rfl ?_
  refine x_get E 0 1 dX1_add_32 ui_X1_add_X1 rfl rfl (by decide) fl_X1_add_15 rfl rfl ?_
  refine x_iconst E (v := nI 1) dX1_add_35 (by decide) ?_
  refine x_niadd E dX1_add_36 ?_
  refine x_put E 0 1 [(a0, .inr (1, [.ref a1, .int (nI (n + 1))])), (a1, .inl (cB, 8192, .inl (bf (va_up g n (u8 b)))))] dX1_add_37 ui_X1_add_X1 tyX1_ok nmX1 rfl rfl (by decide) fl_X1_add_15 rfl rfl rfl rfl (Nat.le_of_ble_eq_true rfl) rfl ?_
  exact x_vret E hr hlocks dX1_add_40 ⟨rfl, rfl⟩
set_option maxRecDepth 100000 in
set_option maxHeartbeats 4000000 in
theorem c_X1_alter (l : Launch) (D : va_G) (cB cI cZ cJ : ClassId) (a0 : Nat) (a1 : Nat) (n : Nat) (g : Nat → UInt8) (k : Nat) (x : Int32) (hn : n ≤ 8192) (hk : k < n) : Ct l D vwCl (tyl cB cI cZ cJ) yX1_alter wsX1_alter rmX1_alter [.ref a0, .int (nI k), .int x] [(a0, .inr (1, [.ref a1, .int (nI n)])), (a1, .inl (cB, 8192, .inl (bf g)))] none [(a0, .inr (1, [.ref a1, .int (nI n)])), (a1, .inl (cB, 8192, .inl (bf (va_up g k (u8 (bf g k ^^^ x))))))] := by
  refine x_start (cc := cX1_alter) (maxL := 3) (ret := none) (by decide) rfl (Nat.le_of_ble_eq_true rfl) ?_
  intro xp xe xs xm xb xt xc xA E hr hlocks hnm
  obtain ⟨-, -, -, hown, hts, hK, hA⟩ := id E
  refine x_lve (lv' := [(0, .ref a0), (1, .int (nI k)), (2, .int x)]) rfl ?_
  refine x_iload_n E 1 dX1_alter_0 rfl ?_
  refine x_nif_lt E 36 dX1_alter_1 (by decide) (by omega) (fun h => absurd h (fun h => Nat.not_lt_zero _ h)) (fun h1 => ?_)
  refine x_iload_n E 1 dX1_alter_4 rfl ?_
  refine x_aload_n E 0 dX1_alter_5 rfl ?_
  refine x_get E 0 1 dX1_alter_6 ui_X1_alter_X1 rfl rfl (by decide) fl_X1_alter_15 rfl rfl ?_
  refine x_ncmp_ge E 36 dX1_alter_9 (by decide) (by omega) (by omega) (fun h => False.elim (by omega)) (fun h9 => ?_)
  refine x_iload_n E 1 dX1_alter_12 rfl ?_
  refine x_aload_n E 0 dX1_alter_13 rfl ?_
  refine x_get E 0 0 dX1_alter_14 ui_X1_alter_X1 rfl rfl (by decide) fl_X1_alter_9 rfl rfl ?_
  refine x_alen E 1 0 8192 dX1_alter_17 rfl rfl rfl ?_
  refine x_ncmp_ge E 36 dX1_alter_18 (by decide) (by omega) (by decide) (fun h => False.elim (by omega)) (fun h18 => ?_)
  refine x_aload_n E 0 dX1_alter_21 rfl ?_
  refine x_get E 0 0 dX1_alter_22 ui_X1_alter_X1 rfl rfl (by decide) fl_X1_alter_9 rfl rfl ?_
  refine x_iload_n E 1 dX1_alter_25 rfl ?_
  refine x_aload_n E 0 dX1_alter_26 rfl ?_
  refine x_get E 0 0 dX1_alter_27 ui_X1_alter_X1 rfl rfl (by decide) fl_X1_alter_9 rfl rfl ?_
  refine x_iload_n E 1 dX1_alter_30 rfl ?_
  refine x_bald E 1 0 dX1_alter_31 rfl rfl (by omega) (by decide) ?_
  refine x_iload_n E 2 dX1_alter_32 rfl ?_
  refine x_ixor E dX1_alter_33 ?_
  refine x_i2b E dX1_alter_34 ?_
  refine x_bast E 1 0 [(a0, .inr (1, [.ref a1, .int (nI n)])), (a1, .inl (cB, 8192, .inl (bf (va_up g k (u8 (bf g k ^^^ x))))))] dX1_alter_35 rfl rfl (by omega) (by decide) (u8_b8 _) rfl ?_
  exact x_vret E hr hlocks dX1_alter_36 ⟨rfl, rfl⟩
set_option maxRecDepth 100000 in
set_option maxHeartbeats 4000000 in
theorem c_X1_cutTo (l : Launch) (D : va_G) (cB cI cZ cJ : ClassId) (a0 : Nat) (a1 : Nat) (n : Nat) (g : Nat → UInt8) (k : Nat) (hn : n ≤ 8192) (hk : k < 2 ^ 31) : Ct l D vwCl (tyl cB cI cZ cJ) yX1_cutTo wsX1_cutTo rmX1_cutTo [.ref a0, .int (nI k)] [(a0, .inr (1, [.ref a1, .int (nI n)])), (a1, .inl (cB, 8192, .inl (bf g)))] none [(a0, .inr (1, [.ref a1, .int (nI (if k < n then k else n))])), (a1, .inl (cB, 8192, .inl (bf g)))] := by
  refine x_start (cc := cX1_cutTo) (maxL := 2) (ret := none) (by decide) rfl (Nat.le_of_ble_eq_true rfl) ?_
  intro xp xe xs xm xb xt xc xA E hr hlocks hnm
  obtain ⟨-, -, -, hown, hts, hK, hA⟩ := id E
  refine x_lve (lv' := [(0, .ref a0), (1, .int (nI k))]) rfl ?_
  refine x_iload_n E 1 dX1_cutTo_0 rfl ?_
  refine x_nif_lt E 17 dX1_cutTo_1 (by decide) (by omega) (fun h => absurd h (fun h => Nat.not_lt_zero _ h)) (fun h1 => ?_)
  refine x_iload_n E 1 dX1_cutTo_4 rfl ?_
  refine x_aload_n E 0 dX1_cutTo_5 rfl ?_
  refine x_get E 0 1 dX1_cutTo_6 ui_X1_cutTo_X1 rfl rfl (by decide) fl_X1_cutTo_15 rfl rfl ?_
  refine x_ncmp_ge E 17 dX1_cutTo_9 (by decide) (by omega) (by omega) (fun h9 => ?_) (fun h9 => ?_)
  · exact x_vret E hr hlocks dX1_cutTo_17 ⟨rfl, by rw [if_neg (by omega)]⟩
  · refine x_aload_n E 0 dX1_cutTo_12 rfl ?_
    refine x_iload_n E 1 dX1_cutTo_13 rfl ?_
    refine x_put E 0 1 [(a0, .inr (1, [.ref a1, .int (nI k)])), (a1, .inl (cB, 8192, .inl (bf g)))] dX1_cutTo_14 ui_X1_cutTo_X1 tyX1_ok nmX1 rfl rfl (by decide) fl_X1_cutTo_15 rfl rfl rfl rfl (Nat.le_of_ble_eq_true rfl) rfl ?_
    exact x_vret E hr hlocks dX1_cutTo_17 ⟨rfl, by rw [if_pos (by omega)]⟩
set_option maxRecDepth 100000 in
set_option maxHeartbeats 4000000 in
theorem c_X1_dropFirst (l : Launch) (D : va_G) (cB cI cZ cJ : ClassId) (a0 : Nat) (a1 : Nat) (n : Nat) (g : Nat → UInt8) (k : Nat) (hn : n ≤ 8192) (hk : k ≤ n) : Ct l D vwCl (tyl cB cI cZ cJ) yX1_dropFirst wsX1_dropFirst rmX1_dropFirst [.ref a0, .int (nI k)] [(a0, .inr (1, [.ref a1, .int (nI n)])), (a1, .inl (cB, 8192, .inl (bf g)))] none [(a0, .inr (1, [.ref a1, .int (nI (n - k))])), (a1, .inl (cB, 8192, .inl (bf (va_cpy g g k 0 (n - k)))))] := by
  refine x_start (cc := cX1_dropFirst) (maxL := 2) (ret := none) (by decide) rfl (Nat.le_of_ble_eq_true rfl) ?_
  intro xp xe xs xm xb xt xc xA E hr hlocks hnm
  obtain ⟨-, -, -, hown, hts, hK, hA⟩ := id E
  refine x_lve (lv' := [(0, .ref a0), (1, .int (nI k))]) rfl ?_
  refine x_iload_n E 1 dX1_dropFirst_0 rfl ?_
  refine x_nif_lt E 53 dX1_dropFirst_1 (by decide) (by omega) (fun h => absurd h (fun h => Nat.not_lt_zero _ h)) (fun h1 => ?_)
  refine x_iload_n E 1 dX1_dropFirst_4 rfl ?_
  refine x_aload_n E 0 dX1_dropFirst_5 rfl ?_
  refine x_get E 0 1 dX1_dropFirst_6 ui_X1_dropFirst_X1 rfl rfl (by decide) fl_X1_dropFirst_15 rfl rfl ?_
  refine x_ncmp_gt E 53 dX1_dropFirst_9 (by decide) (by omega) (by omega) (fun h => False.elim (by omega)) (fun h9 => ?_)
  refine x_aload_n E 0 dX1_dropFirst_12 rfl ?_
  refine x_get E 0 1 dX1_dropFirst_13 ui_X1_dropFirst_X1 rfl rfl (by decide) fl_X1_dropFirst_15 rfl rfl ?_
  refine x_aload_n E 0 dX1_dropFirst_16 rfl ?_
  refine x_get E 0 0 dX1_dropFirst_17 ui_X1_dropFirst_X1 rfl rfl (by decide) fl_X1_dropFirst_9 rfl rfl ?_
  refine x_alen E 1 0 8192 dX1_dropFirst_20 rfl rfl rfl ?_
  refine x_ncmp_gt E 53 dX1_dropFirst_21 (by decide) (by omega) (by decide) (fun h => False.elim (by omega)) (fun h21 => ?_)
  refine x_aload_n E 0 dX1_dropFirst_24 rfl ?_
  refine x_get E 0 0 dX1_dropFirst_25 ui_X1_dropFirst_X1 rfl rfl (by decide) fl_X1_dropFirst_9 rfl rfl ?_
  refine x_iload_n E 1 dX1_dropFirst_28 rfl ?_
  refine x_aload_n E 0 dX1_dropFirst_29 rfl ?_
  refine x_get E 0 0 dX1_dropFirst_30 ui_X1_dropFirst_X1 rfl rfl (by decide) fl_X1_dropFirst_9 rfl rfl ?_
  refine x_iconst E (v := nI 0) dX1_dropFirst_33 (by decide) ?_
  refine x_aload_n E 0 dX1_dropFirst_34 rfl ?_
  refine x_get E 0 1 dX1_dropFirst_35 ui_X1_dropFirst_X1 rfl rfl (by decide) fl_X1_dropFirst_15 rfl rfl ?_
  refine x_iload_n E 1 dX1_dropFirst_38 rfl ?_
  refine x_nisub E dX1_dropFirst_39 (by omega) ?_
  refine x_bcopy E 1 0 [(a0, .inr (1, [.ref a1, .int (nI n)])), (a1, .inl (cB, 8192, .inl (bf (va_cpy g g k 0 (n - k)))))] dX1_dropFirst_40 rfl rfl (by decide) (by omega) (by omega) ac_X1_dropFirstl ac_X1_dropFirstn ac_X1_dropFirsts ac_X1_dropFirsti (Nat.le_of_ble_eq_true rfl) (Nat.le_of_ble_eq_true rfl) rfl ?_
  refine x_aload_n E 0 dX1_dropFirst_43 rfl ?_
  refine x_dup E dX1_dropFirst_44 rfl ?_
  refine x_get E 0 1 dX1_dropFirst_45 ui_X1_dropFirst_X1 rfl rfl (by decide) fl_X1_dropFirst_15 rfl rfl ?_
  refine x_iload_n E 1 dX1_dropFirst_48 rfl ?_
  refine x_nisub E dX1_dropFirst_49 (by omega) ?_
  refine x_put E 0 1 [(a0, .inr (1, [.ref a1, .int (nI (n - k))])), (a1, .inl (cB, 8192, .inl (bf (va_cpy g g k 0 (n - k)))))] dX1_dropFirst_50 ui_X1_dropFirst_X1 tyX1_ok nmX1 rfl rfl (by decide) fl_X1_dropFirst_15 rfl rfl rfl rfl (Nat.le_of_ble_eq_true rfl) rfl ?_
  exact x_vret E hr hlocks dX1_dropFirst_53 ⟨rfl, rfl⟩
set_option maxRecDepth 100000 in
set_option maxHeartbeats 4000000 in
theorem c_X1_addNumber (l : Launch) (D : va_G) (cB cI cZ cJ : ClassId) (a0 : Nat) (a1 : Nat) (n : Nat) (g : Nat → UInt8) (v : Int32) (w : Nat) (hn : n + w ≤ 8192) : Ct l D vwCl (tyl cB cI cZ cJ) yX1_addNumber wsX1_addNumber rmX1_addNumber [.ref a0, .int v, .int (nI w)] [(a0, .inr (1, [.ref a1, .int (nI n)])), (a1, .inl (cB, 8192, .inl (bf g)))] none [(a0, .inr (1, [.ref a1, .int (nI (n + w))])), (a1, .inl (cB, 8192, .inl (bf (app g n (beL v w)))))] := by
  refine x_start (cc := cX1_addNumber) (maxL := 4) (ret := none) (by decide) rfl (Nat.le_of_ble_eq_true rfl) ?_
  intro xp xe xs xm xb xt xc xA E hr hlocks hnm
  obtain ⟨-, -, -, hown, hts, hK, hA⟩ := id E
  refine x_lve (lv' := [(0, .ref a0), (1, .int v), (2, .int (nI w))]) rfl ?_
  have loop : ∀ (k n' : Nat) (g' : Nat → UInt8), n' + k = n + w → app g' n' (beL v k) = app g n (beL v w) → Xs xp l xe rmX1_addNumber xs xm ([.ref a0, .int v, .int (nI w)] : List Value).toArray xb xt xc D vwCl xA 4 0 0 (MQ xb (CQ D vwCl (tyl cB cI cZ cJ) xA (fun r u => r = none ∧ u = [(a0, .inr (1, [.ref a1, .int (nI (n + w))])), (a1, .inl (cB, 8192, .inl (bf (app g n (beL v w)))))])) ([.ref a0, .int v, .int (nI w)] : List Value).toArray xs 0 0 xA) [(a0, .inr (1, [.ref a1, .int (nI n')])), (a1, .inl (cB, 8192, .inl (bf g')))] [(3, .int (nI k - nI 1)), (0, .ref a0), (1, .int v), (2, .int (nI w))] 4 [] := by
    intro k
    induction k with
    | zero =>
      intro n' g' h1 h2
      refine x_iload_n E 0 dX1_addNumber_4 rfl ?_
      refine x_if_lt E 24 dX1_addNumber_5 (by decide) (fun h5 => ?_) (fun h => absurd h (fun h => h (by decide)))
      exact x_vret E hr hlocks dX1_addNumber_24 ⟨rfl, by rw [← h2, ← h1]; rfl⟩
    | succ k ih =>
      intro n' g' h1 h2
      refine x_lve (lv' := [(3, .int (nI k)), (0, .ref a0), (1, .int v), (2, .int (nI w))]) (by rw [nIp]) ?_
      refine x_iload_n E 0 dX1_addNumber_4 rfl ?_
      refine x_nif_lt E 24 dX1_addNumber_5 (by decide) (by omega) (fun h => absurd h (fun h => Nat.not_lt_zero _ h)) (fun h5 => ?_)
      refine x_aload_n E 1 dX1_addNumber_8 rfl ?_
      refine x_iload_n E 2 dX1_addNumber_9 rfl ?_
      refine x_bipush E (v := nI 8) dX1_addNumber_10 (by decide) ?_
      refine x_iload_n E 0 dX1_addNumber_12 rfl ?_
      refine x_nimul E dX1_addNumber_13 ?_
      refine x_iushr E dX1_addNumber_14 rfl ?_
      refine x_cV E [.int ((v.toUInt32 >>> ((nI (8 * k)).toUInt32 &&& Int32.toUInt32 31)).toInt32)] [] [] [(a0, .inr (1, [.ref a1, .int (nI (n' + 1))])), (a1, .inl (cB, 8192, .inl (bf (va_up g' n' (u8 ((v.toUInt32 >>> ((nI (8 * k)).toUInt32 &&& Int32.toUInt32 31)).toInt32))))))] (c_X1_add l D cB cI cZ cJ a0 a1 n' g' ((v.toUInt32 >>> ((nI (8 * k)).toUInt32 &&& Int32.toUInt32 31)).toInt32) (by omega)) 0 rfl rfl (cwV 1 hts gX1_addNumber_X1_add rfl rfl rfl (by decide +kernel) ⟨Nat.le_of_ble_eq_true rfl, Nat.le_of_ble_eq_true rfl⟩) [0, 1] [] rfl rfl (by decide) (by decide) (by decide) [0, 1] (by decide) rfl rfl (Nat.le_of_ble_eq_true rfl) dX1_addNumber_15 ⟨Nat.zero_le _, Nat.zero_le _⟩ rfl rfl ?_
      refine x_iinc E 0 [(3, .int (nI k - nI 1)), (0, .ref a0), (1, .int v), (2, .int (nI w))] dX1_addNumber_18 rfl (nIm _) (by decide) rfl ?_
      refine x_goto E 4 dX1_addNumber_21 (by decide) ?_
      exact ih (n' + 1) _ (by omega) (by rw [← h2]; rfl)
  refine x_iload_n E 2 dX1_addNumber_0 rfl ?_
  refine x_iconst E (v := nI 1) dX1_addNumber_1 (by decide) ?_
  refine x_isub E dX1_addNumber_2 ?_
  refine x_istore_n E [(3, .int ((nI w) - (nI 1))), (0, .ref a0), (1, .int v), (2, .int (nI w))] dX1_addNumber_3 (by decide) rfl ?_
  exact loop w n g rfl rfl
set_option maxRecDepth 100000 in
set_option maxHeartbeats 4000000 in
theorem c_X1_number (l : Launch) (D : va_G) (cB cI cZ cJ : ClassId) (a0 : Nat) (a1 : Nat) (n : Nat) (g : Nat → UInt8) (p0 : Nat) (w : Nat) (hn : n ≤ 8192) (hp : p0 + w ≤ n) : Ct l D vwCl (tyl cB cI cZ cJ) yX1_number wsX1_number rmX1_number [.ref a0, .int (nI p0), .int (nI w)] [(a0, .inr (1, [.ref a1, .int (nI n)])), (a1, .inl (cB, 8192, .inl (bf g)))] (some (.int (beG g p0 w (nI 0)))) [(a0, .inr (1, [.ref a1, .int (nI n)])), (a1, .inl (cB, 8192, .inl (bf g)))] := by
  refine x_start (cc := cX1_number) (maxL := 5) (ret := (some .int)) (by decide) rfl (Nat.le_of_ble_eq_true rfl) ?_
  intro xp xe xs xm xb xt xc xA E hr hlocks hnm
  obtain ⟨-, -, -, hown, hts, hK, hA⟩ := id E
  refine x_lve (lv' := [(0, .ref a0), (1, .int (nI p0)), (2, .int (nI w))]) rfl ?_
  have loop : ∀ (k i : Nat) (v9 : Int32), i + k = w → beG g (p0 + i) k v9 = beG g p0 w (nI 0) → Xs xp l xe rmX1_number xs xm ([.ref a0, .int (nI p0), .int (nI w)] : List Value).toArray xb xt xc D vwCl xA 5 0 0 (MQ xb (CQ D vwCl (tyl cB cI cZ cJ) xA (fun r u => r = (some (.int (beG g p0 w (nI 0)))) ∧ u = [(a0, .inr (1, [.ref a1, .int (nI n)])), (a1, .inl (cB, 8192, .inl (bf g)))])) ([.ref a0, .int (nI p0), .int (nI w)] : List Value).toArray xs 0 0 xA) [(a0, .inr (1, [.ref a1, .int (nI n)])), (a1, .inl (cB, 8192, .inl (bf g)))] [(4, .int (nI i)), (3, .int v9), (0, .ref a0), (1, .int (nI p0)), (2, .int (nI w))] 5 [] := by
    intro k
    induction k with
    | zero =>
      intro i v9 h1 h2
      refine x_iload E 0 dX1_number_5 rfl ?_
      refine x_iload_n E 4 dX1_number_7 rfl ?_
      refine x_ncmp_ge E 35 dX1_number_8 (by decide) (by omega) (by omega) (fun h8 => ?_) (fun h => False.elim (by omega))
      refine x_iload_n E 1 dX1_number_35 rfl ?_
      exact x_iret E hr hlocks dX1_number_36 ⟨by rw [← h2]; rfl, rfl⟩
    | succ k ih =>
      intro i v9 h1 h2
      refine x_iload E 0 dX1_number_5 rfl ?_
      refine x_iload_n E 4 dX1_number_7 rfl ?_
      refine x_ncmp_ge E 35 dX1_number_8 (by decide) (by omega) (by omega) (fun h => False.elim (by omega)) (fun h8 => ?_)
      refine x_iload_n E 1 dX1_number_11 rfl ?_
      refine x_bipush E (v := nI 8) dX1_number_12 (by decide) ?_
      refine x_ishl E dX1_number_14 ?_
      refine x_aload_n E 2 dX1_number_15 rfl ?_
      refine x_iload_n E 3 dX1_number_16 rfl ?_
      refine x_iload E 0 dX1_number_17 rfl ?_
      refine x_niadd E dX1_number_19 ?_
      refine x_cV E [.int (nI (p0 + i))] [.int (v9 <<< ((nI 8) &&& 31))] [.int (nI ((g (p0 + i)).toNat)), .int (v9 <<< ((nI 8) &&& 31))] [(a0, .inr (1, [.ref a1, .int (nI n)])), (a1, .inl (cB, 8192, .inl (bf g)))] (c_X1_get_in l D cB cI cZ cJ a0 a1 n g (p0 + i) (by omega) (by omega)) 0 rfl rfl (cwV 1 hts gX1_number_X1_get rfl rfl rfl (by decide +kernel) ⟨Nat.le_of_ble_eq_true rfl, Nat.le_of_ble_eq_true rfl⟩) [0, 1] [] rfl rfl (by decide) (by decide) (by decide) [0, 1] (by decide) rfl rfl (Nat.le_of_ble_eq_true rfl) dX1_number_20 ⟨Nat.zero_le _, Nat.zero_le _⟩ rfl rfl ?_
      refine x_sipush E (v := nI 255) dX1_number_23 (by decide) ?_
      refine x_iand' E dX1_number_26 (u_n255 _) ?_
      refine x_ior E dX1_number_27 ?_
      refine x_istore_n E [(3, .int ((v9 <<< ((nI 8) &&& 31)) ||| (nI ((g (p0 + i)).toNat)))), (4, .int (nI i)), (0, .ref a0), (1, .int (nI p0)), (2, .int (nI w))] dX1_number_28 (by decide) rfl ?_
      refine x_iinc E 1 [(4, .int (nI (i + 1))), (3, .int ((v9 <<< ((nI 8) &&& 31)) ||| (nI ((g (p0 + i)).toNat)))), (0, .ref a0), (1, .int (nI p0)), (2, .int (nI w))] dX1_number_29 rfl (nI_add _ _) (by decide) rfl ?_
      refine x_goto E 5 dX1_number_32 (by decide) ?_
      exact ih (i + 1) _ (by omega) (by rw [← h2, beG_s]; rfl)
  refine x_iconst E (v := nI 0) dX1_number_0 (by decide) ?_
  refine x_istore_n E [(3, .int (nI 0)), (0, .ref a0), (1, .int (nI p0)), (2, .int (nI w))] dX1_number_1 (by decide) rfl ?_
  refine x_iconst E (v := nI 0) dX1_number_2 (by decide) ?_
  refine x_istore E [(4, .int (nI 0)), (3, .int (nI 0)), (0, .ref a0), (1, .int (nI p0)), (2, .int (nI w))] dX1_number_3 (by decide) rfl ?_
  exact loop w 0 (nI 0) (by omega) rfl
set_option maxRecDepth 100000 in
set_option maxHeartbeats 4000000 in
theorem c_X1_sumOf (l : Launch) (D : va_G) (cB cI cZ cJ : ClassId) (a0 : Nat) (a1 : Nat) (n : Nat) (g : Nat → UInt8) (p0 : Nat) (q0 : Nat) (b : Int32) (hn : n ≤ 8192) (hp : p0 ≤ q0) (hq : q0 ≤ n) : Ct l D vwCl (tyl cB cI cZ cJ) yX1_sumOf wsX1_sumOf rmX1_sumOf [.ref a0, .int (nI p0), .int (nI q0), .int b] [(a0, .inr (1, [.ref a1, .int (nI n)])), (a1, .inl (cB, 8192, .inl (bf g)))] (some (.int (smG g p0 (q0 - p0) b))) [(a0, .inr (1, [.ref a1, .int (nI n)])), (a1, .inl (cB, 8192, .inl (bf g)))] := by
  refine x_start (cc := cX1_sumOf) (maxL := 6) (ret := (some .int)) (by decide) rfl (Nat.le_of_ble_eq_true rfl) ?_
  intro xp xe xs xm xb xt xc xA E hr hlocks hnm
  obtain ⟨-, -, -, hown, hts, hK, hA⟩ := id E
  refine x_lve (lv' := [(0, .ref a0), (1, .int (nI p0)), (2, .int (nI q0)), (3, .int b)]) rfl ?_
  have loop : ∀ (k i : Nat) (v9 : Int32), i + k = q0 → smG g i k v9 = smG g p0 (q0 - p0) b → Xs xp l xe rmX1_sumOf xs xm ([.ref a0, .int (nI p0), .int (nI q0), .int b] : List Value).toArray xb xt xc D vwCl xA 6 0 0 (MQ xb (CQ D vwCl (tyl cB cI cZ cJ) xA (fun r u => r = (some (.int (smG g p0 (q0 - p0) b))) ∧ u = [(a0, .inr (1, [.ref a1, .int (nI n)])), (a1, .inl (cB, 8192, .inl (bf g)))])) ([.ref a0, .int (nI p0), .int (nI q0), .int b] : List Value).toArray xs 0 0 xA) [(a0, .inr (1, [.ref a1, .int (nI n)])), (a1, .inl (cB, 8192, .inl (bf g)))] [(5, .int (nI i)), (4, .int v9), (0, .ref a0), (1, .int (nI p0)), (2, .int (nI q0)), (3, .int b)] 6 [] := by
    intro k
    induction k with
    | zero =>
      intro i v9 h1 h2
      refine x_iload E 0 dX1_sumOf_6 rfl ?_
      refine x_iload_n E 4 dX1_sumOf_8 rfl ?_
      refine x_ncmp_ge E 41 dX1_sumOf_9 (by decide) (by omega) (by omega) (fun h9 => ?_) (fun h => False.elim (by omega))
      refine x_iload E 1 dX1_sumOf_41 rfl ?_
      exact x_iret E hr hlocks dX1_sumOf_43 ⟨by rw [← h2]; rfl, rfl⟩
    | succ k ih =>
      intro i v9 h1 h2
      refine x_iload E 0 dX1_sumOf_6 rfl ?_
      refine x_iload_n E 4 dX1_sumOf_8 rfl ?_
      refine x_ncmp_ge E 41 dX1_sumOf_9 (by decide) (by omega) (by omega) (fun h => False.elim (by omega)) (fun h9 => ?_)
      refine x_iload E 1 dX1_sumOf_12 rfl ?_
      refine x_aload_n E 2 dX1_sumOf_14 rfl ?_
      refine x_iload E 0 dX1_sumOf_15 rfl ?_
      refine x_cV E [.int (nI i)] [.int v9] [.int (nI ((g i).toNat)), .int v9] [(a0, .inr (1, [.ref a1, .int (nI n)])), (a1, .inl (cB, 8192, .inl (bf g)))] (c_X1_get_in l D cB cI cZ cJ a0 a1 n g i (by omega) (by omega)) 0 rfl rfl (cwV 1 hts gX1_sumOf_X1_get rfl rfl rfl (by decide +kernel) ⟨Nat.le_of_ble_eq_true rfl, Nat.le_of_ble_eq_true rfl⟩) [0, 1] [] rfl rfl (by decide) (by decide) (by decide) [0, 1] (by decide) rfl rfl (Nat.le_of_ble_eq_true rfl) dX1_sumOf_17 ⟨Nat.zero_le _, Nat.zero_le _⟩ rfl rfl ?_
      refine x_sipush E (v := nI 255) dX1_sumOf_20 (by decide) ?_
      refine x_iand' E dX1_sumOf_23 (u_n255 _) ?_
      refine x_ixor E dX1_sumOf_24 ?_
      refine x_bipush E (v := nI 13) dX1_sumOf_25 (by decide) ?_
      refine x_cS E [.int (v9 ^^^ (nI ((g i).toNat))), .int (nI 13)] [] [.int (rol (v9 ^^^ (nI ((g i).toNat))) (nI 13))] [(a0, .inr (1, [.ref a1, .int (nI n)])), (a1, .inl (cB, 8192, .inl (bf g)))] (c_J6_rotateLeft_7cf53 l D cB cI cZ cJ (v9 ^^^ (nI ((g i).toNat))) (nI 13) ) (va_cwS 2 hts gX1_sumOf_J6_rotateLeft_7cf53 rfl rfl rfl (by decide +kernel) ⟨Nat.le_of_ble_eq_true rfl, Nat.le_of_ble_eq_true rfl⟩) [] [0, 1] rfl rfl (by decide) (by decide) (by decide) [0, 1] (by decide) rfl rfl (Nat.le_of_ble_eq_true rfl) dX1_sumOf_27 ⟨Nat.zero_le _, Nat.zero_le _⟩ rfl rfl ?_
      refine x_ldc E (v := nI 668265263) dX1_sumOf_30 cn_X1_sumOf_33 (by decide +kernel) ?_
      refine x_imul E dX1_sumOf_32 ?_
      refine x_istore E [(4, .int ((rol (v9 ^^^ (nI ((g i).toNat))) (nI 13)) * (nI 668265263))), (5, .int (nI i)), (0, .ref a0), (1, .int (nI p0)), (2, .int (nI q0)), (3, .int b)] dX1_sumOf_33 (by decide) rfl ?_
      refine x_iinc E 1 [(5, .int (nI (i + 1))), (4, .int ((rol (v9 ^^^ (nI ((g i).toNat))) (nI 13)) * (nI 668265263))), (0, .ref a0), (1, .int (nI p0)), (2, .int (nI q0)), (3, .int b)] dX1_sumOf_35 rfl (nI_add _ _) (by decide) rfl ?_
      refine x_goto E 6 dX1_sumOf_38 (by decide) ?_
      exact ih (i + 1) _ (by omega) (by rw [← h2, smG_s, sm_e])
  refine x_iload_n E 3 dX1_sumOf_0 rfl ?_
  refine x_istore E [(4, .int b), (0, .ref a0), (1, .int (nI p0)), (2, .int (nI q0)), (3, .int b)] dX1_sumOf_1 (by decide) rfl ?_
  refine x_iload_n E 2 dX1_sumOf_3 rfl ?_
  refine x_istore E [(5, .int (nI p0)), (4, .int b), (0, .ref a0), (1, .int (nI p0)), (2, .int (nI q0)), (3, .int b)] dX1_sumOf_4 (by decide) rfl ?_
  exact loop (q0 - p0) p0 b (by omega) rfl
set_option maxRecDepth 100000 in
set_option maxHeartbeats 4000000 in
theorem c_X1_agrees (l : Launch) (D : va_G) (cB cI cZ cJ : ClassId) (a0 : Nat) (a1 : Nat) (n : Nat) (g : Nat → UInt8) (b0 : Nat) (b1 : Nat) (n2 : Nat) (g2 : Nat → UInt8) (p0 : Nat) (q0 : Nat) (hn : n ≤ 8192) (hn2 : n2 ≤ 8192) (hp : p0 ≤ q0) (hq : q0 < 2 ^ 31) : Ct l D vwCl (tyl cB cI cZ cJ) yX1_agrees wsX1_agrees rmX1_agrees [.ref a0, .ref b0, .int (nI p0), .int (nI q0)] [(a0, .inr (1, [.ref a1, .int (nI n)])), (a1, .inl (cB, 8192, .inl (bf g))), (b0, .inr (1, [.ref b1, .int (nI n2)])), (b1, .inl (cB, 8192, .inl (bf g2)))] (some (.int (if agr n g n2 g2 p0 (q0 - p0) = true then 1 else 0))) [(a0, .inr (1, [.ref a1, .int (nI n)])), (a1, .inl (cB, 8192, .inl (bf g))), (b0, .inr (1, [.ref b1, .int (nI n2)])), (b1, .inl (cB, 8192, .inl (bf g2)))] := by
  refine x_start (cc := cX1_agrees) (maxL := 5) (ret := (some .boolean)) (by decide) rfl (Nat.le_of_ble_eq_true rfl) ?_
  intro xp xe xs xm xb xt xc xA E hr hlocks hnm
  obtain ⟨-, -, -, hown, hts, hK, hA⟩ := id E
  refine x_lve (lv' := [(0, .ref a0), (1, .ref b0), (2, .int (nI p0)), (3, .int (nI q0))]) rfl ?_
  have loop : ∀ (k i : Nat), i + k = q0 → agr n g n2 g2 i k = agr n g n2 g2 p0 (q0 - p0) → Xs xp l xe rmX1_agrees xs xm ([.ref a0, .ref b0, .int (nI p0), .int (nI q0)] : List Value).toArray xb xt xc D vwCl xA 5 0 0 (MQ xb (CQ D vwCl (tyl cB cI cZ cJ) xA (fun r u => r = (some (.int (if agr n g n2 g2 p0 (q0 - p0) = true then 1 else 0))) ∧ u = [(a0, .inr (1, [.ref a1, .int (nI n)])), (a1, .inl (cB, 8192, .inl (bf g))), (b0, .inr (1, [.ref b1, .int (nI n2)])), (b1, .inl (cB, 8192, .inl (bf g2)))])) ([.ref a0, .ref b0, .int (nI p0), .int (nI q0)] : List Value).toArray xs 0 0 xA) [(a0, .inr (1, [.ref a1, .int (nI n)])), (a1, .inl (cB, 8192, .inl (bf g))), (b0, .inr (1, [.ref b1, .int (nI n2)])), (b1, .inl (cB, 8192, .inl (bf g2)))] [(4, .int (nI i)), (0, .ref a0), (1, .ref b0), (2, .int (nI p0)), (3, .int (nI q0))] 3 [] := by
    intro k
    induction k with
    | zero =>
      intro i h1 h2
      refine x_iload E 0 dX1_agrees_3 rfl ?_
      refine x_iload_n E 4 dX1_agrees_5 rfl ?_
      refine x_ncmp_ge E 32 dX1_agrees_6 (by decide) (by omega) (by omega) (fun h6 => ?_) (fun h => False.elim (by omega))
      refine x_iconst E (v := nI 1) dX1_agrees_32 (by decide) ?_
      exact x_zret E hr hlocks dX1_agrees_33 rfl ⟨q_t' h2.symm, rfl⟩
    | succ k ih =>
      intro i h1 h2
      refine x_iload E 0 dX1_agrees_3 rfl ?_
      refine x_iload_n E 4 dX1_agrees_5 rfl ?_
      refine x_ncmp_ge E 32 dX1_agrees_6 (by decide) (by omega) (by omega) (fun h => False.elim (by omega)) (fun h6 => ?_)
      refine x_aload_n E 1 dX1_agrees_9 rfl ?_
      refine x_iload E 0 dX1_agrees_10 rfl ?_
      refine x_cV E [.int (nI i)] [] [.int (gt n g i)] [(a0, .inr (1, [.ref a1, .int (nI n)])), (a1, .inl (cB, 8192, .inl (bf g))), (b0, .inr (1, [.ref b1, .int (nI n2)])), (b1, .inl (cB, 8192, .inl (bf g2)))] (c_X1_get l D cB cI cZ cJ a0 a1 n g i (by omega) (by omega)) 0 rfl rfl (cwV 1 hts gX1_agrees_X1_get rfl rfl rfl (by decide +kernel) ⟨Nat.le_of_ble_eq_true rfl, Nat.le_of_ble_eq_true rfl⟩) [0, 1] [2, 3] rfl rfl (by decide) (by decide) (by decide) [2, 3, 0, 1] (by decide) rfl rfl (Nat.le_of_ble_eq_true rfl) dX1_agrees_12 ⟨Nat.zero_le _, Nat.zero_le _⟩ rfl rfl ?_
      refine x_aload_n E 2 dX1_agrees_15 rfl ?_
      refine x_iload E 0 dX1_agrees_16 rfl ?_
      refine x_cV E [.int (nI i)] [.int (gt n g i)] [.int (gt n2 g2 i), .int (gt n g i)] [(a0, .inr (1, [.ref a1, .int (nI n)])), (a1, .inl (cB, 8192, .inl (bf g))), (b0, .inr (1, [.ref b1, .int (nI n2)])), (b1, .inl (cB, 8192, .inl (bf g2)))] (c_X1_get l D cB cI cZ cJ b0 b1 n2 g2 i (by omega) (by omega)) 0 rfl rfl (cwV 1 hts gX1_agrees_X1_get rfl rfl rfl (by decide +kernel) ⟨Nat.le_of_ble_eq_true rfl, Nat.le_of_ble_eq_true rfl⟩) [2, 3] [0, 1] rfl rfl (by decide) (by decide) (by decide) [0, 1, 2, 3] (by decide) rfl rfl (Nat.le_of_ble_eq_true rfl) dX1_agrees_18 ⟨Nat.zero_le _, Nat.zero_le _⟩ rfl rfl ?_
      refine x_icmp_eq E 26 dX1_agrees_21 (by decide) (fun h21 => ?_) (fun h21 => ?_)
      · refine x_iinc E 0 [(4, .int (nI (i + 1))), (0, .ref a0), (1, .ref b0), (2, .int (nI p0)), (3, .int (nI q0))] dX1_agrees_26 rfl (nI_add _ _) (by decide) rfl ?_
        refine x_goto E 3 dX1_agrees_29 (by decide) ?_
        exact ih (i + 1) (by omega) (by rw [← h2, agr_s, if_pos h21])
      · refine x_iconst E (v := nI 0) dX1_agrees_24 (by decide) ?_
        exact x_zret E hr hlocks dX1_agrees_25 rfl ⟨q_f' (by rw [← h2, agr_s, if_neg h21]), rfl⟩
  refine x_iload_n E 2 dX1_agrees_0 rfl ?_
  refine x_istore E [(4, .int (nI p0)), (0, .ref a0), (1, .ref b0), (2, .int (nI p0)), (3, .int (nI q0))] dX1_agrees_1 (by decide) rfl ?_
  exact loop (q0 - p0) p0 (by omega) rfl
set_option maxRecDepth 100000 in
set_option maxHeartbeats 4000000 in
theorem c_X1_copyFrom (l : Launch) (D : va_G) (cB cI cZ cJ : ClassId) (a0 : Nat) (a1 : Nat) (n : Nat) (g : Nat → UInt8) (b0 : Nat) (b1 : Nat) (n2 : Nat) (g2 : Nat → UInt8) (p0 : Nat) (q0 : Nat) (hn : n ≤ 8192) (hn2 : n2 ≤ 8192) (hp : p0 ≤ q0) (hq : q0 ≤ 8192) : Ct l D vwCl (tyl cB cI cZ cJ) yX1_copyFrom wsX1_copyFrom rmX1_copyFrom [.ref a0, .ref b0, .int (nI p0), .int (nI q0)] [(a0, .inr (1, [.ref a1, .int (nI n)])), (a1, .inl (cB, 8192, .inl (bf g))), (b0, .inr (1, [.ref b1, .int (nI n2)])), (b1, .inl (cB, 8192, .inl (bf g2)))] none [(a0, .inr (1, [.ref a1, .int (nI ((cpF n2 g2 p0 (q0 - p0) (n, g)).1))])), (a1, .inl (cB, 8192, .inl (bf ((cpF n2 g2 p0 (q0 - p0) (n, g)).2)))), (b0, .inr (1, [.ref b1, .int (nI n2)])), (b1, .inl (cB, 8192, .inl (bf g2)))] := by
  refine x_start (cc := cX1_copyFrom) (maxL := 5) (ret := none) (by decide) rfl (Nat.le_of_ble_eq_true rfl) ?_
  intro xp xe xs xm xb xt xc xA E hr hlocks hnm
  obtain ⟨-, -, -, hown, hts, hK, hA⟩ := id E
  refine x_lve (lv' := [(0, .ref a0), (1, .ref b0), (2, .int (nI p0)), (3, .int (nI q0))]) rfl ?_
  have loop : ∀ (k i n' : Nat) (g' : Nat → UInt8), i + k = q0 → n' ≤ 8192 → cpF n2 g2 i k (n', g') = cpF n2 g2 p0 (q0 - p0) (n, g) → Xs xp l xe rmX1_copyFrom xs xm ([.ref a0, .ref b0, .int (nI p0), .int (nI q0)] : List Value).toArray xb xt xc D vwCl xA 5 0 0 (MQ xb (CQ D vwCl (tyl cB cI cZ cJ) xA (fun r u => r = none ∧ u = [(a0, .inr (1, [.ref a1, .int (nI ((cpF n2 g2 p0 (q0 - p0) (n, g)).1))])), (a1, .inl (cB, 8192, .inl (bf ((cpF n2 g2 p0 (q0 - p0) (n, g)).2)))), (b0, .inr (1, [.ref b1, .int (nI n2)])), (b1, .inl (cB, 8192, .inl (bf g2)))])) ([.ref a0, .ref b0, .int (nI p0), .int (nI q0)] : List Value).toArray xs 0 0 xA) [(a0, .inr (1, [.ref a1, .int (nI n')])), (a1, .inl (cB, 8192, .inl (bf g'))), (b0, .inr (1, [.ref b1, .int (nI n2)])), (b1, .inl (cB, 8192, .inl (bf g2)))] [(4, .int (nI i)), (0, .ref a0), (1, .ref b0), (2, .int (nI p0)), (3, .int (nI q0))] 3 [] := by
    intro k
    induction k with
    | zero =>
      intro i n' g' h1 hn' h2
      refine x_iload E 0 dX1_copyFrom_3 rfl ?_
      refine x_iload_n E 4 dX1_copyFrom_5 rfl ?_
      refine x_ncmp_ge E 75 dX1_copyFrom_6 (by decide) (by omega) (by omega) (fun h6 => ?_) (fun h => False.elim (by omega))
      exact x_vret E hr hlocks dX1_copyFrom_75 ⟨rfl, by rw [← h2]; rfl⟩
    | succ k ih =>
      intro i n' g' h1 hn' h2
      refine x_iload E 0 dX1_copyFrom_3 rfl ?_
      refine x_iload_n E 4 dX1_copyFrom_5 rfl ?_
      refine x_ncmp_ge E 75 dX1_copyFrom_6 (by decide) (by omega) (by omega) (fun h => False.elim (by omega)) (fun h6 => ?_)
      refine x_iload E 0 dX1_copyFrom_9 rfl ?_
      refine x_aload_n E 1 dX1_copyFrom_11 rfl ?_
      refine x_get E 0 1 dX1_copyFrom_12 ui_X1_copyFrom_X1 rfl rfl (by decide) fl_X1_copyFrom_15 rfl rfl ?_
      refine x_ncmp_ne E 31 dX1_copyFrom_15 (by decide) (by omega) (by omega) (fun h15 => ?_) (fun h15 => ?_)
      · refine x_iload E 0 dX1_copyFrom_31 rfl ?_
        refine x_nif_lt E 69 dX1_copyFrom_33 (by decide) (by omega) (fun h => absurd h (fun h => Nat.not_lt_zero _ h)) (fun h33 => ?_)
        refine x_iload E 0 dX1_copyFrom_36 rfl ?_
        refine x_aload_n E 1 dX1_copyFrom_38 rfl ?_
        refine x_get E 0 1 dX1_copyFrom_39 ui_X1_copyFrom_X1 rfl rfl (by decide) fl_X1_copyFrom_15 rfl rfl ?_
        refine x_ncmp_ge E 69 dX1_copyFrom_42 (by decide) (by omega) (by omega) (fun h42 => ?_) (fun h42 => ?_)
        · refine x_iinc E 0 [(4, .int (nI (i + 1))), (0, .ref a0), (1, .ref b0), (2, .int (nI p0)), (3, .int (nI q0))] dX1_copyFrom_69 rfl (nI_add _ _) (by decide) rfl ?_
          refine x_goto E 3 dX1_copyFrom_72 (by decide) ?_
          exact ih (i + 1) n' g' (by omega) (by omega) (by rw [← h2, cpF_s, if_neg h15, if_neg (by omega)])
        · refine x_iload E 0 dX1_copyFrom_45 rfl ?_
          refine x_aload_n E 1 dX1_copyFrom_47 rfl ?_
          refine x_get E 0 0 dX1_copyFrom_48 ui_X1_copyFrom_X1 rfl rfl (by decide) fl_X1_copyFrom_9 rfl rfl ?_
          refine x_alen E 1 0 8192 dX1_copyFrom_51 rfl rfl rfl ?_
          refine x_ncmp_ge E 69 dX1_copyFrom_52 (by decide) (by omega) (by decide) (fun h => False.elim (by omega)) (fun h52 => ?_)
          refine x_aload_n E 1 dX1_copyFrom_55 rfl ?_
          refine x_get E 0 0 dX1_copyFrom_56 ui_X1_copyFrom_X1 rfl rfl (by decide) fl_X1_copyFrom_9 rfl rfl ?_
          refine x_iload E 0 dX1_copyFrom_59 rfl ?_
          refine x_aload_n E 2 dX1_copyFrom_61 rfl ?_
          refine x_iload E 0 dX1_copyFrom_62 rfl ?_
          refine x_cV E [.int (nI i)] [.int (nI i), .ref a1] [.int (gt n2 g2 i), .int (nI i), .ref a1] [(a0, .inr (1, [.ref a1, .int (nI n')])), (a1, .inl (cB, 8192, .inl (bf g'))), (b0, .inr (1, [.ref b1, .int (nI n2)])), (b1, .inl (cB, 8192, .inl (bf g2)))] (c_X1_get l D cB cI cZ cJ b0 b1 n2 g2 i (by omega) (by omega)) 0 rfl rfl (cwV 1 hts gX1_copyFrom_X1_get rfl rfl rfl (by decide +kernel) ⟨Nat.le_of_ble_eq_true rfl, Nat.le_of_ble_eq_true rfl⟩) [2, 3] [0, 1] rfl rfl (by decide) (by decide) (by decide) [0, 1, 2, 3] (by decide) rfl rfl (Nat.le_of_ble_eq_true rfl) dX1_copyFrom_64 ⟨Nat.zero_le _, Nat.zero_le _⟩ rfl rfl ?_
          refine x_i2b E dX1_copyFrom_67 ?_
          refine x_bast E 1 0 [(a0, .inr (1, [.ref a1, .int (nI n')])), (a1, .inl (cB, 8192, .inl (bf (va_up g' i (u8 (gt n2 g2 i)))))), (b0, .inr (1, [.ref b1, .int (nI n2)])), (b1, .inl (cB, 8192, .inl (bf g2)))] dX1_copyFrom_68 rfl rfl (by omega) (by decide) (u8_b8 _) rfl ?_
          refine x_iinc E 0 [(4, .int (nI (i + 1))), (0, .ref a0), (1, .ref b0), (2, .int (nI p0)), (3, .int (nI q0))] dX1_copyFrom_69 rfl (nI_add _ _) (by decide) rfl ?_
          refine x_goto E 3 dX1_copyFrom_72 (by decide) ?_
          exact ih (i + 1) n' (va_up g' i (u8 (gt n2 g2 i))) (by omega) (by omega) (by rw [← h2, cpF_s, if_neg h15, if_pos (by omega)])
      · refine x_aload_n E 1 dX1_copyFrom_18 rfl ?_
        refine x_aload_n E 2 dX1_copyFrom_19 rfl ?_
        refine x_iload E 0 dX1_copyFrom_20 rfl ?_
        refine x_cV E [.int (nI i)] [.ref a0] [.int (gt n2 g2 i), .ref a0] [(a0, .inr (1, [.ref a1, .int (nI n')])), (a1, .inl (cB, 8192, .inl (bf g'))), (b0, .inr (1, [.ref b1, .int (nI n2)])), (b1, .inl (cB, 8192, .inl (bf g2)))] (c_X1_get l D cB cI cZ cJ b0 b1 n2 g2 i (by omega) (by omega)) 0 rfl rfl (cwV 1 hts gX1_copyFrom_X1_get rfl rfl rfl (by decide +kernel) ⟨Nat.le_of_ble_eq_true rfl, Nat.le_of_ble_eq_true rfl⟩) [2, 3] [0, 1] rfl rfl (by decide) (by decide) (by decide) [0, 1, 2, 3] (by decide) rfl rfl (Nat.le_of_ble_eq_true rfl) dX1_copyFrom_22 ⟨Nat.zero_le _, Nat.zero_le _⟩ rfl rfl ?_
        refine x_cV E [.int (gt n2 g2 i)] [] [] [(a0, .inr (1, [.ref a1, .int (nI (n' + 1))])), (a1, .inl (cB, 8192, .inl (bf (va_up g' n' (u8 (gt n2 g2 i)))))), (b0, .inr (1, [.ref b1, .int (nI n2)])), (b1, .inl (cB, 8192, .inl (bf g2)))] (c_X1_add l D cB cI cZ cJ a0 a1 n' g' (gt n2 g2 i) (by omega)) 0 rfl rfl (cwV 1 hts gX1_copyFrom_X1_add rfl rfl rfl (by decide +kernel) ⟨Nat.le_of_ble_eq_true rfl, Nat.le_of_ble_eq_true rfl⟩) [0, 1] [2, 3] rfl rfl (by decide) (by decide) (by decide) [2, 3, 0, 1] (by decide) rfl rfl (Nat.le_of_ble_eq_true rfl) dX1_copyFrom_25 ⟨Nat.zero_le _, Nat.zero_le _⟩ rfl rfl ?_
        refine x_goto E 69 dX1_copyFrom_28 (by decide) ?_
        refine x_iinc E 0 [(4, .int (nI (i + 1))), (0, .ref a0), (1, .ref b0), (2, .int (nI p0)), (3, .int (nI q0))] dX1_copyFrom_69 rfl (nI_add _ _) (by decide) rfl ?_
        refine x_goto E 3 dX1_copyFrom_72 (by decide) ?_
        exact ih (i + 1) (n' + 1) (va_up g' n' (u8 (gt n2 g2 i))) (by omega) (by omega) (by rw [← h2, cpF_s, if_pos h15])
  refine x_iload_n E 2 dX1_copyFrom_0 rfl ?_
  refine x_istore E [(4, .int (nI p0)), (0, .ref a0), (1, .ref b0), (2, .int (nI p0)), (3, .int (nI q0))] dX1_copyFrom_1 (by decide) rfl ?_
  exact loop (q0 - p0) p0 n g (by omega) hn rfl
end
section
abbrev rmX2_begin : Room := { frames := 0, cells := 0, slots := 0, locals := 0 }
abbrev rmX2_bytesInFile : Room := { frames := 2, cells := 0, slots := 0, locals := 42 }
abbrev rmX2_contentAt : Room := { frames := 2, cells := 0, slots := 0, locals := 42 }
abbrev rmX2_count : Room := { frames := 0, cells := 0, slots := 0, locals := 0 }
abbrev rmX2_cutTo : Room := { frames := 0, cells := 0, slots := 0, locals := 0 }
abbrev rmX2_endGroupHere : Room := { frames := 1, cells := 0, slots := 0, locals := 21 }
abbrev rmX2_endsGroup : Room := { frames := 1, cells := 0, slots := 0, locals := 21 }
abbrev rmX2_has : Room := { frames := 0, cells := 0, slots := 0, locals := 0 }
abbrev rmX2_lastSecond : Room := { frames := 2, cells := 0, slots := 0, locals := 42 }
abbrev rmX2_lengthOf : Room := { frames := 1, cells := 0, slots := 0, locals := 21 }
abbrev rmX2_monthOf : Room := { frames := 2, cells := 0, slots := 0, locals := 42 }
abbrev rmX2_push : Room := { frames := 1, cells := 0, slots := 0, locals := 21 }
abbrev rmX2_secondOf : Room := { frames := 1, cells := 0, slots := 0, locals := 21 }
theorem fl_X2_count_27 : Cond.fieldLink RX2 27 "MirrorLog$RowTable" "count" "I" ∈ wsX2_count := by decide +kernel
theorem ui_X2_count_X2 : ∀ w ∈ wsX20, w ∈ wsX2_count := by decide +kernel
theorem fl_X2_cutTo_27 : Cond.fieldLink RX2 27 "MirrorLog$RowTable" "count" "I" ∈ wsX2_cutTo := by decide +kernel
theorem ui_X2_cutTo_X2 : ∀ w ∈ wsX20, w ∈ wsX2_cutTo := by decide +kernel
theorem fl_X2_begin_27 : Cond.fieldLink RX2 27 "MirrorLog$RowTable" "count" "I" ∈ wsX2_begin := by decide +kernel
theorem ui_X2_begin_X2 : ∀ w ∈ wsX20, w ∈ wsX2_begin := by decide +kernel
theorem fl_X2_begin_9 : Cond.fieldLink RX2 9 "MirrorLog$RowTable" "seconds" "[I" ∈ wsX2_begin := by decide +kernel
theorem fl_X2_begin_15 : Cond.fieldLink RX2 15 "MirrorLog$RowTable" "lengths" "[I" ∈ wsX2_begin := by decide +kernel
theorem fl_X2_begin_18 : Cond.fieldLink RX2 18 "MirrorLog$RowTable" "groupEnds" "[Z" ∈ wsX2_begin := by decide +kernel
theorem fl_X2_has_27 : Cond.fieldLink RX2 27 "MirrorLog$RowTable" "count" "I" ∈ wsX2_has := by decide +kernel
theorem ui_X2_has_X2 : ∀ w ∈ wsX20, w ∈ wsX2_has := by decide +kernel
theorem fl_X2_push_27 : Cond.fieldLink RX2 27 "MirrorLog$RowTable" "count" "I" ∈ wsX2_push := by decide +kernel
theorem ui_X2_push_X2 : ∀ w ∈ wsX20, w ∈ wsX2_push := by decide +kernel
theorem fl_X2_push_15 : Cond.fieldLink RX2 15 "MirrorLog$RowTable" "lengths" "[I" ∈ wsX2_push := by decide +kernel
theorem fl_X2_push_23 : Cond.fieldLink RX2 23 "MirrorLog$RowTable" "contents" "[B" ∈ wsX2_push := by decide +kernel
theorem fl_X2_endGroupHere_27 : Cond.fieldLink RX2 27 "MirrorLog$RowTable" "count" "I" ∈ wsX2_endGroupHere := by decide +kernel
theorem ui_X2_endGroupHere_X2 : ∀ w ∈ wsX20, w ∈ wsX2_endGroupHere := by decide +kernel
theorem fl_X2_endGroupHere_18 : Cond.fieldLink RX2 18 "MirrorLog$RowTable" "groupEnds" "[Z" ∈ wsX2_endGroupHere := by decide +kernel
theorem fl_X2_endsGroup_18 : Cond.fieldLink RX2 18 "MirrorLog$RowTable" "groupEnds" "[Z" ∈ wsX2_endsGroup := by decide +kernel
theorem ui_X2_endsGroup_X2 : ∀ w ∈ wsX20, w ∈ wsX2_endsGroup := by decide +kernel
theorem fl_X2_secondOf_9 : Cond.fieldLink RX2 9 "MirrorLog$RowTable" "seconds" "[I" ∈ wsX2_secondOf := by decide +kernel
theorem ui_X2_secondOf_X2 : ∀ w ∈ wsX20, w ∈ wsX2_secondOf := by decide +kernel
theorem fl_X2_lengthOf_15 : Cond.fieldLink RX2 15 "MirrorLog$RowTable" "lengths" "[I" ∈ wsX2_lengthOf := by decide +kernel
theorem ui_X2_lengthOf_X2 : ∀ w ∈ wsX20, w ∈ wsX2_lengthOf := by decide +kernel
theorem fl_X2_lastSecond_27 : Cond.fieldLink RX2 27 "MirrorLog$RowTable" "count" "I" ∈ wsX2_lastSecond := by decide +kernel
theorem ui_X2_lastSecond_X2 : ∀ w ∈ wsX20, w ∈ wsX2_lastSecond := by decide +kernel
theorem cn_X2_monthOf_39 : Jvm.Cond.constant RX2 39 (2592000) ∈ wsX2_monthOf := by decide +kernel
theorem fl_X2_contentAt_23 : Cond.fieldLink RX2 23 "MirrorLog$RowTable" "contents" "[B" ∈ wsX2_contentAt := by decide +kernel
theorem ui_X2_contentAt_X2 : ∀ w ∈ wsX20, w ∈ wsX2_contentAt := by decide +kernel
/-- the last row's second, 0 where there is none -/
def lastS (c : Nat) (S : Nat → Nat) : Nat := if c = 0 then 0 else S (c - 1)
/-- byte x of a row of len bytes -/
def cAt (len : Nat) (f : Nat → UInt8) (x : Int32) : Int32 := if x < 0 then (-1) else if nI len ≤ x then (-1) else nI (f x.toNatClampNeg).toNat
/-- what k rows from p on take in a file -/
def bsz (Ln : Nat → Nat) (Z : Nat → Bool) : Nat → Nat → Nat → Nat
  | _, 0, a => a
  | p, k + 1, a => bsz Ln Z (p + 1) k (a + (Ln p + 11 + (if Z p = true then 6 else 0)))
theorem bsz_s (Ln : Nat → Nat) (Z : Nat → Bool) (p k a : Nat) : bsz Ln Z p (k + 1) a = bsz Ln Z (p + 1) k (a + (Ln p + 11 + (if Z p = true then 6 else 0))) := rfl
theorem n01 : nI 0 - nI 1 < 0 := by decide
set_option maxRecDepth 100000 in
set_option maxHeartbeats 4000000 in
theorem c_X2_count (l : Launch) (D : va_G) (cB cI cZ cJ : ClassId) (t0 : Nat) (t1 : Nat) (t2 : Nat) (t3 : Nat) (t4 : Nat) (c : Nat) (S : Nat → Nat) (Ln : Nat → Nat) (Z : Nat → Bool) (K : Nat → UInt8)  : Ct l D vwCl (tyl cB cI cZ cJ) yX2_count wsX2_count rmX2_count [.ref t0] [(t0, .inr (2, [.ref t1, .ref t2, .ref t3, .ref t4, .int (nI c)])), (t1, .inl (cI, 600, .inl (nf S))), (t2, .inl (cI, 600, .inl (nf Ln))), (t3, .inl (cZ, 600, .inl (zf Z))), (t4, .inl (cB, 38400, .inl (bf K)))] (some (.int (nI c))) [(t0, .inr (2, [.ref t1, .ref t2, .ref t3, .ref t4, .int (nI c)])), (t1, .inl (cI, 600, .inl (nf S))), (t2, .inl (cI, 600, .inl (nf Ln))), (t3, .inl (cZ, 600, .inl (zf Z))), (t4, .inl (cB, 38400, .inl (bf K)))] := by
  refine x_start (cc := cX2_count) (maxL := 1) (ret := (some .int)) (by decide) rfl (Nat.le_of_ble_eq_true rfl) ?_
  intro xp xe xs xm xb xt xc xA E hr hlocks hnm
  obtain ⟨-, -, -, hown, hts, hK, hA⟩ := id E
  refine x_lve (lv' := [(0, .ref t0)]) rfl ?_
  refine x_aload_n E 0 dX2_count_0 rfl ?_
  refine x_get E 0 4 dX2_count_1 ui_X2_count_X2 rfl rfl (by decide) fl_X2_count_27 rfl rfl ?_
  exact x_iret E hr hlocks dX2_count_4 ⟨rfl, rfl⟩
set_option maxRecDepth 100000 in
set_option maxHeartbeats 4000000 in
theorem c_X2_cutTo (l : Launch) (D : va_G) (cB cI cZ cJ : ClassId) (t0 : Nat) (t1 : Nat) (t2 : Nat) (t3 : Nat) (t4 : Nat) (c : Nat) (S : Nat → Nat) (Ln : Nat → Nat) (Z : Nat → Bool) (K : Nat → UInt8) (k : Nat) (hc : c ≤ 600) (hk : k < 2 ^ 31) : Ct l D vwCl (tyl cB cI cZ cJ) yX2_cutTo wsX2_cutTo rmX2_cutTo [.ref t0, .int (nI k)] [(t0, .inr (2, [.ref t1, .ref t2, .ref t3, .ref t4, .int (nI c)])), (t1, .inl (cI, 600, .inl (nf S))), (t2, .inl (cI, 600, .inl (nf Ln))), (t3, .inl (cZ, 600, .inl (zf Z))), (t4, .inl (cB, 38400, .inl (bf K)))] none [(t0, .inr (2, [.ref t1, .ref t2, .ref t3, .ref t4, .int (nI (if k < c then k else c))])), (t1, .inl (cI, 600, .inl (nf S))), (t2, .inl (cI, 600, .inl (nf Ln))), (t3, .inl (cZ, 600, .inl (zf Z))), (t4, .inl (cB, 38400, .inl (bf K)))] := by
  refine x_start (cc := cX2_cutTo) (maxL := 2) (ret := none) (by decide) rfl (Nat.le_of_ble_eq_true rfl) ?_
  intro xp xe xs xm xb xt xc xA E hr hlocks hnm
  obtain ⟨-, -, -, hown, hts, hK, hA⟩ := id E
  refine x_lve (lv' := [(0, .ref t0), (1, .int (nI k))]) rfl ?_
  refine x_iload_n E 1 dX2_cutTo_0 rfl ?_
  refine x_nif_lt E 17 dX2_cutTo_1 (by decide) (by omega) (fun h => absurd h (fun h => Nat.not_lt_zero _ h)) (fun h1 => ?_)
  refine x_iload_n E 1 dX2_cutTo_4 rfl ?_
  refine x_aload_n E 0 dX2_cutTo_5 rfl ?_
  refine x_get E 0 4 dX2_cutTo_6 ui_X2_cutTo_X2 rfl rfl (by decide) fl_X2_cutTo_27 rfl rfl ?_
  refine x_ncmp_ge E 17 dX2_cutTo_9 (by decide) (by omega) (by omega) (fun h9 => ?_) (fun h9 => ?_)
  · exact x_vret E hr hlocks dX2_cutTo_17 ⟨rfl, by rw [if_neg (by omega)]⟩
  · refine x_aload_n E 0 dX2_cutTo_12 rfl ?_
    refine x_iload_n E 1 dX2_cutTo_13 rfl ?_
    refine x_put E 0 4 [(t0, .inr (2, [.ref t1, .ref t2, .ref t3, .ref t4, .int (nI k)])), (t1, .inl (cI, 600, .inl (nf S))), (t2, .inl (cI, 600, .inl (nf Ln))), (t3, .inl (cZ, 600, .inl (zf Z))), (t4, .inl (cB, 38400, .inl (bf K)))] dX2_cutTo_14 ui_X2_cutTo_X2 tyX2_ok nmX2 rfl rfl (by decide) fl_X2_cutTo_27 rfl rfl rfl rfl (Nat.le_of_ble_eq_true rfl) rfl ?_
    exact x_vret E hr hlocks dX2_cutTo_17 ⟨rfl, by rw [if_pos (by omega)]⟩
set_option maxRecDepth 100000 in
set_option maxHeartbeats 4000000 in
theorem c_X2_begin (l : Launch) (D : va_G) (cB cI cZ cJ : ClassId) (t0 : Nat) (t1 : Nat) (t2 : Nat) (t3 : Nat) (t4 : Nat) (c : Nat) (S : Nat → Nat) (Ln : Nat → Nat) (Z : Nat → Bool) (K : Nat → UInt8) (s0 : Nat) (hc : c < 600) : Ct l D vwCl (tyl cB cI cZ cJ) yX2_begin wsX2_begin rmX2_begin [.ref t0, .int (nI s0)] [(t0, .inr (2, [.ref t1, .ref t2, .ref t3, .ref t4, .int (nI c)])), (t1, .inl (cI, 600, .inl (nf S))), (t2, .inl (cI, 600, .inl (nf Ln))), (t3, .inl (cZ, 600, .inl (zf Z))), (t4, .inl (cB, 38400, .inl (bf K)))] none [(t0, .inr (2, [.ref t1, .ref t2, .ref t3, .ref t4, .int (nI (c + 1))])), (t1, .inl (cI, 600, .inl (nf (va_up S c s0)))), (t2, .inl (cI, 600, .inl (nf (va_up Ln c 0)))), (t3, .inl (cZ, 600, .inl (zf (va_up Z c false)))), (t4, .inl (cB, 38400, .inl (bf K)))] := by
  refine x_start (cc := cX2_begin) (maxL := 2) (ret := none) (by decide) rfl (Nat.le_of_ble_eq_true rfl) ?_
  intro xp xe xs xm xb xt xc xA E hr hlocks hnm
  obtain ⟨-, -, -, hown, hts, hK, hA⟩ := id E
  refine x_lve (lv' := [(0, .ref t0), (1, .int (nI s0))]) rfl ?_
  refine x_aload_n E 0 dX2_begin_0 rfl ?_
  refine x_get E 0 4 dX2_begin_1 ui_X2_begin_X2 rfl rfl (by decide) fl_X2_begin_27 rfl rfl ?_
  refine x_nif_lt E 57 dX2_begin_4 (by decide) (by omega) (fun h => absurd h (fun h => Nat.not_lt_zero _ h)) (fun h4 => ?_)
  refine x_aload_n E 0 dX2_begin_7 rfl ?_
  refine x_get E 0 4 dX2_begin_8 ui_X2_begin_X2 rfl rfl (by decide) fl_X2_begin_27 rfl rfl ?_
  refine x_sipush E (v := nI 600) dX2_begin_11 (by decide) ?_
  refine x_ncmp_ge E 57 dX2_begin_14 (by decide) (by omega) (by decide) (fun h => False.elim (by omega)) (fun h14 => ?_)
  refine x_aload_n E 0 dX2_begin_17 rfl ?_
  refine x_get E 0 0 dX2_begin_18 ui_X2_begin_X2 rfl rfl (by decide) fl_X2_begin_9 rfl rfl ?_
  refine x_aload_n E 0 dX2_begin_21 rfl ?_
  refine x_get E 0 4 dX2_begin_22 ui_X2_begin_X2 rfl rfl (by decide) fl_X2_begin_27 rfl rfl ?_
  refine x_iload_n E 1 dX2_begin_25 rfl ?_
  refine x_nast E 1 1 [(t0, .inr (2, [.ref t1, .ref t2, .ref t3, .ref t4, .int (nI c)])), (t1, .inl (cI, 600, .inl (nf (va_up S c s0)))), (t2, .inl (cI, 600, .inl (nf Ln))), (t3, .inl (cZ, 600, .inl (zf Z))), (t4, .inl (cB, 38400, .inl (bf K)))] dX2_begin_26 rfl rfl (by omega) (by decide) rfl ?_
  refine x_aload_n E 0 dX2_begin_27 rfl ?_
  refine x_get E 0 1 dX2_begin_28 ui_X2_begin_X2 rfl rfl (by decide) fl_X2_begin_15 rfl rfl ?_
  refine x_aload_n E 0 dX2_begin_31 rfl ?_
  refine x_get E 0 4 dX2_begin_32 ui_X2_begin_X2 rfl rfl (by decide) fl_X2_begin_27 rfl rfl ?_
  refine x_iconst E (v := nI 0) dX2_begin_35 (by decide) ?_
  refine x_nast E 2 1 [(t0, .inr (2, [.ref t1, .ref t2, .ref t3, .ref t4, .int (nI c)])), (t1, .inl (cI, 600, .inl (nf (va_up S c s0)))), (t2, .inl (cI, 600, .inl (nf (va_up Ln c 0)))), (t3, .inl (cZ, 600, .inl (zf Z))), (t4, .inl (cB, 38400, .inl (bf K)))] dX2_begin_36 rfl rfl (by omega) (by decide) rfl ?_
  refine x_aload_n E 0 dX2_begin_37 rfl ?_
  refine x_get E 0 2 dX2_begin_38 ui_X2_begin_X2 rfl rfl (by decide) fl_X2_begin_18 rfl rfl ?_
  refine x_aload_n E 0 dX2_begin_41 rfl ?_
  refine x_get E 0 4 dX2_begin_42 ui_X2_begin_X2 rfl rfl (by decide) fl_X2_begin_27 rfl rfl ?_
  refine x_iconst E (v := nI 0) dX2_begin_45 (by decide) ?_
  refine x_zast E 3 2 [(t0, .inr (2, [.ref t1, .ref t2, .ref t3, .ref t4, .int (nI c)])), (t1, .inl (cI, 600, .inl (nf (va_up S c s0)))), (t2, .inl (cI, 600, .inl (nf (va_up Ln c 0)))), (t3, .inl (cZ, 600, .inl (zf (va_up Z c false)))), (t4, .inl (cB, 38400, .inl (bf K)))] dX2_begin_46 rfl rfl (by omega) (by decide) rfl rfl ?_
  refine x_aload_n E 0 dX2_begin_47 rfl ?_
  refine x_dup E dX2_begin_48 rfl ?_
  refine x_get E 0 4 dX2_begin_49 ui_X2_begin_X2 rfl rfl (by decide) fl_X2_begin_27 rfl rfl ?_
  refine x_iconst E (v := nI 1) dX2_begin_52 (by decide) ?_
  refine x_niadd E dX2_begin_53 ?_
  refine x_put E 0 4 [(t0, .inr (2, [.ref t1, .ref t2, .ref t3, .ref t4, .int (nI (c + 1))])), (t1, .inl (cI, 600, .inl (nf (va_up S c s0)))), (t2, .inl (cI, 600, .inl (nf (va_up Ln c 0)))), (t3, .inl (cZ, 600, .inl (zf (va_up Z c false)))), (t4, .inl (cB, 38400, .inl (bf K)))] dX2_begin_54 ui_X2_begin_X2 tyX2_ok nmX2 rfl rfl (by decide) fl_X2_begin_27 rfl rfl rfl rfl (Nat.le_of_ble_eq_true rfl) rfl ?_
  exact x_vret E hr hlocks dX2_begin_57 ⟨rfl, rfl⟩
set_option maxRecDepth 100000 in
set_option maxHeartbeats 4000000 in
theorem c_X2_has (l : Launch) (D : va_G) (cB cI cZ cJ : ClassId) (t0 : Nat) (t1 : Nat) (t2 : Nat) (t3 : Nat) (t4 : Nat) (c : Nat) (S : Nat → Nat) (Ln : Nat → Nat) (Z : Nat → Bool) (K : Nat → UInt8) (k : Nat) (hc : c ≤ 600) (hk : k < 2 ^ 31) : Ct l D vwCl (tyl cB cI cZ cJ) yX2_has wsX2_has rmX2_has [.ref t0, .int (nI k)] [(t0, .inr (2, [.ref t1, .ref t2, .ref t3, .ref t4, .int (nI c)])), (t1, .inl (cI, 600, .inl (nf S))), (t2, .inl (cI, 600, .inl (nf Ln))), (t3, .inl (cZ, 600, .inl (zf Z))), (t4, .inl (cB, 38400, .inl (bf K)))] (some (.int (if decide (k < c) = true then 1 else 0))) [(t0, .inr (2, [.ref t1, .ref t2, .ref t3, .ref t4, .int (nI c)])), (t1, .inl (cI, 600, .inl (nf S))), (t2, .inl (cI, 600, .inl (nf Ln))), (t3, .inl (cZ, 600, .inl (zf Z))), (t4, .inl (cB, 38400, .inl (bf K)))] := by
  refine x_start (cc := cX2_has) (maxL := 2) (ret := (some .boolean)) (by decide) rfl (Nat.le_of_ble_eq_true rfl) ?_
  intro xp xe xs xm xb xt xc xA E hr hlocks hnm
  obtain ⟨-, -, -, hown, hts, hK, hA⟩ := id E
  refine x_lve (lv' := [(0, .ref t0), (1, .int (nI k))]) rfl ?_
  refine x_iload_n E 1 dX2_has_0 rfl ?_
  refine x_nif_lt E 23 dX2_has_1 (by decide) (by omega) (fun h => absurd h (fun h => Nat.not_lt_zero _ h)) (fun h1 => ?_)
  refine x_iload_n E 1 dX2_has_4 rfl ?_
  refine x_aload_n E 0 dX2_has_5 rfl ?_
  refine x_get E 0 4 dX2_has_6 ui_X2_has_X2 rfl rfl (by decide) fl_X2_has_27 rfl rfl ?_
  refine x_ncmp_ge E 23 dX2_has_9 (by decide) (by omega) (by omega) (fun h9 => ?_) (fun h9 => ?_)
  · refine x_iconst E (v := nI 0) dX2_has_23 (by decide) ?_
    exact x_zret E hr hlocks dX2_has_24 rfl ⟨q_f' (decide_eq_false (by omega)), rfl⟩
  · refine x_iload_n E 1 dX2_has_12 rfl ?_
    refine x_sipush E (v := nI 600) dX2_has_13 (by decide) ?_
    refine x_ncmp_ge E 23 dX2_has_16 (by decide) (by omega) (by decide) (fun h16 => ?_) (fun h16 => ?_)
    · refine x_iconst E (v := nI 0) dX2_has_23 (by decide) ?_
      exact x_zret E hr hlocks dX2_has_24 rfl ⟨q_f' (decide_eq_false (by omega)), rfl⟩
    · refine x_iconst E (v := nI 1) dX2_has_19 (by decide) ?_
      refine x_goto E 24 dX2_has_20 (by decide) ?_
      exact x_zret E hr hlocks dX2_has_24 rfl ⟨q_t' (decide_eq_true (by omega)), rfl⟩
set_option maxRecDepth 100000 in
set_option maxHeartbeats 4000000 in
theorem c_X2_has_in (l : Launch) (D : va_G) (cB cI cZ cJ : ClassId) (t0 : Nat) (t1 : Nat) (t2 : Nat) (t3 : Nat) (t4 : Nat) (c : Nat) (S : Nat → Nat) (Ln : Nat → Nat) (Z : Nat → Bool) (K : Nat → UInt8) (k : Nat) (hc : c ≤ 600) (hk : k < c) : Ct l D vwCl (tyl cB cI cZ cJ) yX2_has wsX2_has rmX2_has [.ref t0, .int (nI k)] [(t0, .inr (2, [.ref t1, .ref t2, .ref t3, .ref t4, .int (nI c)])), (t1, .inl (cI, 600, .inl (nf S))), (t2, .inl (cI, 600, .inl (nf Ln))), (t3, .inl (cZ, 600, .inl (zf Z))), (t4, .inl (cB, 38400, .inl (bf K)))] (some (.int (nI 1))) [(t0, .inr (2, [.ref t1, .ref t2, .ref t3, .ref t4, .int (nI c)])), (t1, .inl (cI, 600, .inl (nf S))), (t2, .inl (cI, 600, .inl (nf Ln))), (t3, .inl (cZ, 600, .inl (zf Z))), (t4, .inl (cB, 38400, .inl (bf K)))] := by
  refine x_start (cc := cX2_has) (maxL := 2) (ret := (some .boolean)) (by decide) rfl (Nat.le_of_ble_eq_true rfl) ?_
  intro xp xe xs xm xb xt xc xA E hr hlocks hnm
  obtain ⟨-, -, -, hown, hts, hK, hA⟩ := id E
  refine x_lve (lv' := [(0, .ref t0), (1, .int (nI k))]) rfl ?_
  refine x_iload_n E 1 dX2_has_0 rfl ?_
  refine x_nif_lt E 23 dX2_has_1 (by decide) (by omega) (fun h => absurd h (fun h => Nat.not_lt_zero _ h)) (fun h1 => ?_)
  refine x_iload_n E 1 dX2_has_4 rfl ?_
  refine x_aload_n E 0 dX2_has_5 rfl ?_
  refine x_get E 0 4 dX2_has_6 ui_X2_has_X2 rfl rfl (by decide) fl_X2_has_27 rfl rfl ?_
  refine x_ncmp_ge E 23 dX2_has_9 (by decide) (by omega) (by omega) (fun h => False.elim (by omega)) (fun h9 => ?_)
  refine x_iload_n E 1 dX2_has_12 rfl ?_
  refine x_sipush E (v := nI 600) dX2_has_13 (by decide) ?_
  refine x_ncmp_ge E 23 dX2_has_16 (by decide) (by omega) (by decide) (fun h => False.elim (by omega)) (fun h16 => ?_)
  refine x_iconst E (v := nI 1) dX2_has_19 (by decide) ?_
  refine x_goto E 24 dX2_has_20 (by decide) ?_
  exact x_zret E hr hlocks dX2_has_24 rfl ⟨rfl, rfl⟩
set_option maxRecDepth 100000 in
set_option maxHeartbeats 4000000 in
theorem c_X2_has_neg (l : Launch) (D : va_G) (cB cI cZ cJ : ClassId) (t0 : Nat) (t1 : Nat) (t2 : Nat) (t3 : Nat) (t4 : Nat) (c : Nat) (S : Nat → Nat) (Ln : Nat → Nat) (Z : Nat → Bool) (K : Nat → UInt8) (x : Int32) (hx : x < 0) : Ct l D vwCl (tyl cB cI cZ cJ) yX2_has wsX2_has rmX2_has [.ref t0, .int x] [(t0, .inr (2, [.ref t1, .ref t2, .ref t3, .ref t4, .int (nI c)])), (t1, .inl (cI, 600, .inl (nf S))), (t2, .inl (cI, 600, .inl (nf Ln))), (t3, .inl (cZ, 600, .inl (zf Z))), (t4, .inl (cB, 38400, .inl (bf K)))] (some (.int (nI 0))) [(t0, .inr (2, [.ref t1, .ref t2, .ref t3, .ref t4, .int (nI c)])), (t1, .inl (cI, 600, .inl (nf S))), (t2, .inl (cI, 600, .inl (nf Ln))), (t3, .inl (cZ, 600, .inl (zf Z))), (t4, .inl (cB, 38400, .inl (bf K)))] := by
  refine x_start (cc := cX2_has) (maxL := 2) (ret := (some .boolean)) (by decide) rfl (Nat.le_of_ble_eq_true rfl) ?_
  intro xp xe xs xm xb xt xc xA E hr hlocks hnm
  obtain ⟨-, -, -, hown, hts, hK, hA⟩ := id E
  refine x_lve (lv' := [(0, .ref t0), (1, .int x)]) rfl ?_
  refine x_iload_n E 1 dX2_has_0 rfl ?_
  refine x_if_lt E 23 dX2_has_1 (by decide) (fun h1 => ?_) (fun h => absurd h (fun h => h hx))
  refine x_iconst E (v := nI 0) dX2_has_23 (by decide) ?_
  exact x_zret E hr hlocks dX2_has_24 rfl ⟨rfl, rfl⟩
set_option maxRecDepth 100000 in
set_option maxHeartbeats 4000000 in
theorem c_X2_push (l : Launch) (D : va_G) (cB cI cZ cJ : ClassId) (t0 : Nat) (t1 : Nat) (t2 : Nat) (t3 : Nat) (t4 : Nat) (c : Nat) (S : Nat → Nat) (Ln : Nat → Nat) (Z : Nat → Bool) (K : Nat → UInt8) (b : Int32) (h0 : 0 < c) (hc : c ≤ 600) (hl : Ln (c - 1) < 64) : Ct l D vwCl (tyl cB cI cZ cJ) yX2_push wsX2_push rmX2_push [.ref t0, .int b] [(t0, .inr (2, [.ref t1, .ref t2, .ref t3, .ref t4, .int (nI c)])), (t1, .inl (cI, 600, .inl (nf S))), (t2, .inl (cI, 600, .inl (nf Ln))), (t3, .inl (cZ, 600, .inl (zf Z))), (t4, .inl (cB, 38400, .inl (bf K)))] none [(t0, .inr (2, [.ref t1, .ref t2, .ref t3, .ref t4, .int (nI c)])), (t1, .inl (cI, 600, .inl (nf S))), (t2, .inl (cI, 600, .inl (nf (va_up Ln (c - 1) (Ln (c - 1) + 1))))), (t3, .inl (cZ, 600, .inl (zf Z))), (t4, .inl (cB, 38400, .inl (bf (va_up K ((c - 1) * 64 + Ln (c - 1)) (u8 b)))))] := by
  refine x_start (cc := cX2_push) (maxL := 4) (ret := none) (by decide) rfl (Nat.le_of_ble_eq_true rfl) ?_
  intro xp xe xs xm xb xt xc xA E hr hlocks hnm
  obtain ⟨-, -, -, hown, hts, hK, hA⟩ := id E
  refine x_lve (lv' := [(0, .ref t0), (1, .int b)]) rfl ?_
  refine x_aload_n E 0 dX2_push_0 rfl ?_
  refine x_get E 0 4 dX2_push_1 ui_X2_push_X2 rfl rfl (by decide) fl_X2_push_27 rfl rfl ?_
  refine x_iconst E (v := nI 1) dX2_push_4 (by decide) ?_
  refine x_nisub E dX2_push_5 (by omega) ?_
  refine x_istore_n E [(2, .int (nI (c - 1))), (0, .ref t0), (1, .int b)] dX2_push_6 (by decide) rfl ?_
  refine x_aload_n E 1 dX2_push_7 rfl ?_
  refine x_iload_n E 0 dX2_push_8 rfl ?_
  refine x_cV E [.int (nI (c - 1))] [] [.int (nI 1)] [(t0, .inr (2, [.ref t1, .ref t2, .ref t3, .ref t4, .int (nI c)])), (t1, .inl (cI, 600, .inl (nf S))), (t2, .inl (cI, 600, .inl (nf Ln))), (t3, .inl (cZ, 600, .inl (zf Z))), (t4, .inl (cB, 38400, .inl (bf K)))] (c_X2_has_in l D cB cI cZ cJ t0 t1 t2 t3 t4 c S Ln Z K (c - 1) (by omega) (by omega)) 0 rfl rfl (cwV 1 hts gX2_push_X2_has rfl rfl rfl (by decide +kernel) ⟨Nat.le_of_ble_eq_true rfl, Nat.le_of_ble_eq_true rfl⟩) [0, 1, 2, 3, 4] [] rfl rfl (by decide) (by decide) (by decide) [0, 1, 2, 3, 4] (by decide) rfl rfl (Nat.le_of_ble_eq_true rfl) dX2_push_9 ⟨Nat.zero_le _, Nat.zero_le _⟩ rfl rfl ?_
  refine x_nif_ne E 16 dX2_push_12 (by decide) (by decide) (fun h12 => ?_) (fun h => False.elim (by omega))
  refine x_aload_n E 1 dX2_push_16 rfl ?_
  refine x_get E 0 1 dX2_push_17 ui_X2_push_X2 rfl rfl (by decide) fl_X2_push_15 rfl rfl ?_
  refine x_iload_n E 0 dX2_push_20 rfl ?_
  refine x_nald E 2 1 dX2_push_21 rfl rfl (by omega) (by decide) ?_
  refine x_istore_n E [(3, .int (nI (Ln (c - 1)))), (2, .int (nI (c - 1))), (0, .ref t0), (1, .int b)] dX2_push_22 (by decide) rfl ?_
  refine x_iload_n E 0 dX2_push_23 rfl ?_
  refine x_nif_lt E 55 dX2_push_24 (by decide) (by omega) (fun h => absurd h (fun h => Nat.not_lt_zero _ h)) (fun h24 => ?_)
  refine x_iload_n E 0 dX2_push_27 rfl ?_
  refine x_bipush E (v := nI 64) dX2_push_28 (by decide) ?_
  refine x_ncmp_ge E 55 dX2_push_30 (by decide) (by omega) (by decide) (fun h => False.elim (by omega)) (fun h30 => ?_)
  refine x_aload_n E 2 dX2_push_33 rfl ?_
  refine x_get E 0 3 dX2_push_34 ui_X2_push_X2 rfl rfl (by decide) fl_X2_push_23 rfl rfl ?_
  refine x_iload_n E 1 dX2_push_37 rfl ?_
  refine x_bipush E (v := nI 64) dX2_push_38 (by decide) ?_
  refine x_nimul E dX2_push_40 ?_
  refine x_iload_n E 0 dX2_push_41 rfl ?_
  refine x_niadd E dX2_push_42 ?_
  refine x_iload_n E 3 dX2_push_43 rfl ?_
  refine x_i2b E dX2_push_44 ?_
  refine x_bast E 4 0 [(t0, .inr (2, [.ref t1, .ref t2, .ref t3, .ref t4, .int (nI c)])), (t1, .inl (cI, 600, .inl (nf S))), (t2, .inl (cI, 600, .inl (nf Ln))), (t3, .inl (cZ, 600, .inl (zf Z))), (t4, .inl (cB, 38400, .inl (bf (va_up K (((c - 1) * 64) + (Ln (c - 1))) (u8 b)))))] dX2_push_45 rfl rfl (by omega) (by decide) (u8_b8 b) rfl ?_
  refine x_aload_n E 2 dX2_push_46 rfl ?_
  refine x_get E 0 1 dX2_push_47 ui_X2_push_X2 rfl rfl (by decide) fl_X2_push_15 rfl rfl ?_
  refine x_iload_n E 1 dX2_push_50 rfl ?_
  refine x_iload_n E 0 dX2_push_51 rfl ?_
  refine x_iconst E (v := nI 1) dX2_push_52 (by decide) ?_
  refine x_niadd E dX2_push_53 ?_
  refine x_nast E 2 1 [(t0, .inr (2, [.ref t1, .ref t2, .ref t3, .ref t4, .int (nI c)])), (t1, .inl (cI, 600, .inl (nf S))), (t2, .inl (cI, 600, .inl (nf (va_up Ln (c - 1) ((Ln (c - 1)) + 1))))), (t3, .inl (cZ, 600, .inl (zf Z))), (t4, .inl (cB, 38400, .inl (bf (va_up K (((c - 1) * 64) + (Ln (c - 1))) (u8 b)))))] dX2_push_54 rfl rfl (by omega) (by decide) rfl ?_
  exact x_vret E hr hlocks dX2_push_55 ⟨rfl, rfl⟩
set_option maxRecDepth 100000 in
set_option maxHeartbeats 4000000 in
theorem c_X2_endGroupHere (l : Launch) (D : va_G) (cB cI cZ cJ : ClassId) (t0 : Nat) (t1 : Nat) (t2 : Nat) (t3 : Nat) (t4 : Nat) (c : Nat) (S : Nat → Nat) (Ln : Nat → Nat) (Z : Nat → Bool) (K : Nat → UInt8) (h0 : 0 < c) (hc : c ≤ 600) : Ct l D vwCl (tyl cB cI cZ cJ) yX2_endGroupHere wsX2_endGroupHere rmX2_endGroupHere [.ref t0] [(t0, .inr (2, [.ref t1, .ref t2, .ref t3, .ref t4, .int (nI c)])), (t1, .inl (cI, 600, .inl (nf S))), (t2, .inl (cI, 600, .inl (nf Ln))), (t3, .inl (cZ, 600, .inl (zf Z))), (t4, .inl (cB, 38400, .inl (bf K)))] none [(t0, .inr (2, [.ref t1, .ref t2, .ref t3, .ref t4, .int (nI c)])), (t1, .inl (cI, 600, .inl (nf S))), (t2, .inl (cI, 600, .inl (nf Ln))), (t3, .inl (cZ, 600, .inl (zf (va_up Z (c - 1) true)))), (t4, .inl (cB, 38400, .inl (bf K)))] := by
  refine x_start (cc := cX2_endGroupHere) (maxL := 1) (ret := none) (by decide) rfl (Nat.le_of_ble_eq_true rfl) ?_
  intro xp xe xs xm xb xt xc xA E hr hlocks hnm
  obtain ⟨-, -, -, hown, hts, hK, hA⟩ := id E
  refine x_lve (lv' := [(0, .ref t0)]) rfl ?_
  refine x_aload_n E 0 dX2_endGroupHere_0 rfl ?_
  refine x_aload_n E 0 dX2_endGroupHere_1 rfl ?_
  refine x_get E 0 4 dX2_endGroupHere_2 ui_X2_endGroupHere_X2 rfl rfl (by decide) fl_X2_endGroupHere_27 rfl rfl ?_
  refine x_iconst E (v := nI 1) dX2_endGroupHere_5 (by decide) ?_
  refine x_nisub E dX2_endGroupHere_6 (by omega) ?_
  refine x_cV E [.int (nI (c - 1))] [] [.int (nI 1)] [(t0, .inr (2, [.ref t1, .ref t2, .ref t3, .ref t4, .int (nI c)])), (t1, .inl (cI, 600, .inl (nf S))), (t2, .inl (cI, 600, .inl (nf Ln))), (t3, .inl (cZ, 600, .inl (zf Z))), (t4, .inl (cB, 38400, .inl (bf K)))] (c_X2_has_in l D cB cI cZ cJ t0 t1 t2 t3 t4 c S Ln Z K (c - 1) (by omega) (by omega)) 0 rfl rfl (cwV 1 hts gX2_endGroupHere_X2_has rfl rfl rfl (by decide +kernel) ⟨Nat.le_of_ble_eq_true rfl, Nat.le_of_ble_eq_true rfl⟩) [0, 1, 2, 3, 4] [] rfl rfl (by decide) (by decide) (by decide) [0, 1, 2, 3, 4] (by decide) rfl rfl (Nat.le_of_ble_eq_true rfl) dX2_endGroupHere_7 ⟨Nat.zero_le _, Nat.zero_le _⟩ rfl rfl ?_
  refine x_nif_eq E 25 dX2_endGroupHere_10 (by decide) (by decide) (fun h => False.elim (by omega)) (fun h10 => ?_)
  refine x_aload_n E 0 dX2_endGroupHere_13 rfl ?_
  refine x_get E 0 2 dX2_endGroupHere_14 ui_X2_endGroupHere_X2 rfl rfl (by decide) fl_X2_endGroupHere_18 rfl rfl ?_
  refine x_aload_n E 0 dX2_endGroupHere_17 rfl ?_
  refine x_get E 0 4 dX2_endGroupHere_18 ui_X2_endGroupHere_X2 rfl rfl (by decide) fl_X2_endGroupHere_27 rfl rfl ?_
  refine x_iconst E (v := nI 1) dX2_endGroupHere_21 (by decide) ?_
  refine x_nisub E dX2_endGroupHere_22 (by omega) ?_
  refine x_iconst E (v := nI 1) dX2_endGroupHere_23 (by decide) ?_
  refine x_zast E 3 2 [(t0, .inr (2, [.ref t1, .ref t2, .ref t3, .ref t4, .int (nI c)])), (t1, .inl (cI, 600, .inl (nf S))), (t2, .inl (cI, 600, .inl (nf Ln))), (t3, .inl (cZ, 600, .inl (zf (va_up Z (c - 1) true)))), (t4, .inl (cB, 38400, .inl (bf K)))] dX2_endGroupHere_24 rfl rfl (by omega) (by decide) rfl rfl ?_
  exact x_vret E hr hlocks dX2_endGroupHere_25 ⟨rfl, rfl⟩
set_option maxRecDepth 100000 in
set_option maxHeartbeats 4000000 in
theorem c_X2_endsGroup (l : Launch) (D : va_G) (cB cI cZ cJ : ClassId) (t0 : Nat) (t1 : Nat) (t2 : Nat) (t3 : Nat) (t4 : Nat) (c : Nat) (S : Nat → Nat) (Ln : Nat → Nat) (Z : Nat → Bool) (K : Nat → UInt8) (k : Nat) (hc : c ≤ 600) (hk : k < c) : Ct l D vwCl (tyl cB cI cZ cJ) yX2_endsGroup wsX2_endsGroup rmX2_endsGroup [.ref t0, .int (nI k)] [(t0, .inr (2, [.ref t1, .ref t2, .ref t3, .ref t4, .int (nI c)])), (t1, .inl (cI, 600, .inl (nf S))), (t2, .inl (cI, 600, .inl (nf Ln))), (t3, .inl (cZ, 600, .inl (zf Z))), (t4, .inl (cB, 38400, .inl (bf K)))] (some (.int (if Z k = true then 1 else 0))) [(t0, .inr (2, [.ref t1, .ref t2, .ref t3, .ref t4, .int (nI c)])), (t1, .inl (cI, 600, .inl (nf S))), (t2, .inl (cI, 600, .inl (nf Ln))), (t3, .inl (cZ, 600, .inl (zf Z))), (t4, .inl (cB, 38400, .inl (bf K)))] := by
  refine x_start (cc := cX2_endsGroup) (maxL := 2) (ret := (some .boolean)) (by decide) rfl (Nat.le_of_ble_eq_true rfl) ?_
  intro xp xe xs xm xb xt xc xA E hr hlocks hnm
  obtain ⟨-, -, -, hown, hts, hK, hA⟩ := id E
  refine x_lve (lv' := [(0, .ref t0), (1, .int (nI k))]) rfl ?_
  refine x_aload_n E 0 dX2_endsGroup_0 rfl ?_
  refine x_iload_n E 1 dX2_endsGroup_1 rfl ?_
  refine x_cV E [.int (nI k)] [] [.int (nI 1)] [(t0, .inr (2, [.ref t1, .ref t2, .ref t3, .ref t4, .int (nI c)])), (t1, .inl (cI, 600, .inl (nf S))), (t2, .inl (cI, 600, .inl (nf Ln))), (t3, .inl (cZ, 600, .inl (zf Z))), (t4, .inl (cB, 38400, .inl (bf K)))] (c_X2_has_in l D cB cI cZ cJ t0 t1 t2 t3 t4 c S Ln Z K k (by omega) (by omega)) 0 rfl rfl (cwV 1 hts gX2_endsGroup_X2_has rfl rfl rfl (by decide +kernel) ⟨Nat.le_of_ble_eq_true rfl, Nat.le_of_ble_eq_true rfl⟩) [0, 1, 2, 3, 4] [] rfl rfl (by decide) (by decide) (by decide) [0, 1, 2, 3, 4] (by decide) rfl rfl (Nat.le_of_ble_eq_true rfl) dX2_endsGroup_2 ⟨Nat.zero_le _, Nat.zero_le _⟩ rfl rfl ?_
  refine x_nif_eq E 21 dX2_endsGroup_5 (by decide) (by decide) (fun h => False.elim (by omega)) (fun h5 => ?_)
  refine x_aload_n E 0 dX2_endsGroup_8 rfl ?_
  refine x_get E 0 2 dX2_endsGroup_9 ui_X2_endsGroup_X2 rfl rfl (by decide) fl_X2_endsGroup_18 rfl rfl ?_
  refine x_iload_n E 1 dX2_endsGroup_12 rfl ?_
  refine x_zald E 3 2 dX2_endsGroup_13 rfl rfl (by omega) (by decide) ?_
  refine x_qif_eq E 21 dX2_endsGroup_14 (by decide) (fun h14 => ?_) (fun h14 => ?_)
  · refine x_iconst E (v := nI 0) dX2_endsGroup_21 (by decide) ?_
    exact x_zret E hr hlocks dX2_endsGroup_22 rfl ⟨q_f' h14, rfl⟩
  · refine x_iconst E (v := nI 1) dX2_endsGroup_17 (by decide) ?_
    refine x_goto E 22 dX2_endsGroup_18 (by decide) ?_
    exact x_zret E hr hlocks dX2_endsGroup_22 rfl ⟨q_t' h14, rfl⟩
set_option maxRecDepth 100000 in
set_option maxHeartbeats 4000000 in
theorem c_X2_secondOf_in (l : Launch) (D : va_G) (cB cI cZ cJ : ClassId) (t0 : Nat) (t1 : Nat) (t2 : Nat) (t3 : Nat) (t4 : Nat) (c : Nat) (S : Nat → Nat) (Ln : Nat → Nat) (Z : Nat → Bool) (K : Nat → UInt8) (k : Nat) (hc : c ≤ 600) (hk : k < c) : Ct l D vwCl (tyl cB cI cZ cJ) yX2_secondOf wsX2_secondOf rmX2_secondOf [.ref t0, .int (nI k)] [(t0, .inr (2, [.ref t1, .ref t2, .ref t3, .ref t4, .int (nI c)])), (t1, .inl (cI, 600, .inl (nf S))), (t2, .inl (cI, 600, .inl (nf Ln))), (t3, .inl (cZ, 600, .inl (zf Z))), (t4, .inl (cB, 38400, .inl (bf K)))] (some (.int (nI (S k)))) [(t0, .inr (2, [.ref t1, .ref t2, .ref t3, .ref t4, .int (nI c)])), (t1, .inl (cI, 600, .inl (nf S))), (t2, .inl (cI, 600, .inl (nf Ln))), (t3, .inl (cZ, 600, .inl (zf Z))), (t4, .inl (cB, 38400, .inl (bf K)))] := by
  refine x_start (cc := cX2_secondOf) (maxL := 2) (ret := (some .int)) (by decide) rfl (Nat.le_of_ble_eq_true rfl) ?_
  intro xp xe xs xm xb xt xc xA E hr hlocks hnm
  obtain ⟨-, -, -, hown, hts, hK, hA⟩ := id E
  refine x_lve (lv' := [(0, .ref t0), (1, .int (nI k))]) rfl ?_
  refine x_aload_n E 0 dX2_secondOf_0 rfl ?_
  refine x_iload_n E 1 dX2_secondOf_1 rfl ?_
  refine x_cV E [.int (nI k)] [] [.int (nI 1)] [(t0, .inr (2, [.ref t1, .ref t2, .ref t3, .ref t4, .int (nI c)])), (t1, .inl (cI, 600, .inl (nf S))), (t2, .inl (cI, 600, .inl (nf Ln))), (t3, .inl (cZ, 600, .inl (zf Z))), (t4, .inl (cB, 38400, .inl (bf K)))] (c_X2_has_in l D cB cI cZ cJ t0 t1 t2 t3 t4 c S Ln Z K k (by omega) (by omega)) 0 rfl rfl (cwV 1 hts gX2_secondOf_X2_has rfl rfl rfl (by decide +kernel) ⟨Nat.le_of_ble_eq_true rfl, Nat.le_of_ble_eq_true rfl⟩) [0, 1, 2, 3, 4] [] rfl rfl (by decide) (by decide) (by decide) [0, 1, 2, 3, 4] (by decide) rfl rfl (Nat.le_of_ble_eq_true rfl) dX2_secondOf_2 ⟨Nat.zero_le _, Nat.zero_le _⟩ rfl rfl ?_
  refine x_nif_eq E 17 dX2_secondOf_5 (by decide) (by decide) (fun h => False.elim (by omega)) (fun h5 => ?_)
  refine x_aload_n E 0 dX2_secondOf_8 rfl ?_
  refine x_get E 0 0 dX2_secondOf_9 ui_X2_secondOf_X2 rfl rfl (by decide) fl_X2_secondOf_9 rfl rfl ?_
  refine x_iload_n E 1 dX2_secondOf_12 rfl ?_
  refine x_nald E 1 1 dX2_secondOf_13 rfl rfl (by omega) (by decide) ?_
  refine x_goto E 18 dX2_secondOf_14 (by decide) ?_
  exact x_iret E hr hlocks dX2_secondOf_18 ⟨rfl, rfl⟩
set_option maxRecDepth 100000 in
set_option maxHeartbeats 4000000 in
theorem c_X2_secondOf_neg (l : Launch) (D : va_G) (cB cI cZ cJ : ClassId) (t0 : Nat) (t1 : Nat) (t2 : Nat) (t3 : Nat) (t4 : Nat) (c : Nat) (S : Nat → Nat) (Ln : Nat → Nat) (Z : Nat → Bool) (K : Nat → UInt8) (x : Int32) (hx : x < 0) : Ct l D vwCl (tyl cB cI cZ cJ) yX2_secondOf wsX2_secondOf rmX2_secondOf [.ref t0, .int x] [(t0, .inr (2, [.ref t1, .ref t2, .ref t3, .ref t4, .int (nI c)])), (t1, .inl (cI, 600, .inl (nf S))), (t2, .inl (cI, 600, .inl (nf Ln))), (t3, .inl (cZ, 600, .inl (zf Z))), (t4, .inl (cB, 38400, .inl (bf K)))] (some (.int (nI 0))) [(t0, .inr (2, [.ref t1, .ref t2, .ref t3, .ref t4, .int (nI c)])), (t1, .inl (cI, 600, .inl (nf S))), (t2, .inl (cI, 600, .inl (nf Ln))), (t3, .inl (cZ, 600, .inl (zf Z))), (t4, .inl (cB, 38400, .inl (bf K)))] := by
  refine x_start (cc := cX2_secondOf) (maxL := 2) (ret := (some .int)) (by decide) rfl (Nat.le_of_ble_eq_true rfl) ?_
  intro xp xe xs xm xb xt xc xA E hr hlocks hnm
  obtain ⟨-, -, -, hown, hts, hK, hA⟩ := id E
  refine x_lve (lv' := [(0, .ref t0), (1, .int x)]) rfl ?_
  refine x_aload_n E 0 dX2_secondOf_0 rfl ?_
  refine x_iload_n E 1 dX2_secondOf_1 rfl ?_
  refine x_cV E [.int x] [] [.int (nI 0)] [(t0, .inr (2, [.ref t1, .ref t2, .ref t3, .ref t4, .int (nI c)])), (t1, .inl (cI, 600, .inl (nf S))), (t2, .inl (cI, 600, .inl (nf Ln))), (t3, .inl (cZ, 600, .inl (zf Z))), (t4, .inl (cB, 38400, .inl (bf K)))] (c_X2_has_neg l D cB cI cZ cJ t0 t1 t2 t3 t4 c S Ln Z K x hx) 0 rfl rfl (cwV 1 hts gX2_secondOf_X2_has rfl rfl rfl (by decide +kernel) ⟨Nat.le_of_ble_eq_true rfl, Nat.le_of_ble_eq_true rfl⟩) [0, 1, 2, 3, 4] [] rfl rfl (by decide) (by decide) (by decide) [0, 1, 2, 3, 4] (by decide) rfl rfl (Nat.le_of_ble_eq_true rfl) dX2_secondOf_2 ⟨Nat.zero_le _, Nat.zero_le _⟩ rfl rfl ?_
  refine x_nif_eq E 17 dX2_secondOf_5 (by decide) (by decide) (fun h5 => ?_) (fun h => absurd h (fun h => h rfl))
  refine x_iconst E (v := nI 0) dX2_secondOf_17 (by decide) ?_
  exact x_iret E hr hlocks dX2_secondOf_18 ⟨rfl, rfl⟩
set_option maxRecDepth 100000 in
set_option maxHeartbeats 4000000 in
theorem c_X2_lengthOf_in (l : Launch) (D : va_G) (cB cI cZ cJ : ClassId) (t0 : Nat) (t1 : Nat) (t2 : Nat) (t3 : Nat) (t4 : Nat) (c : Nat) (S : Nat → Nat) (Ln : Nat → Nat) (Z : Nat → Bool) (K : Nat → UInt8) (k : Nat) (hc : c ≤ 600) (hk : k < c) : Ct l D vwCl (tyl cB cI cZ cJ) yX2_lengthOf wsX2_lengthOf rmX2_lengthOf [.ref t0, .int (nI k)] [(t0, .inr (2, [.ref t1, .ref t2, .ref t3, .ref t4, .int (nI c)])), (t1, .inl (cI, 600, .inl (nf S))), (t2, .inl (cI, 600, .inl (nf Ln))), (t3, .inl (cZ, 600, .inl (zf Z))), (t4, .inl (cB, 38400, .inl (bf K)))] (some (.int (nI (Ln k)))) [(t0, .inr (2, [.ref t1, .ref t2, .ref t3, .ref t4, .int (nI c)])), (t1, .inl (cI, 600, .inl (nf S))), (t2, .inl (cI, 600, .inl (nf Ln))), (t3, .inl (cZ, 600, .inl (zf Z))), (t4, .inl (cB, 38400, .inl (bf K)))] := by
  refine x_start (cc := cX2_lengthOf) (maxL := 2) (ret := (some .int)) (by decide) rfl (Nat.le_of_ble_eq_true rfl) ?_
  intro xp xe xs xm xb xt xc xA E hr hlocks hnm
  obtain ⟨-, -, -, hown, hts, hK, hA⟩ := id E
  refine x_lve (lv' := [(0, .ref t0), (1, .int (nI k))]) rfl ?_
  refine x_aload_n E 0 dX2_lengthOf_0 rfl ?_
  refine x_iload_n E 1 dX2_lengthOf_1 rfl ?_
  refine x_cV E [.int (nI k)] [] [.int (nI 1)] [(t0, .inr (2, [.ref t1, .ref t2, .ref t3, .ref t4, .int (nI c)])), (t1, .inl (cI, 600, .inl (nf S))), (t2, .inl (cI, 600, .inl (nf Ln))), (t3, .inl (cZ, 600, .inl (zf Z))), (t4, .inl (cB, 38400, .inl (bf K)))] (c_X2_has_in l D cB cI cZ cJ t0 t1 t2 t3 t4 c S Ln Z K k (by omega) (by omega)) 0 rfl rfl (cwV 1 hts gX2_lengthOf_X2_has rfl rfl rfl (by decide +kernel) ⟨Nat.le_of_ble_eq_true rfl, Nat.le_of_ble_eq_true rfl⟩) [0, 1, 2, 3, 4] [] rfl rfl (by decide) (by decide) (by decide) [0, 1, 2, 3, 4] (by decide) rfl rfl (Nat.le_of_ble_eq_true rfl) dX2_lengthOf_2 ⟨Nat.zero_le _, Nat.zero_le _⟩ rfl rfl ?_
  refine x_nif_eq E 17 dX2_lengthOf_5 (by decide) (by decide) (fun h => False.elim (by omega)) (fun h5 => ?_)
  refine x_aload_n E 0 dX2_lengthOf_8 rfl ?_
  refine x_get E 0 1 dX2_lengthOf_9 ui_X2_lengthOf_X2 rfl rfl (by decide) fl_X2_lengthOf_15 rfl rfl ?_
  refine x_iload_n E 1 dX2_lengthOf_12 rfl ?_
  refine x_nald E 2 1 dX2_lengthOf_13 rfl rfl (by omega) (by decide) ?_
  refine x_goto E 18 dX2_lengthOf_14 (by decide) ?_
  exact x_iret E hr hlocks dX2_lengthOf_18 ⟨rfl, rfl⟩
set_option maxRecDepth 100000 in
set_option maxHeartbeats 4000000 in
theorem c_X2_lastSecond_in (l : Launch) (D : va_G) (cB cI cZ cJ : ClassId) (t0 : Nat) (t1 : Nat) (t2 : Nat) (t3 : Nat) (t4 : Nat) (c : Nat) (S : Nat → Nat) (Ln : Nat → Nat) (Z : Nat → Bool) (K : Nat → UInt8) (h0 : 0 < c) (hc : c ≤ 600) : Ct l D vwCl (tyl cB cI cZ cJ) yX2_lastSecond wsX2_lastSecond rmX2_lastSecond [.ref t0] [(t0, .inr (2, [.ref t1, .ref t2, .ref t3, .ref t4, .int (nI c)])), (t1, .inl (cI, 600, .inl (nf S))), (t2, .inl (cI, 600, .inl (nf Ln))), (t3, .inl (cZ, 600, .inl (zf Z))), (t4, .inl (cB, 38400, .inl (bf K)))] (some (.int (nI (S (c - 1))))) [(t0, .inr (2, [.ref t1, .ref t2, .ref t3, .ref t4, .int (nI c)])), (t1, .inl (cI, 600, .inl (nf S))), (t2, .inl (cI, 600, .inl (nf Ln))), (t3, .inl (cZ, 600, .inl (zf Z))), (t4, .inl (cB, 38400, .inl (bf K)))] := by
  refine x_start (cc := cX2_lastSecond) (maxL := 1) (ret := (some .int)) (by decide) rfl (Nat.le_of_ble_eq_true rfl) ?_
  intro xp xe xs xm xb xt xc xA E hr hlocks hnm
  obtain ⟨-, -, -, hown, hts, hK, hA⟩ := id E
  refine x_lve (lv' := [(0, .ref t0)]) rfl ?_
  refine x_aload_n E 0 dX2_lastSecond_0 rfl ?_
  refine x_aload_n E 0 dX2_lastSecond_1 rfl ?_
  refine x_get E 0 4 dX2_lastSecond_2 ui_X2_lastSecond_X2 rfl rfl (by decide) fl_X2_lastSecond_27 rfl rfl ?_
  refine x_iconst E (v := nI 1) dX2_lastSecond_5 (by decide) ?_
  refine x_nisub E dX2_lastSecond_6 (by omega) ?_
  refine x_cV E [.int (nI (c - 1))] [] [.int (nI (S (c - 1)))] [(t0, .inr (2, [.ref t1, .ref t2, .ref t3, .ref t4, .int (nI c)])), (t1, .inl (cI, 600, .inl (nf S))), (t2, .inl (cI, 600, .inl (nf Ln))), (t3, .inl (cZ, 600, .inl (zf Z))), (t4, .inl (cB, 38400, .inl (bf K)))] (c_X2_secondOf_in l D cB cI cZ cJ t0 t1 t2 t3 t4 c S Ln Z K (c - 1) (by omega) (by omega)) 0 rfl rfl (cwV 1 hts gX2_lastSecond_X2_secondOf rfl rfl rfl (by decide +kernel) ⟨Nat.le_of_ble_eq_true rfl, Nat.le_of_ble_eq_true rfl⟩) [0, 1, 2, 3, 4] [] rfl rfl (by decide) (by decide) (by decide) [0, 1, 2, 3, 4] (by decide) rfl rfl (Nat.le_of_ble_eq_true rfl) dX2_lastSecond_7 ⟨Nat.zero_le _, Nat.zero_le _⟩ rfl rfl ?_
  exact x_iret E hr hlocks dX2_lastSecond_10 ⟨rfl, rfl⟩
set_option maxRecDepth 100000 in
set_option maxHeartbeats 4000000 in
theorem c_X2_lastSecond_no (l : Launch) (D : va_G) (cB cI cZ cJ : ClassId) (t0 : Nat) (t1 : Nat) (t2 : Nat) (t3 : Nat) (t4 : Nat) (S : Nat → Nat) (Ln : Nat → Nat) (Z : Nat → Bool) (K : Nat → UInt8)  : Ct l D vwCl (tyl cB cI cZ cJ) yX2_lastSecond wsX2_lastSecond rmX2_lastSecond [.ref t0] [(t0, .inr (2, [.ref t1, .ref t2, .ref t3, .ref t4, .int (nI 0)])), (t1, .inl (cI, 600, .inl (nf S))), (t2, .inl (cI, 600, .inl (nf Ln))), (t3, .inl (cZ, 600, .inl (zf Z))), (t4, .inl (cB, 38400, .inl (bf K)))] (some (.int (nI 0))) [(t0, .inr (2, [.ref t1, .ref t2, .ref t3, .ref t4, .int (nI 0)])), (t1, .inl (cI, 600, .inl (nf S))), (t2, .inl (cI, 600, .inl (nf Ln))), (t3, .inl (cZ, 600, .inl (zf Z))), (t4, .inl (cB, 38400, .inl (bf K)))] := by
  refine x_start (cc := cX2_lastSecond) (maxL := 1) (ret := (some .int)) (by decide) rfl (Nat.le_of_ble_eq_true rfl) ?_
  intro xp xe xs xm xb xt xc xA E hr hlocks hnm
  obtain ⟨-, -, -, hown, hts, hK, hA⟩ := id E
  refine x_lve (lv' := [(0, .ref t0)]) rfl ?_
  refine x_aload_n E 0 dX2_lastSecond_0 rfl ?_
  refine x_aload_n E 0 dX2_lastSecond_1 rfl ?_
  refine x_get E 0 4 dX2_lastSecond_2 ui_X2_lastSecond_X2 rfl rfl (by decide) fl_X2_lastSecond_27 rfl rfl ?_
  refine x_iconst E (v := nI 1) dX2_lastSecond_5 (by decide) ?_
  refine x_isub E dX2_lastSecond_6 ?_
  refine x_cV E [.int ((nI 0) - (nI 1))] [] [.int (nI 0)] [(t0, .inr (2, [.ref t1, .ref t2, .ref t3, .ref t4, .int (nI 0)])), (t1, .inl (cI, 600, .inl (nf S))), (t2, .inl (cI, 600, .inl (nf Ln))), (t3, .inl (cZ, 600, .inl (zf Z))), (t4, .inl (cB, 38400, .inl (bf K)))] (c_X2_secondOf_neg l D cB cI cZ cJ t0 t1 t2 t3 t4 0 S Ln Z K ((nI 0) - (nI 1)) n01) 0 rfl rfl (cwV 1 hts gX2_lastSecond_X2_secondOf rfl rfl rfl (by decide +kernel) ⟨Nat.le_of_ble_eq_true rfl, Nat.le_of_ble_eq_true rfl⟩) [0, 1, 2, 3, 4] [] rfl rfl (by decide) (by decide) (by decide) [0, 1, 2, 3, 4] (by decide) rfl rfl (Nat.le_of_ble_eq_true rfl) dX2_lastSecond_7 ⟨Nat.zero_le _, Nat.zero_le _⟩ rfl rfl ?_
  exact x_iret E hr hlocks dX2_lastSecond_10 ⟨rfl, rfl⟩
set_option maxRecDepth 100000 in
set_option maxHeartbeats 4000000 in
theorem c_X2_lastSecond (l : Launch) (D : va_G) (cB cI cZ cJ : ClassId) (t0 : Nat) (t1 : Nat) (t2 : Nat) (t3 : Nat) (t4 : Nat) (c : Nat) (S : Nat → Nat) (Ln : Nat → Nat) (Z : Nat → Bool) (K : Nat → UInt8) (hc : c ≤ 600) : Ct l D vwCl (tyl cB cI cZ cJ) yX2_lastSecond wsX2_lastSecond rmX2_lastSecond [.ref t0] [(t0, .inr (2, [.ref t1, .ref t2, .ref t3, .ref t4, .int (nI c)])), (t1, .inl (cI, 600, .inl (nf S))), (t2, .inl (cI, 600, .inl (nf Ln))), (t3, .inl (cZ, 600, .inl (zf Z))), (t4, .inl (cB, 38400, .inl (bf K)))] (some (.int (nI (lastS c S)))) [(t0, .inr (2, [.ref t1, .ref t2, .ref t3, .ref t4, .int (nI c)])), (t1, .inl (cI, 600, .inl (nf S))), (t2, .inl (cI, 600, .inl (nf Ln))), (t3, .inl (cZ, 600, .inl (zf Z))), (t4, .inl (cB, 38400, .inl (bf K)))] := by
  by_cases h : c = 0
  · subst h
    exact c_X2_lastSecond_no l D cB cI cZ cJ t0 t1 t2 t3 t4 S Ln Z K
  · have e : lastS c S = S (c - 1) := if_neg h
    rw [e]
    exact c_X2_lastSecond_in l D cB cI cZ cJ t0 t1 t2 t3 t4 c S Ln Z K (by omega) hc
set_option maxRecDepth 100000 in
set_option maxHeartbeats 4000000 in
theorem c_X2_monthOf (l : Launch) (D : va_G) (cB cI cZ cJ : ClassId) (t0 : Nat) (t1 : Nat) (t2 : Nat) (t3 : Nat) (t4 : Nat) (c : Nat) (S : Nat → Nat) (Ln : Nat → Nat) (Z : Nat → Bool) (K : Nat → UInt8) (k : Nat) (hc : c ≤ 600) (hk : k < c) (hs : S k < 2 ^ 31) : Ct l D vwCl (tyl cB cI cZ cJ) yX2_monthOf wsX2_monthOf rmX2_monthOf [.ref t0, .int (nI k)] [(t0, .inr (2, [.ref t1, .ref t2, .ref t3, .ref t4, .int (nI c)])), (t1, .inl (cI, 600, .inl (nf S))), (t2, .inl (cI, 600, .inl (nf Ln))), (t3, .inl (cZ, 600, .inl (zf Z))), (t4, .inl (cB, 38400, .inl (bf K)))] (some (.int (nI (S k / 2592000)))) [(t0, .inr (2, [.ref t1, .ref t2, .ref t3, .ref t4, .int (nI c)])), (t1, .inl (cI, 600, .inl (nf S))), (t2, .inl (cI, 600, .inl (nf Ln))), (t3, .inl (cZ, 600, .inl (zf Z))), (t4, .inl (cB, 38400, .inl (bf K)))] := by
  refine x_start (cc := cX2_monthOf) (maxL := 2) (ret := (some .int)) (by decide) rfl (Nat.le_of_ble_eq_true rfl) ?_
  intro xp xe xs xm xb xt xc xA E hr hlocks hnm
  obtain ⟨-, -, -, hown, hts, hK, hA⟩ := id E
  refine x_lve (lv' := [(0, .ref t0), (1, .int (nI k))]) rfl ?_
  refine x_aload_n E 0 dX2_monthOf_0 rfl ?_
  refine x_iload_n E 1 dX2_monthOf_1 rfl ?_
  refine x_cV E [.int (nI k)] [] [.int (nI (S k))] [(t0, .inr (2, [.ref t1, .ref t2, .ref t3, .ref t4, .int (nI c)])), (t1, .inl (cI, 600, .inl (nf S))), (t2, .inl (cI, 600, .inl (nf Ln))), (t3, .inl (cZ, 600, .inl (zf Z))), (t4, .inl (cB, 38400, .inl (bf K)))] (c_X2_secondOf_in l D cB cI cZ cJ t0 t1 t2 t3 t4 c S Ln Z K k (by omega) (by omega)) 0 rfl rfl (cwV 1 hts gX2_monthOf_X2_secondOf rfl rfl rfl (by decide +kernel) ⟨Nat.le_of_ble_eq_true rfl, Nat.le_of_ble_eq_true rfl⟩) [0, 1, 2, 3, 4] [] rfl rfl (by decide) (by decide) (by decide) [0, 1, 2, 3, 4] (by decide) rfl rfl (Nat.le_of_ble_eq_true rfl) dX2_monthOf_2 ⟨Nat.zero_le _, Nat.zero_le _⟩ rfl rfl ?_
  refine x_ldc E (v := nI 2592000) dX2_monthOf_5 cn_X2_monthOf_39 (by decide +kernel) ?_
  refine x_nidiv E dX2_monthOf_7 (by omega) (by omega) (by decide) ?_
  exact x_iret E hr hlocks dX2_monthOf_8 ⟨rfl, rfl⟩
set_option maxRecDepth 100000 in
set_option maxHeartbeats 4000000 in
theorem c_X2_contentAt_in (l : Launch) (D : va_G) (cB cI cZ cJ : ClassId) (t0 : Nat) (t1 : Nat) (t2 : Nat) (t3 : Nat) (t4 : Nat) (c : Nat) (S : Nat → Nat) (Ln : Nat → Nat) (Z : Nat → Bool) (K : Nat → UInt8) (k : Nat) (i : Nat) (hc : c ≤ 600) (hk : k < c) (hl : Ln k ≤ 64) (hi : i < Ln k) : Ct l D vwCl (tyl cB cI cZ cJ) yX2_contentAt wsX2_contentAt rmX2_contentAt [.ref t0, .int (nI k), .int (nI i)] [(t0, .inr (2, [.ref t1, .ref t2, .ref t3, .ref t4, .int (nI c)])), (t1, .inl (cI, 600, .inl (nf S))), (t2, .inl (cI, 600, .inl (nf Ln))), (t3, .inl (cZ, 600, .inl (zf Z))), (t4, .inl (cB, 38400, .inl (bf K)))] (some (.int (nI ((K (k * 64 + i)).toNat)))) [(t0, .inr (2, [.ref t1, .ref t2, .ref t3, .ref t4, .int (nI c)])), (t1, .inl (cI, 600, .inl (nf S))), (t2, .inl (cI, 600, .inl (nf Ln))), (t3, .inl (cZ, 600, .inl (zf Z))), (t4, .inl (cB, 38400, .inl (bf K)))] := by
  refine x_start (cc := cX2_contentAt) (maxL := 3) (ret := (some .int)) (by decide) rfl (Nat.le_of_ble_eq_true rfl) ?_
  intro xp xe xs xm xb xt xc xA E hr hlocks hnm
  obtain ⟨-, -, -, hown, hts, hK, hA⟩ := id E
  refine x_lve (lv' := [(0, .ref t0), (1, .int (nI k)), (2, .int (nI i))]) rfl ?_
  refine x_iload_n E 2 dX2_contentAt_0 rfl ?_
  refine x_nif_lt E 19 dX2_contentAt_1 (by decide) (by omega) (fun h => absurd h (fun h => Nat.not_lt_zero _ h)) (fun h1 => ?_)
  refine x_iload_n E 2 dX2_contentAt_4 rfl ?_
  refine x_aload_n E 0 dX2_contentAt_5 rfl ?_
  refine x_iload_n E 1 dX2_contentAt_6 rfl ?_
  refine x_cV E [.int (nI k)] [.int (nI i)] [.int (nI (Ln k)), .int (nI i)] [(t0, .inr (2, [.ref t1, .ref t2, .ref t3, .ref t4, .int (nI c)])), (t1, .inl (cI, 600, .inl (nf S))), (t2, .inl (cI, 600, .inl (nf Ln))), (t3, .inl (cZ, 600, .inl (zf Z))), (t4, .inl (cB, 38400, .inl (bf K)))] (c_X2_lengthOf_in l D cB cI cZ cJ t0 t1 t2 t3 t4 c S Ln Z K k (by omega) (by omega)) 0 rfl rfl (cwV 1 hts gX2_contentAt_X2_lengthOf rfl rfl rfl (by decide +kernel) ⟨Nat.le_of_ble_eq_true rfl, Nat.le_of_ble_eq_true rfl⟩) [0, 1, 2, 3, 4] [] rfl rfl (by decide) (by decide) (by decide) [0, 1, 2, 3, 4] (by decide) rfl rfl (Nat.le_of_ble_eq_true rfl) dX2_contentAt_7 ⟨Nat.zero_le _, Nat.zero_le _⟩ rfl rfl ?_
  refine x_ncmp_ge E 19 dX2_contentAt_10 (by decide) (by omega) (by omega) (fun h => False.elim (by omega)) (fun h10 => ?_)
  refine x_iload_n E 2 dX2_contentAt_13 rfl ?_
  refine x_bipush E (v := nI 64) dX2_contentAt_14 (by decide) ?_
  refine x_ncmp_lt E 21 dX2_contentAt_16 (by decide) (by omega) (by decide) (fun h16 => ?_) (fun h => False.elim (by omega))
  refine x_aload_n E 0 dX2_contentAt_21 rfl ?_
  refine x_get E 0 3 dX2_contentAt_22 ui_X2_contentAt_X2 rfl rfl (by decide) fl_X2_contentAt_23 rfl rfl ?_
  refine x_iload_n E 1 dX2_contentAt_25 rfl ?_
  refine x_bipush E (v := nI 64) dX2_contentAt_26 (by decide) ?_
  refine x_nimul E dX2_contentAt_28 ?_
  refine x_iload_n E 2 dX2_contentAt_29 rfl ?_
  refine x_niadd E dX2_contentAt_30 ?_
  refine x_bald E 4 0 dX2_contentAt_31 rfl rfl (by omega) (by decide) ?_
  refine x_sipush E (v := nI 255) dX2_contentAt_32 (by decide) ?_
  refine x_iand' E dX2_contentAt_35 (bf_n255 _ _) ?_
  exact x_iret E hr hlocks dX2_contentAt_36 ⟨rfl, rfl⟩
set_option maxRecDepth 100000 in
set_option maxHeartbeats 4000000 in
theorem c_X2_contentAt (l : Launch) (D : va_G) (cB cI cZ cJ : ClassId) (t0 : Nat) (t1 : Nat) (t2 : Nat) (t3 : Nat) (t4 : Nat) (c : Nat) (S : Nat → Nat) (Ln : Nat → Nat) (Z : Nat → Bool) (K : Nat → UInt8) (k : Nat) (x : Int32) (hc : c ≤ 600) (hk : k < c) (hl : Ln k ≤ 64) : Ct l D vwCl (tyl cB cI cZ cJ) yX2_contentAt wsX2_contentAt rmX2_contentAt [.ref t0, .int (nI k), .int x] [(t0, .inr (2, [.ref t1, .ref t2, .ref t3, .ref t4, .int (nI c)])), (t1, .inl (cI, 600, .inl (nf S))), (t2, .inl (cI, 600, .inl (nf Ln))), (t3, .inl (cZ, 600, .inl (zf Z))), (t4, .inl (cB, 38400, .inl (bf K)))] (some (.int (cAt (Ln k) (fun j => K (k * 64 + j)) x))) [(t0, .inr (2, [.ref t1, .ref t2, .ref t3, .ref t4, .int (nI c)])), (t1, .inl (cI, 600, .inl (nf S))), (t2, .inl (cI, 600, .inl (nf Ln))), (t3, .inl (cZ, 600, .inl (zf Z))), (t4, .inl (cB, 38400, .inl (bf K)))] := by
  refine x_start (cc := cX2_contentAt) (maxL := 3) (ret := (some .int)) (by decide) rfl (Nat.le_of_ble_eq_true rfl) ?_
  intro xp xe xs xm xb xt xc xA E hr hlocks hnm
  obtain ⟨-, -, -, hown, hts, hK, hA⟩ := id E
  refine x_lve (lv' := [(0, .ref t0), (1, .int (nI k)), (2, .int x)]) rfl ?_
  refine x_iload_n E 2 dX2_contentAt_0 rfl ?_
  refine x_if_lt E 19 dX2_contentAt_1 (by decide) (fun h1 => ?_) (fun h1 => ?_)
  · refine x_iconst E (v := (-1)) dX2_contentAt_19 (by decide) ?_
    exact x_iret E hr hlocks dX2_contentAt_20 ⟨by unfold cAt; rw [if_pos h1], rfl⟩
  · obtain ⟨j, hj, rfl⟩ := nI_of h1
    refine x_iload_n E 2 dX2_contentAt_4 rfl ?_
    refine x_aload_n E 0 dX2_contentAt_5 rfl ?_
    refine x_iload_n E 1 dX2_contentAt_6 rfl ?_
    refine x_cV E [.int (nI k)] [.int (nI j)] [.int (nI (Ln k)), .int (nI j)] [(t0, .inr (2, [.ref t1, .ref t2, .ref t3, .ref t4, .int (nI c)])), (t1, .inl (cI, 600, .inl (nf S))), (t2, .inl (cI, 600, .inl (nf Ln))), (t3, .inl (cZ, 600, .inl (zf Z))), (t4, .inl (cB, 38400, .inl (bf K)))] (c_X2_lengthOf_in l D cB cI cZ cJ t0 t1 t2 t3 t4 c S Ln Z K k (by omega) (by omega)) 0 rfl rfl (cwV 1 hts gX2_contentAt_X2_lengthOf rfl rfl rfl (by decide +kernel) ⟨Nat.le_of_ble_eq_true rfl, Nat.le_of_ble_eq_true rfl⟩) [0, 1, 2, 3, 4] [] rfl rfl (by decide) (by decide) (by decide) [0, 1, 2, 3, 4] (by decide) rfl rfl (Nat.le_of_ble_eq_true rfl) dX2_contentAt_7 ⟨Nat.zero_le _, Nat.zero_le _⟩ rfl rfl ?_
    refine x_ncmp_ge E 19 dX2_contentAt_10 (by decide) (by omega) (by omega) (fun h10 => ?_) (fun h10 => ?_)
    · refine x_iconst E (v := (-1)) dX2_contentAt_19 (by decide) ?_
      exact x_iret E hr hlocks dX2_contentAt_20 ⟨by unfold cAt; rw [if_neg h1, if_pos ((nI_leI (by omega) (by omega)).mpr h10)], rfl⟩
    · refine x_iload_n E 2 dX2_contentAt_13 rfl ?_
      refine x_bipush E (v := nI 64) dX2_contentAt_14 (by decide) ?_
      refine x_ncmp_lt E 21 dX2_contentAt_16 (by decide) (by omega) (by decide) (fun h16 => ?_) (fun h => False.elim (by omega))
      refine x_aload_n E 0 dX2_contentAt_21 rfl ?_
      refine x_get E 0 3 dX2_contentAt_22 ui_X2_contentAt_X2 rfl rfl (by decide) fl_X2_contentAt_23 rfl rfl ?_
      refine x_iload_n E 1 dX2_contentAt_25 rfl ?_
      refine x_bipush E (v := nI 64) dX2_contentAt_26 (by decide) ?_
      refine x_nimul E dX2_contentAt_28 ?_
      refine x_iload_n E 2 dX2_contentAt_29 rfl ?_
      refine x_niadd E dX2_contentAt_30 ?_
      refine x_bald E 4 0 dX2_contentAt_31 rfl rfl (by omega) (by decide) ?_
      refine x_sipush E (v := nI 255) dX2_contentAt_32 (by decide) ?_
      refine x_iand' E dX2_contentAt_35 (bf_n255 _ _) ?_
      exact x_iret E hr hlocks dX2_contentAt_36 ⟨by unfold cAt; rw [if_neg h1, if_neg (fun q => absurd ((nI_leI (by omega) (by omega)).mp q) (by omega)), nI_clamp hj], rfl⟩
set_option maxRecDepth 100000 in
set_option maxHeartbeats 4000000 in
theorem c_X2_bytesInFile (l : Launch) (D : va_G) (cB cI cZ cJ : ClassId) (t0 : Nat) (t1 : Nat) (t2 : Nat) (t3 : Nat) (t4 : Nat) (c : Nat) (S : Nat → Nat) (Ln : Nat → Nat) (Z : Nat → Bool) (K : Nat → UInt8) (p0 : Nat) (q0 : Nat) (hc : c ≤ 600) (hp : p0 ≤ q0) (hq : q0 ≤ c) : Ct l D vwCl (tyl cB cI cZ cJ) yX2_bytesInFile wsX2_bytesInFile rmX2_bytesInFile [.ref t0, .int (nI p0), .int (nI q0)] [(t0, .inr (2, [.ref t1, .ref t2, .ref t3, .ref t4, .int (nI c)])), (t1, .inl (cI, 600, .inl (nf S))), (t2, .inl (cI, 600, .inl (nf Ln))), (t3, .inl (cZ, 600, .inl (zf Z))), (t4, .inl (cB, 38400, .inl (bf K)))] (some (.int (nI (bsz Ln Z p0 (q0 - p0) 0)))) [(t0, .inr (2, [.ref t1, .ref t2, .ref t3, .ref t4, .int (nI c)])), (t1, .inl (cI, 600, .inl (nf S))), (t2, .inl (cI, 600, .inl (nf Ln))), (t3, .inl (cZ, 600, .inl (zf Z))), (t4, .inl (cB, 38400, .inl (bf K)))] := by
  refine x_start (cc := cX2_bytesInFile) (maxL := 5) (ret := (some .int)) (by decide) rfl (Nat.le_of_ble_eq_true rfl) ?_
  intro xp xe xs xm xb xt xc xA E hr hlocks hnm
  obtain ⟨-, -, -, hown, hts, hK, hA⟩ := id E
  refine x_lve (lv' := [(0, .ref t0), (1, .int (nI p0)), (2, .int (nI q0))]) rfl ?_
  have loop : ∀ (k i a : Nat), i + k = q0 → bsz Ln Z i k a = bsz Ln Z p0 (q0 - p0) 0 → Xs xp l xe rmX2_bytesInFile xs xm ([.ref t0, .int (nI p0), .int (nI q0)] : List Value).toArray xb xt xc D vwCl xA 5 0 0 (MQ xb (CQ D vwCl (tyl cB cI cZ cJ) xA (fun r u => r = (some (.int (nI (bsz Ln Z p0 (q0 - p0) 0)))) ∧ u = [(t0, .inr (2, [.ref t1, .ref t2, .ref t3, .ref t4, .int (nI c)])), (t1, .inl (cI, 600, .inl (nf S))), (t2, .inl (cI, 600, .inl (nf Ln))), (t3, .inl (cZ, 600, .inl (zf Z))), (t4, .inl (cB, 38400, .inl (bf K)))])) ([.ref t0, .int (nI p0), .int (nI q0)] : List Value).toArray xs 0 0 xA) [(t0, .inr (2, [.ref t1, .ref t2, .ref t3, .ref t4, .int (nI c)])), (t1, .inl (cI, 600, .inl (nf S))), (t2, .inl (cI, 600, .inl (nf Ln))), (t3, .inl (cZ, 600, .inl (zf Z))), (t4, .inl (cB, 38400, .inl (bf K)))] [(4, .int (nI i)), (3, .int (nI a)), (0, .ref t0), (1, .int (nI p0)), (2, .int (nI q0))] 5 [] := by
    intro k
    induction k with
    | zero =>
      intro i a h1 h2
      refine x_iload E 0 dX2_bytesInFile_5 rfl ?_
      refine x_iload_n E 4 dX2_bytesInFile_7 rfl ?_
      refine x_ncmp_ge E 45 dX2_bytesInFile_8 (by decide) (by omega) (by omega) (fun h8 => ?_) (fun h => False.elim (by omega))
      refine x_iload_n E 1 dX2_bytesInFile_45 rfl ?_
      exact x_iret E hr hlocks dX2_bytesInFile_46 ⟨by rw [← h2]; rfl, rfl⟩
    | succ k ih =>
      intro i a h1 h2
      refine x_iload E 0 dX2_bytesInFile_5 rfl ?_
      refine x_iload_n E 4 dX2_bytesInFile_7 rfl ?_
      refine x_ncmp_ge E 45 dX2_bytesInFile_8 (by decide) (by omega) (by omega) (fun h => False.elim (by omega)) (fun h8 => ?_)
      refine x_iload_n E 1 dX2_bytesInFile_11 rfl ?_
      refine x_aload_n E 2 dX2_bytesInFile_12 rfl ?_
      refine x_iload E 0 dX2_bytesInFile_13 rfl ?_
      refine x_cV E [.int (nI i)] [.int (nI a)] [.int (nI (Ln i)), .int (nI a)] [(t0, .inr (2, [.ref t1, .ref t2, .ref t3, .ref t4, .int (nI c)])), (t1, .inl (cI, 600, .inl (nf S))), (t2, .inl (cI, 600, .inl (nf Ln))), (t3, .inl (cZ, 600, .inl (zf Z))), (t4, .inl (cB, 38400, .inl (bf K)))] (c_X2_lengthOf_in l D cB cI cZ cJ t0 t1 t2 t3 t4 c S Ln Z K i (by omega) (by omega)) 0 rfl rfl (cwV 1 hts gX2_bytesInFile_X2_lengthOf rfl rfl rfl (by decide +kernel) ⟨Nat.le_of_ble_eq_true rfl, Nat.le_of_ble_eq_true rfl⟩) [0, 1, 2, 3, 4] [] rfl rfl (by decide) (by decide) (by decide) [0, 1, 2, 3, 4] (by decide) rfl rfl (Nat.le_of_ble_eq_true rfl) dX2_bytesInFile_15 ⟨Nat.zero_le _, Nat.zero_le _⟩ rfl rfl ?_
      refine x_bipush E (v := nI 11) dX2_bytesInFile_18 (by decide) ?_
      refine x_niadd E dX2_bytesInFile_20 ?_
      refine x_aload_n E 2 dX2_bytesInFile_21 rfl ?_
      refine x_iload E 0 dX2_bytesInFile_22 rfl ?_
      refine x_cV E [.int (nI i)] [.int (nI ((Ln i) + 11)), .int (nI a)] [.int (if Z i = true then 1 else 0), .int (nI ((Ln i) + 11)), .int (nI a)] [(t0, .inr (2, [.ref t1, .ref t2, .ref t3, .ref t4, .int (nI c)])), (t1, .inl (cI, 600, .inl (nf S))), (t2, .inl (cI, 600, .inl (nf Ln))), (t3, .inl (cZ, 600, .inl (zf Z))), (t4, .inl (cB, 38400, .inl (bf K)))] (c_X2_endsGroup l D cB cI cZ cJ t0 t1 t2 t3 t4 c S Ln Z K i (by omega) (by omega)) 0 rfl rfl (cwV 1 hts gX2_bytesInFile_X2_endsGroup rfl rfl rfl (by decide +kernel) ⟨Nat.le_of_ble_eq_true rfl, Nat.le_of_ble_eq_true rfl⟩) [0, 1, 2, 3, 4] [] rfl rfl (by decide) (by decide) (by decide) [0, 1, 2, 3, 4] (by decide) rfl rfl (Nat.le_of_ble_eq_true rfl) dX2_bytesInFile_24 ⟨Nat.zero_le _, Nat.zero_le _⟩ rfl rfl ?_
      refine x_qif_eq E 35 dX2_bytesInFile_27 (by decide) (fun h27 => ?_) (fun h27 => ?_)
      · refine x_iconst E (v := nI 0) dX2_bytesInFile_35 (by decide) ?_
        refine x_niadd E dX2_bytesInFile_36 ?_
        refine x_niadd E dX2_bytesInFile_37 ?_
        refine x_istore_n E [(3, .int (nI (a + (((Ln i) + 11) + 0)))), (4, .int (nI i)), (0, .ref t0), (1, .int (nI p0)), (2, .int (nI q0))] dX2_bytesInFile_38 (by decide) rfl ?_
        refine x_iinc E 1 [(4, .int (nI (i + 1))), (3, .int (nI (a + (((Ln i) + 11) + 0)))), (0, .ref t0), (1, .int (nI p0)), (2, .int (nI q0))] dX2_bytesInFile_39 rfl (nI_add _ _) (by decide) rfl ?_
        refine x_goto E 5 dX2_bytesInFile_42 (by decide) ?_
        exact ih (i + 1) _ (by omega) (by rw [← h2, bsz_s, h27]; rfl)
      · refine x_bipush E (v := nI 6) dX2_bytesInFile_30 (by decide) ?_
        refine x_goto E 36 dX2_bytesInFile_32 (by decide) ?_
        refine x_niadd E dX2_bytesInFile_36 ?_
        refine x_niadd E dX2_bytesInFile_37 ?_
        refine x_istore_n E [(3, .int (nI (a + (((Ln i) + 11) + 6)))), (4, .int (nI i)), (0, .ref t0), (1, .int (nI p0)), (2, .int (nI q0))] dX2_bytesInFile_38 (by decide) rfl ?_
        refine x_iinc E 1 [(4, .int (nI (i + 1))), (3, .int (nI (a + (((Ln i) + 11) + 6)))), (0, .ref t0), (1, .int (nI p0)), (2, .int (nI q0))] dX2_bytesInFile_39 rfl (nI_add _ _) (by decide) rfl ?_
        refine x_goto E 5 dX2_bytesInFile_42 (by decide) ?_
        exact ih (i + 1) _ (by omega) (by rw [← h2, bsz_s, h27]; rfl)
  refine x_iconst E (v := nI 0) dX2_bytesInFile_0 (by decide) ?_
  refine x_istore_n E [(3, .int (nI 0)), (0, .ref t0), (1, .int (nI p0)), (2, .int (nI q0))] dX2_bytesInFile_1 (by decide) rfl ?_
  refine x_iload_n E 2 dX2_bytesInFile_2 rfl ?_
  refine x_istore E [(4, .int (nI p0)), (3, .int (nI 0)), (0, .ref t0), (1, .int (nI p0)), (2, .int (nI q0))] dX2_bytesInFile_3 (by decide) rfl ?_
  exact loop (q0 - p0) p0 0 (by omega) rfl
end
section
abbrev rmX0_endOfGood : Room := { frames := 3, cells := 0, slots := 0, locals := 73 }
abbrev rmX0_isEndGood : Room := { frames := 2, cells := 0, slots := 0, locals := 46 }
abbrev rmX0_isRowGood : Room := { frames := 2, cells := 0, slots := 0, locals := 46 }
abbrev rmX0_read : Room := { frames := 2, cells := 0, slots := 0, locals := 45 }
abbrev rmX0_write : Room := { frames := 4, cells := 0, slots := 0, locals := 89 }
abbrev rmX0_writeRow : Room := { frames := 3, cells := 0, slots := 0, locals := 64 }
theorem cn_X0_isRowGood_66 : Jvm.Cond.constant RX0 66 (1000000000) ∈ wsX0_isRowGood := by decide +kernel
/-- sums over lists -/
def itL (f : Int32 → UInt8 → Int32) : List UInt8 → Int32 → Int32
  | [], s => s
  | b :: r, s => itL f r (f s b)
def smL (l : List UInt8) (s : Int32) : Int32 := itL sm l s
/-- k bytes from p on, as a list -/
def conL (g : Nat → UInt8) : Nat → Nat → List UInt8
  | _, 0 => []
  | p, k + 1 => g p :: conL g (p + 1) k
/-- a row in a file, ahead of its sum -/
def rowL (num sec len : Nat) (g : Nat → UInt8) (p : Nat) : List UInt8 := u8 (nI len) :: (beL (nI sec) 4 ++ (conL g p len ++ beL (nI num) 2))
def rowSm (num sec len : Nat) (g : Nat → UInt8) (p : Nat) : Int32 := smL (rowL num sec len g p) (nI 0)
def rowB (num sec len : Nat) (g : Nat → UInt8) (p : Nat) : List UInt8 := rowL num sec len g p ++ beL (rowSm num sec len g p) 4
/-- k rows of a table from r on, and the last one's sum -/
def rowsB (S Ln : Nat → Nat) (K : Nat → UInt8) : Nat → Nat → List UInt8
  | _, 0 => []
  | r, k + 1 => rowB r (S r) (Ln r) K (r * 64) ++ rowsB S Ln K (r + 1) k
def rowsSm (S Ln : Nat → Nat) (K : Nat → UInt8) : Nat → Nat → Int32 → Int32
  | _, 0, s => s
  | r, k + 1, _ => rowsSm S Ln K (r + 1) k (rowSm r (S r) (Ln r) K (r * 64))
/-- a group's end -/
def endB (k : Nat) (s : Int32) : List UInt8 := u8 (nI 0) :: (u8 (nI k) :: beL (smL [u8 (nI 0), u8 (nI k)] s) 4)
def grpB (S Ln : Nat → Nat) (K : Nat → UInt8) (r k : Nat) : List UInt8 := rowsB S Ln K r k ++ endB k (rowsSm S Ln K r k (nI 0))
/-- what k rows from r on take, without groups' ends -/
def rsz (Ln : Nat → Nat) : Nat → Nat → Nat
  | _, 0 => 0
  | r, k + 1 => (Ln r + 11) + rsz Ln (r + 1) k
theorem itL_s (f : Int32 → UInt8 → Int32) (b : UInt8) (r : List UInt8) (s : Int32) : itL f (b :: r) s = itL f r (f s b) := rfl
theorem app_s (g : Nat → UInt8) (p : Nat) (b : UInt8) (r : List UInt8) : app g p (b :: r) = app (va_up g p b) (p + 1) r := rfl
theorem app_app (l1 l2 : List UInt8) : ∀ (g : Nat → UInt8) (p : Nat), app g p (l1 ++ l2) = app (app g p l1) (p + l1.length) l2 := by
  induction l1 with
  | nil => intro g p; rfl
  | cons b r ih =>
    intro g p
    rw [List.cons_append, app_s, app_s, ih, List.length_cons]
    congr 1
    omega
theorem app_lo (l : List UInt8) : ∀ (g : Nat → UInt8) (p j : Nat), j < p → app g p l j = g j := by
  induction l with
  | nil => intro g p j _; rfl
  | cons b r ih =>
    intro g p j h
    rw [app_s, ih _ _ _ (by omega), va_up_ne _ _ (by omega)]
theorem app_hi (l : List UInt8) : ∀ (g : Nat → UInt8) (p j : Nat), p + l.length ≤ j → app g p l j = g j := by
  induction l with
  | nil => intro g p j _; rfl
  | cons b r ih =>
    intro g p j h
    rw [List.length_cons] at h
    rw [app_s, ih _ _ _ (by omega), va_up_ne _ _ (by omega)]
theorem beL_len (v : Int32) : ∀ w, (beL v w).length = w
  | 0 => rfl
  | w + 1 => by show (beL v w).length + 1 = w + 1; rw [beL_len v w]
theorem conL_len (g : Nat → UInt8) : ∀ k p, (conL g p k).length = k
  | 0, _ => rfl
  | k + 1, p => by show (conL g (p + 1) k).length + 1 = k + 1; rw [conL_len g k (p + 1)]
theorem conL_s (g : Nat → UInt8) (p k : Nat) : conL g p (k + 1) = g p :: conL g (p + 1) k := rfl
/-- the sum over bytes just laid -/
theorem itG_app (f : Int32 → UInt8 → Int32) (l : List UInt8) : ∀ (g : Nat → UInt8) (p : Nat) (s : Int32), itG f (app g p l) p l.length s = itL f l s := by
  induction l with
  | nil => intro g p s; rfl
  | cons b r ih =>
    intro g p s
    rw [List.length_cons, itG_s, itL_s, app_s]
    have e : app (va_up g p b) (p + 1) r p = b := by rw [app_lo _ _ _ _ (by omega), va_up_self]
    rw [e, ih]
theorem smG_app (l : List UInt8) (g : Nat → UInt8) (p : Nat) (s : Int32) : smG (app g p l) p l.length s = smL l s := itG_app sm l g p s
theorem u8_u (u : UInt8) : u8 (nI u.toNat) = u := by
  have h : ∀ n : Fin 256, u8 (nI (UInt8.ofNat n.val).toNat) = UInt8.ofNat n.val := by decide +kernel
  have h2 := h ⟨u.toNat, u.toNat_lt⟩
  simpa using h2
theorem rowL_len (num sec len : Nat) (g : Nat → UInt8) (p : Nat) : (rowL num sec len g p).length = 7 + len := by
  unfold rowL
  rw [List.length_cons, List.length_append, List.length_append, beL_len, beL_len, conL_len]
  omega
theorem rowB_len (num sec len : Nat) (g : Nat → UInt8) (p : Nat) : (rowB num sec len g p).length = 11 + len := by
  unfold rowB
  rw [List.length_append, rowL_len, beL_len]
  omega
/-- a row's bytes, as they are laid one behind another -/
theorem rowL_app (num sec len : Nat) (h : Nat → UInt8) (q : Nat) (g : Nat → UInt8) (n : Nat) : app (app (app (va_up g n (u8 (nI len))) (n + 1) (beL (nI sec) 4)) (n + 1 + 4) (conL h q len)) (n + 1 + 4 + len) (beL (nI num) 2) = app g n (rowL num sec len h q) := by
  unfold rowL
  rw [app_s, app_app, app_app, beL_len, conL_len]
theorem rowsB_len (S Ln : Nat → Nat) (K : Nat → UInt8) : ∀ k r, (rowsB S Ln K r k).length = rsz Ln r k
  | 0, _ => rfl
  | k + 1, r => by
    show (rowB r (S r) (Ln r) K (r * 64) ++ rowsB S Ln K (r + 1) k).length = (Ln r + 11) + rsz Ln (r + 1) k
    rw [List.length_append, rowB_len, rowsB_len S Ln K k (r + 1)]
    omega
theorem rowsB_s (S Ln : Nat → Nat) (K : Nat → UInt8) (r k : Nat) : rowsB S Ln K r (k + 1) = rowB r (S r) (Ln r) K (r * 64) ++ rowsB S Ln K (r + 1) k := rfl
theorem rowsSm_s (S Ln : Nat → Nat) (K : Nat → UInt8) (r k : Nat) (s : Int32) : rowsSm S Ln K r (k + 1) s = rowsSm S Ln K (r + 1) k (rowSm r (S r) (Ln r) K (r * 64)) := rfl
theorem rsz_s (Ln : Nat → Nat) (r k : Nat) : rsz Ln r (k + 1) = (Ln r + 11) + rsz Ln (r + 1) k := rfl
/-- whether a row is good: number m, second not below sb -/
abbrev RowOk (n : Nat) (g : Nat → UInt8) (p m : Nat) (sb : Int32) : Prop :=
  1 ≤ (g p).toNat ∧ (g p).toNat ≤ 64 ∧ p + (g p).toNat + 11 ≤ n ∧ m < 600 ∧ ¬ beG g (p + 1) 4 (nI 0) < sb ∧ beG g (p + 1) 4 (nI 0) ≤ nI 1000000000 ∧ beG g (p + (g p).toNat + 11 - 4 - 2) 2 (nI 0) = nI m ∧ beG g (p + (g p).toNat + 11 - 4) 4 (nI 0) = smG g p (p + (g p).toNat + 11 - 4 - p) (nI 0)
/-- whether a group's end is good at p, behind k rows -/
abbrev EndOk (n : Nat) (g : Nat → UInt8) (p k : Nat) : Prop :=
  p + 6 ≤ n ∧ (g p).toNat = 0 ∧ (g (p + 1)).toNat = k ∧ beG g (p + 2) 4 (nI 0) = smG g p (p + 2 - p) (beG g (p - 4) 4 (nI 0))
/-- the rows of a group, up to f more; none where one isn't good -/
def scan (n : Nat) (g : Nat → UInt8) (base : Nat) : Nat → Nat → Nat → Int32 → Option (Nat × Nat)
  | 0, p, k, _ => some (p, k)
  | f + 1, p, k, sb => if p < n ∧ 0 < (g p).toNat then (if RowOk n g p (base + k) sb then scan n g base f (p + ((g p).toNat + 11)) (k + 1) (beG g (p + 1) 4 (nI 0)) else none) else some (p, k)
def endS (n : Nat) (g : Nat → UInt8) (o : Option (Nat × Nat)) : Option Nat := match o with
  | none => none
  | some (p, k) => if 0 < k ∧ EndOk n g p k then some (p + 6) else none
/-- the place behind a good group -/
def endG (n : Nat) (g : Nat → UInt8) (base : Nat) (sb : Int32) (p : Nat) : Option Nat := endS n g (scan n g base 16 p 0 sb)
def oI (o : Option Nat) : Int32 := match o with
  | none => (-1)
  | some e => nI e
theorem scan_s (n : Nat) (g : Nat → UInt8) (base f p k : Nat) (sb : Int32) : scan n g base (f + 1) p k sb = if p < n ∧ 0 < (g p).toNat then (if RowOk n g p (base + k) sb then scan n g base f (p + ((g p).toNat + 11)) (k + 1) (beG g (p + 1) 4 (nI 0)) else none) else some (p, k) := rfl
/-- a row's second, as a number -/
def secN (g : Nat → UInt8) (p : Nat) : Nat := (beG g (p + 1) 4 (nI 0)).toNatClampNeg
/-- k rows that can be read, from p on -/
def GR (n : Nat) (g : Nat → UInt8) : Nat → Nat → Prop
  | _, 0 => True
  | p, k + 1 => 1 ≤ (g p).toNat ∧ (g p).toNat ≤ 64 ∧ p + (g p).toNat + 11 ≤ n ∧ beG g (p + 1) 4 (nI 0) = nI (secN g p) ∧ secN g p ≤ 1000000000 ∧ GR n g (p + ((g p).toNat + 11)) k
/-- what reading k rows makes of the table's rows of numbers, flags and bytes -/
def rdS (g : Nat → UInt8) : Nat → Nat → Nat → (Nat → Nat) → Nat → Nat
  | 0, _, _, S => S
  | k + 1, p, c, S => rdS g k (p + ((g p).toNat + 11)) (c + 1) (va_up S c (secN g p))
def rdL (g : Nat → UInt8) : Nat → Nat → Nat → (Nat → Nat) → Nat → Nat
  | 0, _, _, Ln => Ln
  | k + 1, p, c, Ln => rdL g k (p + ((g p).toNat + 11)) (c + 1) (va_up Ln c (g p).toNat)
def rdZ : Nat → Nat → (Nat → Bool) → Nat → Bool
  | 0, _, Z => Z
  | k + 1, c, Z => rdZ k (c + 1) (va_up Z c false)
def rdK (g : Nat → UInt8) : Nat → Nat → Nat → (Nat → UInt8) → Nat → UInt8
  | 0, _, _, K => K
  | k + 1, p, c, K => rdK g k (p + ((g p).toNat + 11)) (c + 1) (app K (c * 64) (conL g (p + 5) (g p).toNat))
theorem nI_le0 {a : Nat} (h : ¬ nI a ≤ 0) (ha : a < 2 ^ 31) : 0 < a := by
  rcases Nat.eq_zero_or_pos a with q | q
  · subst q
    exact absurd (by decide) h
  · exact q
theorem gt_npos {n : Nat} {g : Nat → UInt8} {p : Nat} (h : ¬ gt n g p ≤ 0) : p < n ∧ 0 < (g p).toNat := by
  unfold gt at h
  by_cases z : p < n
  · rw [if_pos z] at h
    exact ⟨z, nI_le0 h (u8lt (g p))⟩
  · rw [if_neg z] at h
    exact absurd (by decide) h
set_option maxRecDepth 100000 in
set_option maxHeartbeats 4000000 in
theorem c_X0_isRowGood (l : Launch) (D : va_G) (cB cI cZ cJ : ClassId) (a0 : Nat) (a1 : Nat) (n : Nat) (g : Nat → UInt8) (p0 : Nat) (m0 : Nat) (sb : Int32) (hn : n ≤ 8192) (hp : p0 < n) (hm : m0 < 2 ^ 31) : Ct l D vwCl (tyl cB cI cZ cJ) yX0_isRowGood wsX0_isRowGood rmX0_isRowGood [.ref a0, .int (nI p0), .int (nI m0), .int sb] [(a0, .inr (1, [.ref a1, .int (nI n)])), (a1, .inl (cB, 8192, .inl (bf g)))] (some (.int (if decide (RowOk n g p0 m0 sb) = true then 1 else 0))) [(a0, .inr (1, [.ref a1, .int (nI n)])), (a1, .inl (cB, 8192, .inl (bf g)))] := by
  refine x_start (cc := cX0_isRowGood) (maxL := 8) (ret := (some .boolean)) (by decide) rfl (Nat.le_of_ble_eq_true rfl) ?_
  intro xp xe xs xm xb xt xc xA E hr hlocks hnm
  obtain ⟨-, -, -, hown, hts, hK, hA⟩ := id E
  refine x_lve (lv' := [(0, .ref a0), (1, .int (nI p0)), (2, .int (nI m0)), (3, .int sb)]) rfl ?_
  refine x_aload_n E 0 dX0_isRowGood_0 rfl ?_
  refine x_iload_n E 1 dX0_isRowGood_1 rfl ?_
  refine x_cV E [.int (nI p0)] [] [.int (nI ((g p0).toNat))] [(a0, .inr (1, [.ref a1, .int (nI n)])), (a1, .inl (cB, 8192, .inl (bf g)))] (c_X1_get_in l D cB cI cZ cJ a0 a1 n g p0 (by omega) (by omega)) 0 rfl rfl (cwV 1 hts gX0_isRowGood_X1_get rfl rfl rfl (by decide +kernel) ⟨Nat.le_of_ble_eq_true rfl, Nat.le_of_ble_eq_true rfl⟩) [0, 1] [] rfl rfl (by decide) (by decide) (by decide) [0, 1] (by decide) rfl rfl (Nat.le_of_ble_eq_true rfl) dX0_isRowGood_2 ⟨Nat.zero_le _, Nat.zero_le _⟩ rfl rfl ?_
  refine x_istore E [(4, .int (nI ((g p0).toNat))), (0, .ref a0), (1, .int (nI p0)), (2, .int (nI m0)), (3, .int sb)] dX0_isRowGood_5 (by decide) rfl ?_
  refine x_iload_n E 2 dX0_isRowGood_7 rfl ?_
  refine x_iload E 0 dX0_isRowGood_8 rfl ?_
  refine x_niadd E dX0_isRowGood_10 ?_
  refine x_bipush E (v := nI 11) dX0_isRowGood_11 (by decide) ?_
  refine x_niadd E dX0_isRowGood_13 ?_
  refine x_istore E [(5, .int (nI ((p0 + ((g p0).toNat)) + 11))), (4, .int (nI ((g p0).toNat))), (0, .ref a0), (1, .int (nI p0)), (2, .int (nI m0)), (3, .int sb)] dX0_isRowGood_14 (by decide) rfl ?_
  refine x_iload E 1 dX0_isRowGood_16 rfl ?_
  refine x_iconst E (v := nI 1) dX0_isRowGood_18 (by decide) ?_
  refine x_ncmp_lt E 45 dX0_isRowGood_19 (by decide) (u8lt (g p0)) (by decide) (fun h19 => ?_) (fun h19 => ?_)
  · refine x_iconst E (v := nI 0) dX0_isRowGood_45 (by decide) ?_
    exact x_zret E hr hlocks dX0_isRowGood_46 rfl ⟨q_f' (decide_eq_false (fun q => by obtain ⟨q1, q2, q3, q4, q5, q6, q7, q8⟩ := q; first | omega | exact h106 q8 | exact h88 q7 | exact h67 q6 | exact q5 h60)), rfl⟩
  · refine x_iload E 1 dX0_isRowGood_22 rfl ?_
    refine x_bipush E (v := nI 64) dX0_isRowGood_24 (by decide) ?_
    refine x_ncmp_gt E 45 dX0_isRowGood_26 (by decide) (u8lt (g p0)) (by decide) (fun h26 => ?_) (fun h26 => ?_)
    · refine x_iconst E (v := nI 0) dX0_isRowGood_45 (by decide) ?_
      exact x_zret E hr hlocks dX0_isRowGood_46 rfl ⟨q_f' (decide_eq_false (fun q => by obtain ⟨q1, q2, q3, q4, q5, q6, q7, q8⟩ := q; first | omega | exact h106 q8 | exact h88 q7 | exact h67 q6 | exact q5 h60)), rfl⟩
    · refine x_iload E 0 dX0_isRowGood_29 rfl ?_
      refine x_aload_n E 2 dX0_isRowGood_31 rfl ?_
      refine x_cV E [] [.int (nI ((p0 + ((g p0).toNat)) + 11))] [.int (nI n), .int (nI ((p0 + ((g p0).toNat)) + 11))] [(a0, .inr (1, [.ref a1, .int (nI n)])), (a1, .inl (cB, 8192, .inl (bf g)))] (c_X1_size l D cB cI cZ cJ a0 a1 n g ) 0 rfl rfl (cwV 0 hts gX0_isRowGood_X1_size rfl rfl rfl (by decide +kernel) ⟨Nat.le_of_ble_eq_true rfl, Nat.le_of_ble_eq_true rfl⟩) [0, 1] [] rfl rfl (by decide) (by decide) (by decide) [0, 1] (by decide) rfl rfl (Nat.le_of_ble_eq_true rfl) dX0_isRowGood_32 ⟨Nat.zero_le _, Nat.zero_le _⟩ rfl rfl ?_
      refine x_ncmp_gt E 45 dX0_isRowGood_35 (by decide) (by omega) (by omega) (fun h35 => ?_) (fun h35 => ?_)
      · refine x_iconst E (v := nI 0) dX0_isRowGood_45 (by decide) ?_
        exact x_zret E hr hlocks dX0_isRowGood_46 rfl ⟨q_f' (decide_eq_false (fun q => by obtain ⟨q1, q2, q3, q4, q5, q6, q7, q8⟩ := q; first | omega | exact h106 q8 | exact h88 q7 | exact h67 q6 | exact q5 h60)), rfl⟩
      · refine x_iload_n E 4 dX0_isRowGood_38 rfl ?_
        refine x_sipush E (v := nI 600) dX0_isRowGood_39 (by decide) ?_
        refine x_ncmp_lt E 47 dX0_isRowGood_42 (by decide) (by omega) (by decide) (fun h42 => ?_) (fun h42 => ?_)
        · refine x_aload_n E 2 dX0_isRowGood_47 rfl ?_
          refine x_iload_n E 3 dX0_isRowGood_48 rfl ?_
          refine x_iconst E (v := nI 1) dX0_isRowGood_49 (by decide) ?_
          refine x_niadd E dX0_isRowGood_50 ?_
          refine x_iconst E (v := nI 4) dX0_isRowGood_51 (by decide) ?_
          refine x_cV E [.int (nI (p0 + 1)), .int (nI 4)] [] [.int (beG g (p0 + 1) 4 (nI 0))] [(a0, .inr (1, [.ref a1, .int (nI n)])), (a1, .inl (cB, 8192, .inl (bf g)))] (c_X1_number l D cB cI cZ cJ a0 a1 n g (p0 + 1) 4 (by omega) (by omega)) 0 rfl rfl (cwV 2 hts gX0_isRowGood_X1_number rfl rfl rfl (by decide +kernel) ⟨Nat.le_of_ble_eq_true rfl, Nat.le_of_ble_eq_true rfl⟩) [0, 1] [] rfl rfl (by decide) (by decide) (by decide) [0, 1] (by decide) rfl rfl (Nat.le_of_ble_eq_true rfl) dX0_isRowGood_52 ⟨Nat.zero_le _, Nat.zero_le _⟩ rfl rfl ?_
          refine x_istore E [(6, .int (beG g (p0 + 1) 4 (nI 0))), (5, .int (nI ((p0 + ((g p0).toNat)) + 11))), (4, .int (nI ((g p0).toNat))), (0, .ref a0), (1, .int (nI p0)), (2, .int (nI m0)), (3, .int sb)] dX0_isRowGood_55 (by decide) rfl ?_
          refine x_iload E 0 dX0_isRowGood_57 rfl ?_
          refine x_iload_n E 6 dX0_isRowGood_59 rfl ?_
          refine x_icmp_lt E 70 dX0_isRowGood_60 (by decide) (fun h60 => ?_) (fun h60 => ?_)
          · refine x_iconst E (v := nI 0) dX0_isRowGood_70 (by decide) ?_
            exact x_zret E hr hlocks dX0_isRowGood_71 rfl ⟨q_f' (decide_eq_false (fun q => by obtain ⟨q1, q2, q3, q4, q5, q6, q7, q8⟩ := q; first | omega | exact h106 q8 | exact h88 q7 | exact h67 q6 | exact q5 h60)), rfl⟩
          · refine x_iload E 0 dX0_isRowGood_63 rfl ?_
            refine x_ldc E (v := nI 1000000000) dX0_isRowGood_65 cn_X0_isRowGood_66 (by decide +kernel) ?_
            refine x_icmp_le E 72 dX0_isRowGood_67 (by decide) (fun h67 => ?_) (fun h67 => ?_)
            · refine x_iload E 1 dX0_isRowGood_72 rfl ?_
              refine x_iconst E (v := nI 4) dX0_isRowGood_74 (by decide) ?_
              refine x_nisub E dX0_isRowGood_75 (by omega) ?_
              refine x_istore E [(7, .int (nI (((p0 + ((g p0).toNat)) + 11) - 4))), (6, .int (beG g (p0 + 1) 4 (nI 0))), (5, .int (nI ((p0 + ((g p0).toNat)) + 11))), (4, .int (nI ((g p0).toNat))), (0, .ref a0), (1, .int (nI p0)), (2, .int (nI m0)), (3, .int sb)] dX0_isRowGood_76 (by decide) rfl ?_
              refine x_aload_n E 4 dX0_isRowGood_78 rfl ?_
              refine x_iload E 0 dX0_isRowGood_79 rfl ?_
              refine x_iconst E (v := nI 2) dX0_isRowGood_81 (by decide) ?_
              refine x_nisub E dX0_isRowGood_82 (by omega) ?_
              refine x_iconst E (v := nI 2) dX0_isRowGood_83 (by decide) ?_
              refine x_cV E [.int (nI ((((p0 + ((g p0).toNat)) + 11) - 4) - 2)), .int (nI 2)] [] [.int (beG g ((((p0 + ((g p0).toNat)) + 11) - 4) - 2) 2 (nI 0))] [(a0, .inr (1, [.ref a1, .int (nI n)])), (a1, .inl (cB, 8192, .inl (bf g)))] (c_X1_number l D cB cI cZ cJ a0 a1 n g ((((p0 + ((g p0).toNat)) + 11) - 4) - 2) 2 (by omega) (by omega)) 0 rfl rfl (cwV 2 hts gX0_isRowGood_X1_number rfl rfl rfl (by decide +kernel) ⟨Nat.le_of_ble_eq_true rfl, Nat.le_of_ble_eq_true rfl⟩) [0, 1] [] rfl rfl (by decide) (by decide) (by decide) [0, 1] (by decide) rfl rfl (Nat.le_of_ble_eq_true rfl) dX0_isRowGood_84 ⟨Nat.zero_le _, Nat.zero_le _⟩ rfl rfl ?_
              refine x_iload_n E 6 dX0_isRowGood_87 rfl ?_
              refine x_icmp_ne E 113 dX0_isRowGood_88 (by decide) (fun h88 => ?_) (fun h88 => ?_)
              · refine x_iconst E (v := nI 0) dX0_isRowGood_113 (by decide) ?_
                exact x_zret E hr hlocks dX0_isRowGood_114 rfl ⟨q_f' (decide_eq_false (fun q => by obtain ⟨q1, q2, q3, q4, q5, q6, q7, q8⟩ := q; first | omega | exact h106 q8 | exact h88 q7 | exact h67 q6 | exact q5 h60)), rfl⟩
              · refine x_aload_n E 4 dX0_isRowGood_91 rfl ?_
                refine x_iload E 0 dX0_isRowGood_92 rfl ?_
                refine x_iconst E (v := nI 4) dX0_isRowGood_94 (by decide) ?_
                refine x_cV E [.int (nI (((p0 + ((g p0).toNat)) + 11) - 4)), .int (nI 4)] [] [.int (beG g (((p0 + ((g p0).toNat)) + 11) - 4) 4 (nI 0))] [(a0, .inr (1, [.ref a1, .int (nI n)])), (a1, .inl (cB, 8192, .inl (bf g)))] (c_X1_number l D cB cI cZ cJ a0 a1 n g (((p0 + ((g p0).toNat)) + 11) - 4) 4 (by omega) (by omega)) 0 rfl rfl (cwV 2 hts gX0_isRowGood_X1_number rfl rfl rfl (by decide +kernel) ⟨Nat.le_of_ble_eq_true rfl, Nat.le_of_ble_eq_true rfl⟩) [0, 1] [] rfl rfl (by decide) (by decide) (by decide) [0, 1] (by decide) rfl rfl (Nat.le_of_ble_eq_true rfl) dX0_isRowGood_95 ⟨Nat.zero_le _, Nat.zero_le _⟩ rfl rfl ?_
                refine x_aload_n E 4 dX0_isRowGood_98 rfl ?_
                refine x_iload_n E 5 dX0_isRowGood_99 rfl ?_
                refine x_iload E 0 dX0_isRowGood_100 rfl ?_
                refine x_iconst E (v := nI 0) dX0_isRowGood_102 (by decide) ?_
                refine x_cV E [.int (nI p0), .int (nI (((p0 + ((g p0).toNat)) + 11) - 4)), .int (nI 0)] [.int (beG g (((p0 + ((g p0).toNat)) + 11) - 4) 4 (nI 0))] [.int (smG g p0 ((((p0 + ((g p0).toNat)) + 11) - 4) - p0) (nI 0)), .int (beG g (((p0 + ((g p0).toNat)) + 11) - 4) 4 (nI 0))] [(a0, .inr (1, [.ref a1, .int (nI n)])), (a1, .inl (cB, 8192, .inl (bf g)))] (c_X1_sumOf l D cB cI cZ cJ a0 a1 n g p0 (((p0 + ((g p0).toNat)) + 11) - 4) (nI 0) (by omega) (by omega) (by omega)) 0 rfl rfl (cwV 3 hts gX0_isRowGood_X1_sumOf rfl rfl rfl (by decide +kernel) ⟨Nat.le_of_ble_eq_true rfl, Nat.le_of_ble_eq_true rfl⟩) [0, 1] [] rfl rfl (by decide) (by decide) (by decide) [0, 1] (by decide) rfl rfl (Nat.le_of_ble_eq_true rfl) dX0_isRowGood_103 ⟨Nat.zero_le _, Nat.zero_le _⟩ rfl rfl ?_
                refine x_icmp_ne E 113 dX0_isRowGood_106 (by decide) (fun h106 => ?_) (fun h106 => ?_)
                · refine x_iconst E (v := nI 0) dX0_isRowGood_113 (by decide) ?_
                  exact x_zret E hr hlocks dX0_isRowGood_114 rfl ⟨q_f' (decide_eq_false (fun q => by obtain ⟨q1, q2, q3, q4, q5, q6, q7, q8⟩ := q; first | omega | exact h106 q8 | exact h88 q7 | exact h67 q6 | exact q5 h60)), rfl⟩
                · refine x_iconst E (v := nI 1) dX0_isRowGood_109 (by decide) ?_
                  refine x_goto E 114 dX0_isRowGood_110 (by decide) ?_
                  exact x_zret E hr hlocks dX0_isRowGood_114 rfl ⟨q_t' (decide_eq_true ⟨by omega, by omega, by omega, by omega, h60, h67, h88, h106⟩), rfl⟩
            · refine x_iconst E (v := nI 0) dX0_isRowGood_70 (by decide) ?_
              exact x_zret E hr hlocks dX0_isRowGood_71 rfl ⟨q_f' (decide_eq_false (fun q => by obtain ⟨q1, q2, q3, q4, q5, q6, q7, q8⟩ := q; first | omega | exact h106 q8 | exact h88 q7 | exact h67 q6 | exact q5 h60)), rfl⟩
        · refine x_iconst E (v := nI 0) dX0_isRowGood_45 (by decide) ?_
          exact x_zret E hr hlocks dX0_isRowGood_46 rfl ⟨q_f' (decide_eq_false (fun q => by obtain ⟨q1, q2, q3, q4, q5, q6, q7, q8⟩ := q; first | omega | exact h106 q8 | exact h88 q7 | exact h67 q6 | exact q5 h60)), rfl⟩
set_option maxRecDepth 100000 in
set_option maxHeartbeats 4000000 in
theorem c_X0_isEndGood (l : Launch) (D : va_G) (cB cI cZ cJ : ClassId) (a0 : Nat) (a1 : Nat) (n : Nat) (g : Nat → UInt8) (p0 : Nat) (k0 : Nat) (hn : n ≤ 8192) (hp : p0 < 2 ^ 30) (h4 : 4 ≤ p0) (hk : k0 < 2 ^ 31) : Ct l D vwCl (tyl cB cI cZ cJ) yX0_isEndGood wsX0_isEndGood rmX0_isEndGood [.ref a0, .int (nI p0), .int (nI k0)] [(a0, .inr (1, [.ref a1, .int (nI n)])), (a1, .inl (cB, 8192, .inl (bf g)))] (some (.int (if decide (EndOk n g p0 k0) = true then 1 else 0))) [(a0, .inr (1, [.ref a1, .int (nI n)])), (a1, .inl (cB, 8192, .inl (bf g)))] := by
  refine x_start (cc := cX0_isEndGood) (maxL := 4) (ret := (some .boolean)) (by decide) rfl (Nat.le_of_ble_eq_true rfl) ?_
  intro xp xe xs xm xb xt xc xA E hr hlocks hnm
  obtain ⟨-, -, -, hown, hts, hK, hA⟩ := id E
  refine x_lve (lv' := [(0, .ref a0), (1, .int (nI p0)), (2, .int (nI k0))]) rfl ?_
  refine x_iload_n E 1 dX0_isEndGood_0 rfl ?_
  refine x_bipush E (v := nI 6) dX0_isEndGood_1 (by decide) ?_
  refine x_niadd E dX0_isEndGood_3 ?_
  refine x_aload_n E 0 dX0_isEndGood_4 rfl ?_
  refine x_cV E [] [.int (nI (p0 + 6))] [.int (nI n), .int (nI (p0 + 6))] [(a0, .inr (1, [.ref a1, .int (nI n)])), (a1, .inl (cB, 8192, .inl (bf g)))] (c_X1_size l D cB cI cZ cJ a0 a1 n g ) 0 rfl rfl (cwV 0 hts gX0_isEndGood_X1_size rfl rfl rfl (by decide +kernel) ⟨Nat.le_of_ble_eq_true rfl, Nat.le_of_ble_eq_true rfl⟩) [0, 1] [] rfl rfl (by decide) (by decide) (by decide) [0, 1] (by decide) rfl rfl (Nat.le_of_ble_eq_true rfl) dX0_isEndGood_5 ⟨Nat.zero_le _, Nat.zero_le _⟩ rfl rfl ?_
  refine x_ncmp_gt E 30 dX0_isEndGood_8 (by decide) (by omega) (by omega) (fun h8 => ?_) (fun h8 => ?_)
  · refine x_iconst E (v := nI 0) dX0_isEndGood_30 (by decide) ?_
    exact x_zret E hr hlocks dX0_isEndGood_31 rfl ⟨q_f' (decide_eq_false (fun q => by obtain ⟨q1, q2, q3, q4⟩ := q; first | omega | exact h58 q4 | exact h27 q3 | exact h16 q2)), rfl⟩
  · refine x_aload_n E 0 dX0_isEndGood_11 rfl ?_
    refine x_iload_n E 1 dX0_isEndGood_12 rfl ?_
    refine x_cV E [.int (nI p0)] [] [.int (nI ((g p0).toNat))] [(a0, .inr (1, [.ref a1, .int (nI n)])), (a1, .inl (cB, 8192, .inl (bf g)))] (c_X1_get_in l D cB cI cZ cJ a0 a1 n g p0 (by omega) (by omega)) 0 rfl rfl (cwV 1 hts gX0_isEndGood_X1_get rfl rfl rfl (by decide +kernel) ⟨Nat.le_of_ble_eq_true rfl, Nat.le_of_ble_eq_true rfl⟩) [0, 1] [] rfl rfl (by decide) (by decide) (by decide) [0, 1] (by decide) rfl rfl (Nat.le_of_ble_eq_true rfl) dX0_isEndGood_13 ⟨Nat.zero_le _, Nat.zero_le _⟩ rfl rfl ?_
    refine x_nif_ne E 30 dX0_isEndGood_16 (by decide) (u8lt (g p0)) (fun h16 => ?_) (fun h16 => ?_)
    · refine x_iconst E (v := nI 0) dX0_isEndGood_30 (by decide) ?_
      exact x_zret E hr hlocks dX0_isEndGood_31 rfl ⟨q_f' (decide_eq_false (fun q => by obtain ⟨q1, q2, q3, q4⟩ := q; first | omega | exact h58 q4 | exact h27 q3 | exact h16 q2)), rfl⟩
    · refine x_aload_n E 0 dX0_isEndGood_19 rfl ?_
      refine x_iload_n E 1 dX0_isEndGood_20 rfl ?_
      refine x_iconst E (v := nI 1) dX0_isEndGood_21 (by decide) ?_
      refine x_niadd E dX0_isEndGood_22 ?_
      refine x_cV E [.int (nI (p0 + 1))] [] [.int (nI ((g (p0 + 1)).toNat))] [(a0, .inr (1, [.ref a1, .int (nI n)])), (a1, .inl (cB, 8192, .inl (bf g)))] (c_X1_get_in l D cB cI cZ cJ a0 a1 n g (p0 + 1) (by omega) (by omega)) 0 rfl rfl (cwV 1 hts gX0_isEndGood_X1_get rfl rfl rfl (by decide +kernel) ⟨Nat.le_of_ble_eq_true rfl, Nat.le_of_ble_eq_true rfl⟩) [0, 1] [] rfl rfl (by decide) (by decide) (by decide) [0, 1] (by decide) rfl rfl (Nat.le_of_ble_eq_true rfl) dX0_isEndGood_23 ⟨Nat.zero_le _, Nat.zero_le _⟩ rfl rfl ?_
      refine x_iload_n E 2 dX0_isEndGood_26 rfl ?_
      refine x_ncmp_eq E 32 dX0_isEndGood_27 (by decide) (u8lt (g (p0 + 1))) (by omega) (fun h27 => ?_) (fun h27 => ?_)
      · refine x_aload_n E 0 dX0_isEndGood_32 rfl ?_
        refine x_iload_n E 1 dX0_isEndGood_33 rfl ?_
        refine x_iconst E (v := nI 4) dX0_isEndGood_34 (by decide) ?_
        refine x_nisub E dX0_isEndGood_35 (by omega) ?_
        refine x_iconst E (v := nI 4) dX0_isEndGood_36 (by decide) ?_
        refine x_cV E [.int (nI (p0 - 4)), .int (nI 4)] [] [.int (beG g (p0 - 4) 4 (nI 0))] [(a0, .inr (1, [.ref a1, .int (nI n)])), (a1, .inl (cB, 8192, .inl (bf g)))] (c_X1_number l D cB cI cZ cJ a0 a1 n g (p0 - 4) 4 (by omega) (by omega)) 0 rfl rfl (cwV 2 hts gX0_isEndGood_X1_number rfl rfl rfl (by decide +kernel) ⟨Nat.le_of_ble_eq_true rfl, Nat.le_of_ble_eq_true rfl⟩) [0, 1] [] rfl rfl (by decide) (by decide) (by decide) [0, 1] (by decide) rfl rfl (Nat.le_of_ble_eq_true rfl) dX0_isEndGood_37 ⟨Nat.zero_le _, Nat.zero_le _⟩ rfl rfl ?_
        refine x_istore_n E [(3, .int (beG g (p0 - 4) 4 (nI 0))), (0, .ref a0), (1, .int (nI p0)), (2, .int (nI k0))] dX0_isEndGood_40 (by decide) rfl ?_
        refine x_aload_n E 1 dX0_isEndGood_41 rfl ?_
        refine x_iload_n E 2 dX0_isEndGood_42 rfl ?_
        refine x_iconst E (v := nI 2) dX0_isEndGood_43 (by decide) ?_
        refine x_niadd E dX0_isEndGood_44 ?_
        refine x_iconst E (v := nI 4) dX0_isEndGood_45 (by decide) ?_
        refine x_cV E [.int (nI (p0 + 2)), .int (nI 4)] [] [.int (beG g (p0 + 2) 4 (nI 0))] [(a0, .inr (1, [.ref a1, .int (nI n)])), (a1, .inl (cB, 8192, .inl (bf g)))] (c_X1_number l D cB cI cZ cJ a0 a1 n g (p0 + 2) 4 (by omega) (by omega)) 0 rfl rfl (cwV 2 hts gX0_isEndGood_X1_number rfl rfl rfl (by decide +kernel) ⟨Nat.le_of_ble_eq_true rfl, Nat.le_of_ble_eq_true rfl⟩) [0, 1] [] rfl rfl (by decide) (by decide) (by decide) [0, 1] (by decide) rfl rfl (Nat.le_of_ble_eq_true rfl) dX0_isEndGood_46 ⟨Nat.zero_le _, Nat.zero_le _⟩ rfl rfl ?_
        refine x_aload_n E 1 dX0_isEndGood_49 rfl ?_
        refine x_iload_n E 2 dX0_isEndGood_50 rfl ?_
        refine x_iload_n E 2 dX0_isEndGood_51 rfl ?_
        refine x_iconst E (v := nI 2) dX0_isEndGood_52 (by decide) ?_
        refine x_niadd E dX0_isEndGood_53 ?_
        refine x_iload_n E 0 dX0_isEndGood_54 rfl ?_
        refine x_cV E [.int (nI p0), .int (nI (p0 + 2)), .int (beG g (p0 - 4) 4 (nI 0))] [.int (beG g (p0 + 2) 4 (nI 0))] [.int (smG g p0 ((p0 + 2) - p0) (beG g (p0 - 4) 4 (nI 0))), .int (beG g (p0 + 2) 4 (nI 0))] [(a0, .inr (1, [.ref a1, .int (nI n)])), (a1, .inl (cB, 8192, .inl (bf g)))] (c_X1_sumOf l D cB cI cZ cJ a0 a1 n g p0 (p0 + 2) (beG g (p0 - 4) 4 (nI 0)) (by omega) (by omega) (by omega)) 0 rfl rfl (cwV 3 hts gX0_isEndGood_X1_sumOf rfl rfl rfl (by decide +kernel) ⟨Nat.le_of_ble_eq_true rfl, Nat.le_of_ble_eq_true rfl⟩) [0, 1] [] rfl rfl (by decide) (by decide) (by decide) [0, 1] (by decide) rfl rfl (Nat.le_of_ble_eq_true rfl) dX0_isEndGood_55 ⟨Nat.zero_le _, Nat.zero_le _⟩ rfl rfl ?_
        refine x_icmp_ne E 65 dX0_isEndGood_58 (by decide) (fun h58 => ?_) (fun h58 => ?_)
        · refine x_iconst E (v := nI 0) dX0_isEndGood_65 (by decide) ?_
          exact x_zret E hr hlocks dX0_isEndGood_66 rfl ⟨q_f' (decide_eq_false (fun q => by obtain ⟨q1, q2, q3, q4⟩ := q; first | omega | exact h58 q4 | exact h27 q3 | exact h16 q2)), rfl⟩
        · refine x_iconst E (v := nI 1) dX0_isEndGood_61 (by decide) ?_
          refine x_goto E 66 dX0_isEndGood_62 (by decide) ?_
          exact x_zret E hr hlocks dX0_isEndGood_66 rfl ⟨q_t' (decide_eq_true ⟨by omega, h16, h27, h58⟩), rfl⟩
      · refine x_iconst E (v := nI 0) dX0_isEndGood_30 (by decide) ?_
        exact x_zret E hr hlocks dX0_isEndGood_31 rfl ⟨q_f' (decide_eq_false (fun q => by obtain ⟨q1, q2, q3, q4⟩ := q; first | omega | exact h58 q4 | exact h27 q3 | exact h16 q2)), rfl⟩
set_option maxRecDepth 100000 in
set_option maxHeartbeats 4000000 in
theorem c_X0_endOfGood (l : Launch) (D : va_G) (cB cI cZ cJ : ClassId) (a0 : Nat) (a1 : Nat) (n : Nat) (g : Nat → UInt8) (t0 : Nat) (t1 : Nat) (t2 : Nat) (t3 : Nat) (t4 : Nat) (c : Nat) (S : Nat → Nat) (Ln : Nat → Nat) (Z : Nat → Bool) (K : Nat → UInt8) (p0 : Nat) (hn : n ≤ 8192) (hc : c ≤ 600) (hp : p0 ≤ 8192) : Ct l D vwCl (tyl cB cI cZ cJ) yX0_endOfGood wsX0_endOfGood rmX0_endOfGood [.ref a0, .int (nI p0), .ref t0] [(a0, .inr (1, [.ref a1, .int (nI n)])), (a1, .inl (cB, 8192, .inl (bf g))), (t0, .inr (2, [.ref t1, .ref t2, .ref t3, .ref t4, .int (nI c)])), (t1, .inl (cI, 600, .inl (nf S))), (t2, .inl (cI, 600, .inl (nf Ln))), (t3, .inl (cZ, 600, .inl (zf Z))), (t4, .inl (cB, 38400, .inl (bf K)))] (some (.int (oI (endG n g c (nI (lastS c S)) p0)))) [(a0, .inr (1, [.ref a1, .int (nI n)])), (a1, .inl (cB, 8192, .inl (bf g))), (t0, .inr (2, [.ref t1, .ref t2, .ref t3, .ref t4, .int (nI c)])), (t1, .inl (cI, 600, .inl (nf S))), (t2, .inl (cI, 600, .inl (nf Ln))), (t3, .inl (cZ, 600, .inl (zf Z))), (t4, .inl (cB, 38400, .inl (bf K)))] := by
  refine x_start (cc := cX0_endOfGood) (maxL := 6) (ret := (some .int)) (by decide) rfl (Nat.le_of_ble_eq_true rfl) ?_
  intro xp xe xs xm xb xt xc xA E hr hlocks hnm
  obtain ⟨-, -, -, hown, hts, hK, hA⟩ := id E
  refine x_lve (lv' := [(0, .ref a0), (1, .int (nI p0)), (2, .ref t0)]) rfl ?_
  have loop : ∀ (f p k : Nat) (sb : Int32), k + f = 16 → p ≤ 8192 → (0 < k → 4 ≤ p) → endS n g (scan n g c f p k sb) = endG n g c (nI (lastS c S)) p0 → Xs xp l xe rmX0_endOfGood xs xm ([.ref a0, .int (nI p0), .ref t0] : List Value).toArray xb xt xc D vwCl xA 6 0 0 (MQ xb (CQ D vwCl (tyl cB cI cZ cJ) xA (fun r u => r = (some (.int (oI (endG n g c (nI (lastS c S)) p0)))) ∧ u = [(a0, .inr (1, [.ref a1, .int (nI n)])), (a1, .inl (cB, 8192, .inl (bf g))), (t0, .inr (2, [.ref t1, .ref t2, .ref t3, .ref t4, .int (nI c)])), (t1, .inl (cI, 600, .inl (nf S))), (t2, .inl (cI, 600, .inl (nf Ln))), (t3, .inl (cZ, 600, .inl (zf Z))), (t4, .inl (cB, 38400, .inl (bf K)))])) ([.ref a0, .int (nI p0), .ref t0] : List Value).toArray xs 0 0 xA) [(a0, .inr (1, [.ref a1, .int (nI n)])), (a1, .inl (cB, 8192, .inl (bf g))), (t0, .inr (2, [.ref t1, .ref t2, .ref t3, .ref t4, .int (nI c)])), (t1, .inl (cI, 600, .inl (nf S))), (t2, .inl (cI, 600, .inl (nf Ln))), (t3, .inl (cZ, 600, .inl (zf Z))), (t4, .inl (cB, 38400, .inl (bf K)))] [(5, .int sb), (4, .int (nI k)), (3, .int (nI p)), (0, .ref a0), (1, .int (nI p0)), (2, .ref t0)] 11 [] := by
    intro f
    induction f with
    | zero =>
      intro p k sb h1 hp1 hk4 h2
      refine x_iload E 1 dX0_endOfGood_11 rfl ?_
      refine x_bipush E (v := nI 16) dX0_endOfGood_13 (by decide) ?_
      refine x_ncmp_ge E 72 dX0_endOfGood_15 (by decide) (by omega) (by decide) (fun h15 => ?_) (fun h => False.elim (by omega))
      refine x_iload E 1 dX0_endOfGood_72 rfl ?_
      refine x_nif_le E 94 dX0_endOfGood_74 (by decide) (by omega) (fun h => False.elim (by omega)) (fun h74 => ?_)
      refine x_aload_n E 3 dX0_endOfGood_77 rfl ?_
      refine x_iload_n E 2 dX0_endOfGood_78 rfl ?_
      refine x_iload E 1 dX0_endOfGood_79 rfl ?_
      refine x_cS E [.ref a0, .int (nI p), .int (nI k)] [] [.int (if decide (EndOk n g p k) = true then 1 else 0)] [(a0, .inr (1, [.ref a1, .int (nI n)])), (a1, .inl (cB, 8192, .inl (bf g))), (t0, .inr (2, [.ref t1, .ref t2, .ref t3, .ref t4, .int (nI c)])), (t1, .inl (cI, 600, .inl (nf S))), (t2, .inl (cI, 600, .inl (nf Ln))), (t3, .inl (cZ, 600, .inl (zf Z))), (t4, .inl (cB, 38400, .inl (bf K)))] (c_X0_isEndGood l D cB cI cZ cJ a0 a1 n g p k (by omega) (by omega) (by omega) (by omega)) (va_cwS 3 hts gX0_endOfGood_X0_isEndGood rfl rfl rfl (by decide +kernel) ⟨Nat.le_of_ble_eq_true rfl, Nat.le_of_ble_eq_true rfl⟩) [0, 1] [2, 3, 4, 5, 6] rfl rfl (by decide) (by decide) (by decide) [5, 6, 0, 1, 2, 3, 4] (by decide) rfl rfl (Nat.le_of_ble_eq_true rfl) dX0_endOfGood_81 ⟨Nat.zero_le _, Nat.zero_le _⟩ rfl rfl ?_
      refine x_qif_eq E 94 dX0_endOfGood_84 (by decide) (fun h84 => ?_) (fun h84 => ?_)
      · refine x_iconst E (v := (-1)) dX0_endOfGood_94 (by decide) ?_
        exact x_iret E hr hlocks dX0_endOfGood_95 ⟨by rw [← h2]; show _ = some (Value.int (oI (if 0 < k ∧ EndOk n g p k then some (p + 6) else none))); rw [if_neg (fun q => by first | omega | exact of_decide_eq_false h84 q.2)]; rfl, rfl⟩
      · refine x_iload_n E 2 dX0_endOfGood_87 rfl ?_
        refine x_bipush E (v := nI 6) dX0_endOfGood_88 (by decide) ?_
        refine x_niadd E dX0_endOfGood_90 ?_
        refine x_goto E 95 dX0_endOfGood_91 (by decide) ?_
        exact x_iret E hr hlocks dX0_endOfGood_95 ⟨by rw [← h2]; show _ = some (Value.int (oI (if 0 < k ∧ EndOk n g p k then some (p + 6) else none))); rw [if_pos ⟨by omega, of_decide_eq_true h84⟩]; rfl, rfl⟩
    | succ f ih =>
      intro p k sb h1 hp1 hk4 h2
      by_cases hpn : p < n ∧ 0 < (g p).toNat
      · obtain ⟨H23a, H23b⟩ := hpn
        refine x_iload E 1 dX0_endOfGood_11 rfl ?_
        refine x_bipush E (v := nI 16) dX0_endOfGood_13 (by decide) ?_
        refine x_ncmp_ge E 72 dX0_endOfGood_15 (by decide) (by omega) (by decide) (fun h => False.elim (by omega)) (fun h15 => ?_)
        refine x_aload_n E 3 dX0_endOfGood_18 rfl ?_
        refine x_iload_n E 2 dX0_endOfGood_19 rfl ?_
        refine x_cV E [.int (nI p)] [] [.int (nI ((g p).toNat))] [(a0, .inr (1, [.ref a1, .int (nI n)])), (a1, .inl (cB, 8192, .inl (bf g))), (t0, .inr (2, [.ref t1, .ref t2, .ref t3, .ref t4, .int (nI c)])), (t1, .inl (cI, 600, .inl (nf S))), (t2, .inl (cI, 600, .inl (nf Ln))), (t3, .inl (cZ, 600, .inl (zf Z))), (t4, .inl (cB, 38400, .inl (bf K)))] (c_X1_get_in l D cB cI cZ cJ a0 a1 n g p (by omega) (by omega)) 0 rfl rfl (cwV 1 hts gX0_endOfGood_X1_get rfl rfl rfl (by decide +kernel) ⟨Nat.le_of_ble_eq_true rfl, Nat.le_of_ble_eq_true rfl⟩) [0, 1] [2, 3, 4, 5, 6] rfl rfl (by decide) (by decide) (by decide) [5, 6, 0, 1, 2, 3, 4] (by decide) rfl rfl (Nat.le_of_ble_eq_true rfl) dX0_endOfGood_20 ⟨Nat.zero_le _, Nat.zero_le _⟩ rfl rfl ?_
        refine x_nif_le E 72 dX0_endOfGood_23 (by decide) (u8lt (g p)) (fun h => False.elim (by omega)) (fun h23 => ?_)
        refine x_aload_n E 3 dX0_endOfGood_26 rfl ?_
        refine x_iload_n E 2 dX0_endOfGood_27 rfl ?_
        refine x_aload_n E 5 dX0_endOfGood_28 rfl ?_
        refine x_cV E [] [.int (nI p), .ref a0] [.int (nI c), .int (nI p), .ref a0] [(a0, .inr (1, [.ref a1, .int (nI n)])), (a1, .inl (cB, 8192, .inl (bf g))), (t0, .inr (2, [.ref t1, .ref t2, .ref t3, .ref t4, .int (nI c)])), (t1, .inl (cI, 600, .inl (nf S))), (t2, .inl (cI, 600, .inl (nf Ln))), (t3, .inl (cZ, 600, .inl (zf Z))), (t4, .inl (cB, 38400, .inl (bf K)))] (c_X2_count l D cB cI cZ cJ t0 t1 t2 t3 t4 c S Ln Z K ) 0 rfl rfl (cwV 0 hts gX0_endOfGood_X2_count rfl rfl rfl (by decide +kernel) ⟨Nat.le_of_ble_eq_true rfl, Nat.le_of_ble_eq_true rfl⟩) [2, 3, 4, 5, 6] [0, 1] rfl rfl (by decide) (by decide) (by decide) [0, 1, 2, 3, 4, 5, 6] (by decide) rfl rfl (Nat.le_of_ble_eq_true rfl) dX0_endOfGood_29 ⟨Nat.zero_le _, Nat.zero_le _⟩ rfl rfl ?_
        refine x_iload E 1 dX0_endOfGood_32 rfl ?_
        refine x_niadd E dX0_endOfGood_34 ?_
        refine x_iload E 0 dX0_endOfGood_35 rfl ?_
        refine x_cS E [.ref a0, .int (nI p), .int (nI (c + k)), .int sb] [] [.int (if decide (RowOk n g p (c + k) sb) = true then 1 else 0)] [(a0, .inr (1, [.ref a1, .int (nI n)])), (a1, .inl (cB, 8192, .inl (bf g))), (t0, .inr (2, [.ref t1, .ref t2, .ref t3, .ref t4, .int (nI c)])), (t1, .inl (cI, 600, .inl (nf S))), (t2, .inl (cI, 600, .inl (nf Ln))), (t3, .inl (cZ, 600, .inl (zf Z))), (t4, .inl (cB, 38400, .inl (bf K)))] (c_X0_isRowGood l D cB cI cZ cJ a0 a1 n g p (c + k) sb (by omega) (by omega) (by omega)) (va_cwS 4 hts gX0_endOfGood_X0_isRowGood rfl rfl rfl (by decide +kernel) ⟨Nat.le_of_ble_eq_true rfl, Nat.le_of_ble_eq_true rfl⟩) [0, 1] [2, 3, 4, 5, 6] rfl rfl (by decide) (by decide) (by decide) [5, 6, 0, 1, 2, 3, 4] (by decide) rfl rfl (Nat.le_of_ble_eq_true rfl) dX0_endOfGood_37 ⟨Nat.zero_le _, Nat.zero_le _⟩ rfl rfl ?_
        refine x_qif_ne E 45 dX0_endOfGood_40 (by decide) (fun h40 => ?_) (fun h40 => ?_)
        · refine x_aload_n E 3 dX0_endOfGood_45 rfl ?_
          refine x_iload_n E 2 dX0_endOfGood_46 rfl ?_
          refine x_iconst E (v := nI 1) dX0_endOfGood_47 (by decide) ?_
          refine x_niadd E dX0_endOfGood_48 ?_
          refine x_iconst E (v := nI 4) dX0_endOfGood_49 (by decide) ?_
          refine x_cV E [.int (nI (p + 1)), .int (nI 4)] [] [.int (beG g (p + 1) 4 (nI 0))] [(a0, .inr (1, [.ref a1, .int (nI n)])), (a1, .inl (cB, 8192, .inl (bf g))), (t0, .inr (2, [.ref t1, .ref t2, .ref t3, .ref t4, .int (nI c)])), (t1, .inl (cI, 600, .inl (nf S))), (t2, .inl (cI, 600, .inl (nf Ln))), (t3, .inl (cZ, 600, .inl (zf Z))), (t4, .inl (cB, 38400, .inl (bf K)))] (c_X1_number l D cB cI cZ cJ a0 a1 n g (p + 1) 4 (by omega) (by have := (of_decide_eq_true h40).2.2.1; omega)) 0 rfl rfl (cwV 2 hts gX0_endOfGood_X1_number rfl rfl rfl (by decide +kernel) ⟨Nat.le_of_ble_eq_true rfl, Nat.le_of_ble_eq_true rfl⟩) [0, 1] [2, 3, 4, 5, 6] rfl rfl (by decide) (by decide) (by decide) [5, 6, 0, 1, 2, 3, 4] (by decide) rfl rfl (Nat.le_of_ble_eq_true rfl) dX0_endOfGood_50 ⟨Nat.zero_le _, Nat.zero_le _⟩ rfl rfl ?_
          refine x_istore E [(5, .int (beG g (p + 1) 4 (nI 0))), (4, .int (nI k)), (3, .int (nI p)), (0, .ref a0), (1, .int (nI p0)), (2, .ref t0)] dX0_endOfGood_53 (by decide) rfl ?_
          refine x_iload_n E 2 dX0_endOfGood_55 rfl ?_
          refine x_aload_n E 3 dX0_endOfGood_56 rfl ?_
          refine x_iload_n E 2 dX0_endOfGood_57 rfl ?_
          refine x_cV E [.int (nI p)] [.int (nI p)] [.int (nI ((g p).toNat)), .int (nI p)] [(a0, .inr (1, [.ref a1, .int (nI n)])), (a1, .inl (cB, 8192, .inl (bf g))), (t0, .inr (2, [.ref t1, .ref t2, .ref t3, .ref t4, .int (nI c)])), (t1, .inl (cI, 600, .inl (nf S))), (t2, .inl (cI, 600, .inl (nf Ln))), (t3, .inl (cZ, 600, .inl (zf Z))), (t4, .inl (cB, 38400, .inl (bf K)))] (c_X1_get_in l D cB cI cZ cJ a0 a1 n g p (by omega) (by omega)) 0 rfl rfl (cwV 1 hts gX0_endOfGood_X1_get rfl rfl rfl (by decide +kernel) ⟨Nat.le_of_ble_eq_true rfl, Nat.le_of_ble_eq_true rfl⟩) [0, 1] [2, 3, 4, 5, 6] rfl rfl (by decide) (by decide) (by decide) [5, 6, 0, 1, 2, 3, 4] (by decide) rfl rfl (Nat.le_of_ble_eq_true rfl) dX0_endOfGood_58 ⟨Nat.zero_le _, Nat.zero_le _⟩ rfl rfl ?_
          refine x_bipush E (v := nI 11) dX0_endOfGood_61 (by decide) ?_
          refine x_niadd E dX0_endOfGood_63 ?_
          refine x_niadd E dX0_endOfGood_64 ?_
          refine x_istore_n E [(3, .int (nI (p + (((g p).toNat) + 11)))), (5, .int (beG g (p + 1) 4 (nI 0))), (4, .int (nI k)), (0, .ref a0), (1, .int (nI p0)), (2, .ref t0)] dX0_endOfGood_65 (by decide) rfl ?_
          refine x_iinc E 2 [(4, .int (nI (k + 1))), (3, .int (nI (p + (((g p).toNat) + 11)))), (5, .int (beG g (p + 1) 4 (nI 0))), (0, .ref a0), (1, .int (nI p0)), (2, .ref t0)] dX0_endOfGood_66 rfl (nI_add _ _) (by decide) rfl ?_
          refine x_goto E 11 dX0_endOfGood_69 (by decide) ?_
          have hok := of_decide_eq_true h40
          refine x_lv [2, 0, 1, 3, 4, 5] rfl ?_
          exact ih _ _ _ (by omega) (by have := hok.2.2.1; omega) (fun _ => by have := hok.1; omega) (by rw [← h2, scan_s, if_pos ⟨H23a, H23b⟩, if_pos hok])
        · refine x_iconst E (v := (-1)) dX0_endOfGood_43 (by decide) ?_
          exact x_iret E hr hlocks dX0_endOfGood_44 ⟨by rw [← h2, scan_s, if_pos ⟨H23a, H23b⟩, if_neg (of_decide_eq_false h40)]; rfl, rfl⟩
      · refine x_iload E 1 dX0_endOfGood_11 rfl ?_
        refine x_bipush E (v := nI 16) dX0_endOfGood_13 (by decide) ?_
        refine x_ncmp_ge E 72 dX0_endOfGood_15 (by decide) (by omega) (by decide) (fun h => False.elim (by omega)) (fun h15 => ?_)
        refine x_aload_n E 3 dX0_endOfGood_18 rfl ?_
        refine x_iload_n E 2 dX0_endOfGood_19 rfl ?_
        refine x_cV E [.int (nI p)] [] [.int (gt n g p)] [(a0, .inr (1, [.ref a1, .int (nI n)])), (a1, .inl (cB, 8192, .inl (bf g))), (t0, .inr (2, [.ref t1, .ref t2, .ref t3, .ref t4, .int (nI c)])), (t1, .inl (cI, 600, .inl (nf S))), (t2, .inl (cI, 600, .inl (nf Ln))), (t3, .inl (cZ, 600, .inl (zf Z))), (t4, .inl (cB, 38400, .inl (bf K)))] (c_X1_get l D cB cI cZ cJ a0 a1 n g p (by omega) (by omega)) 0 rfl rfl (cwV 1 hts gX0_endOfGood_X1_get rfl rfl rfl (by decide +kernel) ⟨Nat.le_of_ble_eq_true rfl, Nat.le_of_ble_eq_true rfl⟩) [0, 1] [2, 3, 4, 5, 6] rfl rfl (by decide) (by decide) (by decide) [5, 6, 0, 1, 2, 3, 4] (by decide) rfl rfl (Nat.le_of_ble_eq_true rfl) dX0_endOfGood_20 ⟨Nat.zero_le _, Nat.zero_le _⟩ rfl rfl ?_
        refine x_if_le E 72 dX0_endOfGood_23 (by decide) (fun h23 => ?_) (fun h => absurd h (fun h => hpn (gt_npos h)))
        refine x_iload E 1 dX0_endOfGood_72 rfl ?_
        refine x_nif_le E 94 dX0_endOfGood_74 (by decide) (by omega) (fun h74 => ?_) (fun h74 => ?_)
        · refine x_iconst E (v := (-1)) dX0_endOfGood_94 (by decide) ?_
          exact x_iret E hr hlocks dX0_endOfGood_95 ⟨by rw [← h2, scan_s, if_neg hpn]; show _ = some (Value.int (oI (if 0 < k ∧ EndOk n g p k then some (p + 6) else none))); rw [if_neg (fun q => by first | omega | exact of_decide_eq_false h84 q.2)]; rfl, rfl⟩
        · refine x_aload_n E 3 dX0_endOfGood_77 rfl ?_
          refine x_iload_n E 2 dX0_endOfGood_78 rfl ?_
          refine x_iload E 1 dX0_endOfGood_79 rfl ?_
          refine x_cS E [.ref a0, .int (nI p), .int (nI k)] [] [.int (if decide (EndOk n g p k) = true then 1 else 0)] [(a0, .inr (1, [.ref a1, .int (nI n)])), (a1, .inl (cB, 8192, .inl (bf g))), (t0, .inr (2, [.ref t1, .ref t2, .ref t3, .ref t4, .int (nI c)])), (t1, .inl (cI, 600, .inl (nf S))), (t2, .inl (cI, 600, .inl (nf Ln))), (t3, .inl (cZ, 600, .inl (zf Z))), (t4, .inl (cB, 38400, .inl (bf K)))] (c_X0_isEndGood l D cB cI cZ cJ a0 a1 n g p k (by omega) (by omega) (by omega) (by omega)) (va_cwS 3 hts gX0_endOfGood_X0_isEndGood rfl rfl rfl (by decide +kernel) ⟨Nat.le_of_ble_eq_true rfl, Nat.le_of_ble_eq_true rfl⟩) [0, 1] [2, 3, 4, 5, 6] rfl rfl (by decide) (by decide) (by decide) [5, 6, 0, 1, 2, 3, 4] (by decide) rfl rfl (Nat.le_of_ble_eq_true rfl) dX0_endOfGood_81 ⟨Nat.zero_le _, Nat.zero_le _⟩ rfl rfl ?_
          refine x_qif_eq E 94 dX0_endOfGood_84 (by decide) (fun h84 => ?_) (fun h84 => ?_)
          · refine x_iconst E (v := (-1)) dX0_endOfGood_94 (by decide) ?_
            exact x_iret E hr hlocks dX0_endOfGood_95 ⟨by rw [← h2, scan_s, if_neg hpn]; show _ = some (Value.int (oI (if 0 < k ∧ EndOk n g p k then some (p + 6) else none))); rw [if_neg (fun q => by first | omega | exact of_decide_eq_false h84 q.2)]; rfl, rfl⟩
          · refine x_iload_n E 2 dX0_endOfGood_87 rfl ?_
            refine x_bipush E (v := nI 6) dX0_endOfGood_88 (by decide) ?_
            refine x_niadd E dX0_endOfGood_90 ?_
            refine x_goto E 95 dX0_endOfGood_91 (by decide) ?_
            exact x_iret E hr hlocks dX0_endOfGood_95 ⟨by rw [← h2, scan_s, if_neg hpn]; show _ = some (Value.int (oI (if 0 < k ∧ EndOk n g p k then some (p + 6) else none))); rw [if_pos ⟨by omega, of_decide_eq_true h84⟩]; rfl, rfl⟩
  refine x_iload_n E 1 dX0_endOfGood_0 rfl ?_
  refine x_istore_n E [(3, .int (nI p0)), (0, .ref a0), (1, .int (nI p0)), (2, .ref t0)] dX0_endOfGood_1 (by decide) rfl ?_
  refine x_iconst E (v := nI 0) dX0_endOfGood_2 (by decide) ?_
  refine x_istore E [(4, .int (nI 0)), (3, .int (nI p0)), (0, .ref a0), (1, .int (nI p0)), (2, .ref t0)] dX0_endOfGood_3 (by decide) rfl ?_
  refine x_aload_n E 4 dX0_endOfGood_5 rfl ?_
  refine x_cV E [] [] [.int (nI (lastS c S))] [(a0, .inr (1, [.ref a1, .int (nI n)])), (a1, .inl (cB, 8192, .inl (bf g))), (t0, .inr (2, [.ref t1, .ref t2, .ref t3, .ref t4, .int (nI c)])), (t1, .inl (cI, 600, .inl (nf S))), (t2, .inl (cI, 600, .inl (nf Ln))), (t3, .inl (cZ, 600, .inl (zf Z))), (t4, .inl (cB, 38400, .inl (bf K)))] (c_X2_lastSecond l D cB cI cZ cJ t0 t1 t2 t3 t4 c S Ln Z K (by omega)) 0 rfl rfl (cwV 0 hts gX0_endOfGood_X2_lastSecond rfl rfl rfl (by decide +kernel) ⟨Nat.le_of_ble_eq_true rfl, Nat.le_of_ble_eq_true rfl⟩) [2, 3, 4, 5, 6] [0, 1] rfl rfl (by decide) (by decide) (by decide) [0, 1, 2, 3, 4, 5, 6] (by decide) rfl rfl (Nat.le_of_ble_eq_true rfl) dX0_endOfGood_6 ⟨Nat.zero_le _, Nat.zero_le _⟩ rfl rfl ?_
  refine x_istore E [(5, .int (nI (lastS c S))), (4, .int (nI 0)), (3, .int (nI p0)), (0, .ref a0), (1, .int (nI p0)), (2, .ref t0)] dX0_endOfGood_9 (by decide) rfl ?_
  exact loop 16 p0 0 _ rfl hp (fun h => absurd h (by decide)) rfl
set_option maxRecDepth 100000 in
set_option maxHeartbeats 4000000 in
theorem c_X0_writeRow (l : Launch) (D : va_G) (cB cI cZ cJ : ClassId) (a0 : Nat) (a1 : Nat) (n : Nat) (g : Nat → UInt8) (t0 : Nat) (t1 : Nat) (t2 : Nat) (t3 : Nat) (t4 : Nat) (c : Nat) (S : Nat → Nat) (Ln : Nat → Nat) (Z : Nat → Bool) (K : Nat → UInt8) (r0 : Nat) (hc : c ≤ 600) (hr0 : r0 < c) (hl : Ln r0 ≤ 64) (hn : n + (Ln r0 + 11) ≤ 8192) : Ct l D vwCl (tyl cB cI cZ cJ) yX0_writeRow wsX0_writeRow rmX0_writeRow [.ref a0, .ref t0, .int (nI r0)] [(a0, .inr (1, [.ref a1, .int (nI n)])), (a1, .inl (cB, 8192, .inl (bf g))), (t0, .inr (2, [.ref t1, .ref t2, .ref t3, .ref t4, .int (nI c)])), (t1, .inl (cI, 600, .inl (nf S))), (t2, .inl (cI, 600, .inl (nf Ln))), (t3, .inl (cZ, 600, .inl (zf Z))), (t4, .inl (cB, 38400, .inl (bf K)))] (some (.int (rowSm r0 (S r0) (Ln r0) K (r0 * 64)))) [(a0, .inr (1, [.ref a1, .int (nI (n + (Ln r0 + 11)))])), (a1, .inl (cB, 8192, .inl (bf (app g n (rowB r0 (S r0) (Ln r0) K (r0 * 64)))))), (t0, .inr (2, [.ref t1, .ref t2, .ref t3, .ref t4, .int (nI c)])), (t1, .inl (cI, 600, .inl (nf S))), (t2, .inl (cI, 600, .inl (nf Ln))), (t3, .inl (cZ, 600, .inl (zf Z))), (t4, .inl (cB, 38400, .inl (bf K)))] := by
  refine x_start (cc := cX0_writeRow) (maxL := 6) (ret := (some .int)) (by decide) rfl (Nat.le_of_ble_eq_true rfl) ?_
  intro xp xe xs xm xb xt xc xA E hr hlocks hnm
  obtain ⟨-, -, -, hown, hts, hK, hA⟩ := id E
  refine x_lve (lv' := [(0, .ref a0), (1, .ref t0), (2, .int (nI r0))]) rfl ?_
  have loop : ∀ (k i n' : Nat) (g' : Nat → UInt8), i + k = Ln r0 → n' + k = n + 1 + 4 + Ln r0 → app g' n' (conL K (r0 * 64 + i) k) = app (app (va_up g n (u8 (nI (Ln r0)))) (n + 1) (beL (nI (S r0)) 4)) (n + 1 + 4) (conL K (r0 * 64) (Ln r0)) → Xs xp l xe rmX0_writeRow xs xm ([.ref a0, .ref t0, .int (nI r0)] : List Value).toArray xb xt xc D vwCl xA 6 0 0 (MQ xb (CQ D vwCl (tyl cB cI cZ cJ) xA (fun r u => r = (some (.int (rowSm r0 (S r0) (Ln r0) K (r0 * 64)))) ∧ u = [(a0, .inr (1, [.ref a1, .int (nI (n + (Ln r0 + 11)))])), (a1, .inl (cB, 8192, .inl (bf (app g n (rowB r0 (S r0) (Ln r0) K (r0 * 64)))))), (t0, .inr (2, [.ref t1, .ref t2, .ref t3, .ref t4, .int (nI c)])), (t1, .inl (cI, 600, .inl (nf S))), (t2, .inl (cI, 600, .inl (nf Ln))), (t3, .inl (cZ, 600, .inl (zf Z))), (t4, .inl (cB, 38400, .inl (bf K)))])) ([.ref a0, .ref t0, .int (nI r0)] : List Value).toArray xs 0 0 xA) [(a0, .inr (1, [.ref a1, .int (nI n')])), (a1, .inl (cB, 8192, .inl (bf g'))), (t0, .inr (2, [.ref t1, .ref t2, .ref t3, .ref t4, .int (nI c)])), (t1, .inl (cI, 600, .inl (nf S))), (t2, .inl (cI, 600, .inl (nf Ln))), (t3, .inl (cZ, 600, .inl (zf Z))), (t4, .inl (cB, 38400, .inl (bf K)))] [(5, .int (nI i)), (4, .int (nI (Ln r0))), (3, .int (nI n)), (0, .ref a0), (1, .ref t0), (2, .int (nI r0))] 31 [] := by
    intro k
    induction k with
    | zero =>
      intro i n' g' h1 h2 h3
      have h2 : n' = n + 1 + 4 + Ln r0 := h2
      have h3 : g' = app (app (va_up g n (u8 (nI (Ln r0)))) (n + 1) (beL (nI (S r0)) 4)) (n + 1 + 4) (conL K (r0 * 64) (Ln r0)) := h3
      subst h2
      subst h3
      refine x_iload E 0 dX0_writeRow_31 rfl ?_
      refine x_iload E 1 dX0_writeRow_33 rfl ?_
      refine x_ncmp_ge E 55 dX0_writeRow_35 (by decide) (by omega) (by omega) (fun h35 => ?_) (fun h => False.elim (by omega))
      refine x_aload_n E 3 dX0_writeRow_55 rfl ?_
      refine x_iload_n E 5 dX0_writeRow_56 rfl ?_
      refine x_iconst E (v := nI 2) dX0_writeRow_57 (by decide) ?_
      refine x_cV E [.int (nI r0), .int (nI 2)] [] [] [(a0, .inr (1, [.ref a1, .int (nI ((n + 1 + 4 + Ln r0) + 2))])), (a1, .inl (cB, 8192, .inl (bf (app (app (app (va_up g n (u8 (nI (Ln r0)))) (n + 1) (beL (nI (S r0)) 4)) (n + 1 + 4) (conL K (r0 * 64) (Ln r0))) (n + 1 + 4 + Ln r0) (beL (nI r0) 2))))), (t0, .inr (2, [.ref t1, .ref t2, .ref t3, .ref t4, .int (nI c)])), (t1, .inl (cI, 600, .inl (nf S))), (t2, .inl (cI, 600, .inl (nf Ln))), (t3, .inl (cZ, 600, .inl (zf Z))), (t4, .inl (cB, 38400, .inl (bf K)))] (c_X1_addNumber l D cB cI cZ cJ a0 a1 (n + 1 + 4 + Ln r0) (app (app (va_up g n (u8 (nI (Ln r0)))) (n + 1) (beL (nI (S r0)) 4)) (n + 1 + 4) (conL K (r0 * 64) (Ln r0))) (nI r0) 2 (by omega)) 0 rfl rfl (cwV 2 hts gX0_writeRow_X1_addNumber rfl rfl rfl (by decide +kernel) ⟨Nat.le_of_ble_eq_true rfl, Nat.le_of_ble_eq_true rfl⟩) [0, 1] [2, 3, 4, 5, 6] rfl rfl (by decide) (by decide) (by decide) [5, 6, 0, 1, 2, 3, 4] (by decide) rfl rfl (Nat.le_of_ble_eq_true rfl) dX0_writeRow_58 ⟨Nat.zero_le _, Nat.zero_le _⟩ rfl rfl ?_
      refine x_ws (ws' := [(a0, .inr (1, [.ref a1, .int (nI ((n + 1 + 4 + Ln r0) + 2))])), (a1, .inl (cB, 8192, .inl (bf (app g n (rowL r0 (S r0) (Ln r0) K (r0 * 64)))))), (t0, .inr (2, [.ref t1, .ref t2, .ref t3, .ref t4, .int (nI c)])), (t1, .inl (cI, 600, .inl (nf S))), (t2, .inl (cI, 600, .inl (nf Ln))), (t3, .inl (cZ, 600, .inl (zf Z))), (t4, .inl (cB, 38400, .inl (bf K)))]) (by rw [rowL_app]) ?_
      refine x_aload_n E 3 dX0_writeRow_61 rfl ?_
      refine x_iload_n E 2 dX0_writeRow_62 rfl ?_
      refine x_aload_n E 3 dX0_writeRow_63 rfl ?_
      refine x_cV E [] [.int (nI n), .ref a0] [.int (nI ((n + 1 + 4 + Ln r0) + 2)), .int (nI n), .ref a0] [(a0, .inr (1, [.ref a1, .int (nI ((n + 1 + 4 + Ln r0) + 2))])), (a1, .inl (cB, 8192, .inl (bf (app g n (rowL r0 (S r0) (Ln r0) K (r0 * 64)))))), (t0, .inr (2, [.ref t1, .ref t2, .ref t3, .ref t4, .int (nI c)])), (t1, .inl (cI, 600, .inl (nf S))), (t2, .inl (cI, 600, .inl (nf Ln))), (t3, .inl (cZ, 600, .inl (zf Z))), (t4, .inl (cB, 38400, .inl (bf K)))] (c_X1_size l D cB cI cZ cJ a0 a1 ((n + 1 + 4 + Ln r0) + 2) (app g n (rowL r0 (S r0) (Ln r0) K (r0 * 64))) ) 0 rfl rfl (cwV 0 hts gX0_writeRow_X1_size rfl rfl rfl (by decide +kernel) ⟨Nat.le_of_ble_eq_true rfl, Nat.le_of_ble_eq_true rfl⟩) [0, 1] [2, 3, 4, 5, 6] rfl rfl (by decide) (by decide) (by decide) [5, 6, 0, 1, 2, 3, 4] (by decide) rfl rfl (Nat.le_of_ble_eq_true rfl) dX0_writeRow_64 ⟨Nat.zero_le _, Nat.zero_le _⟩ rfl rfl ?_
      refine x_iconst E (v := nI 0) dX0_writeRow_67 (by decide) ?_
      refine x_cV E [.int (nI n), .int (nI ((n + 1 + 4 + Ln r0) + 2)), .int (nI 0)] [] [.int (smG (app g n (rowL r0 (S r0) (Ln r0) K (r0 * 64))) n (((n + 1 + 4 + Ln r0) + 2) - n) (nI 0))] [(a0, .inr (1, [.ref a1, .int (nI ((n + 1 + 4 + Ln r0) + 2))])), (a1, .inl (cB, 8192, .inl (bf (app g n (rowL r0 (S r0) (Ln r0) K (r0 * 64)))))), (t0, .inr (2, [.ref t1, .ref t2, .ref t3, .ref t4, .int (nI c)])), (t1, .inl (cI, 600, .inl (nf S))), (t2, .inl (cI, 600, .inl (nf Ln))), (t3, .inl (cZ, 600, .inl (zf Z))), (t4, .inl (cB, 38400, .inl (bf K)))] (c_X1_sumOf l D cB cI cZ cJ a0 a1 ((n + 1 + 4 + Ln r0) + 2) (app g n (rowL r0 (S r0) (Ln r0) K (r0 * 64))) n ((n + 1 + 4 + Ln r0) + 2) (nI 0) (by omega) (by omega) (by omega)) 0 rfl rfl (cwV 3 hts gX0_writeRow_X1_sumOf rfl rfl rfl (by decide +kernel) ⟨Nat.le_of_ble_eq_true rfl, Nat.le_of_ble_eq_true rfl⟩) [0, 1] [2, 3, 4, 5, 6] rfl rfl (by decide) (by decide) (by decide) [5, 6, 0, 1, 2, 3, 4] (by decide) rfl rfl (Nat.le_of_ble_eq_true rfl) dX0_writeRow_68 ⟨Nat.zero_le _, Nat.zero_le _⟩ rfl rfl ?_
      refine x_top (w := .int (rowSm r0 (S r0) (Ln r0) K (r0 * 64))) (by unfold rowSm; rw [← smG_app _ g n, rowL_len]; congr 2; omega) ?_
      refine x_istore E [(5, .int (rowSm r0 (S r0) (Ln r0) K (r0 * 64))), (4, .int (nI (Ln r0))), (3, .int (nI n)), (0, .ref a0), (1, .ref t0), (2, .int (nI r0))] dX0_writeRow_71 (by decide) rfl ?_
      refine x_aload_n E 3 dX0_writeRow_73 rfl ?_
      refine x_iload E 0 dX0_writeRow_74 rfl ?_
      refine x_iconst E (v := nI 4) dX0_writeRow_76 (by decide) ?_
      refine x_cV E [.int (rowSm r0 (S r0) (Ln r0) K (r0 * 64)), .int (nI 4)] [] [] [(a0, .inr (1, [.ref a1, .int (nI (((n + 1 + 4 + Ln r0) + 2) + 4))])), (a1, .inl (cB, 8192, .inl (bf (app (app g n (rowL r0 (S r0) (Ln r0) K (r0 * 64))) ((n + 1 + 4 + Ln r0) + 2) (beL (rowSm r0 (S r0) (Ln r0) K (r0 * 64)) 4))))), (t0, .inr (2, [.ref t1, .ref t2, .ref t3, .ref t4, .int (nI c)])), (t1, .inl (cI, 600, .inl (nf S))), (t2, .inl (cI, 600, .inl (nf Ln))), (t3, .inl (cZ, 600, .inl (zf Z))), (t4, .inl (cB, 38400, .inl (bf K)))] (c_X1_addNumber l D cB cI cZ cJ a0 a1 ((n + 1 + 4 + Ln r0) + 2) (app g n (rowL r0 (S r0) (Ln r0) K (r0 * 64))) (rowSm r0 (S r0) (Ln r0) K (r0 * 64)) 4 (by omega)) 0 rfl rfl (cwV 2 hts gX0_writeRow_X1_addNumber rfl rfl rfl (by decide +kernel) ⟨Nat.le_of_ble_eq_true rfl, Nat.le_of_ble_eq_true rfl⟩) [0, 1] [2, 3, 4, 5, 6] rfl rfl (by decide) (by decide) (by decide) [5, 6, 0, 1, 2, 3, 4] (by decide) rfl rfl (Nat.le_of_ble_eq_true rfl) dX0_writeRow_77 ⟨Nat.zero_le _, Nat.zero_le _⟩ rfl rfl ?_
      refine x_iload E 0 dX0_writeRow_80 rfl ?_
      exact x_iret E hr hlocks dX0_writeRow_82 ⟨rfl, by rw [show n + (Ln r0 + 11) = ((n + 1 + 4 + Ln r0) + 2) + 4 by omega]; unfold rowB; rw [app_app, rowL_len, show n + (7 + Ln r0) = n + 1 + 4 + Ln r0 + 2 by omega]⟩
    | succ k ih =>
      intro i n' g' h1 h2 h3
      refine x_iload E 0 dX0_writeRow_31 rfl ?_
      refine x_iload E 1 dX0_writeRow_33 rfl ?_
      refine x_ncmp_ge E 55 dX0_writeRow_35 (by decide) (by omega) (by omega) (fun h => False.elim (by omega)) (fun h35 => ?_)
      refine x_aload_n E 3 dX0_writeRow_38 rfl ?_
      refine x_aload_n E 4 dX0_writeRow_39 rfl ?_
      refine x_iload_n E 5 dX0_writeRow_40 rfl ?_
      refine x_iload E 0 dX0_writeRow_41 rfl ?_
      refine x_cV E [.int (nI r0), .int (nI i)] [.ref a0] [.int (nI ((K (r0 * 64 + i)).toNat)), .ref a0] [(a0, .inr (1, [.ref a1, .int (nI n')])), (a1, .inl (cB, 8192, .inl (bf g'))), (t0, .inr (2, [.ref t1, .ref t2, .ref t3, .ref t4, .int (nI c)])), (t1, .inl (cI, 600, .inl (nf S))), (t2, .inl (cI, 600, .inl (nf Ln))), (t3, .inl (cZ, 600, .inl (zf Z))), (t4, .inl (cB, 38400, .inl (bf K)))] (c_X2_contentAt_in l D cB cI cZ cJ t0 t1 t2 t3 t4 c S Ln Z K r0 i (by omega) (by omega) (by omega) (by omega)) 0 rfl rfl (cwV 2 hts gX0_writeRow_X2_contentAt rfl rfl rfl (by decide +kernel) ⟨Nat.le_of_ble_eq_true rfl, Nat.le_of_ble_eq_true rfl⟩) [2, 3, 4, 5, 6] [0, 1] rfl rfl (by decide) (by decide) (by decide) [0, 1, 2, 3, 4, 5, 6] (by decide) rfl rfl (Nat.le_of_ble_eq_true rfl) dX0_writeRow_43 ⟨Nat.zero_le _, Nat.zero_le _⟩ rfl rfl ?_
      refine x_cV E [.int (nI ((K (r0 * 64 + i)).toNat))] [] [] [(a0, .inr (1, [.ref a1, .int (nI (n' + 1))])), (a1, .inl (cB, 8192, .inl (bf (va_up g' n' (u8 (nI ((K (r0 * 64 + i)).toNat))))))), (t0, .inr (2, [.ref t1, .ref t2, .ref t3, .ref t4, .int (nI c)])), (t1, .inl (cI, 600, .inl (nf S))), (t2, .inl (cI, 600, .inl (nf Ln))), (t3, .inl (cZ, 600, .inl (zf Z))), (t4, .inl (cB, 38400, .inl (bf K)))] (c_X1_add l D cB cI cZ cJ a0 a1 n' g' (nI ((K (r0 * 64 + i)).toNat)) (by omega)) 0 rfl rfl (cwV 1 hts gX0_writeRow_X1_add rfl rfl rfl (by decide +kernel) ⟨Nat.le_of_ble_eq_true rfl, Nat.le_of_ble_eq_true rfl⟩) [0, 1] [2, 3, 4, 5, 6] rfl rfl (by decide) (by decide) (by decide) [5, 6, 0, 1, 2, 3, 4] (by decide) rfl rfl (Nat.le_of_ble_eq_true rfl) dX0_writeRow_46 ⟨Nat.zero_le _, Nat.zero_le _⟩ rfl rfl ?_
      refine x_iinc E 0 [(5, .int (nI (i + 1))), (4, .int (nI (Ln r0))), (3, .int (nI n)), (0, .ref a0), (1, .ref t0), (2, .int (nI r0))] dX0_writeRow_49 rfl (nI_add _ _) (by decide) rfl ?_
      refine x_goto E 31 dX0_writeRow_52 (by decide) ?_
      refine x_ws (ws' := [(a0, .inr (1, [.ref a1, .int (nI (n' + 1))])), (a1, .inl (cB, 8192, .inl (bf (va_up g' n' (K (r0 * 64 + i)))))), (t0, .inr (2, [.ref t1, .ref t2, .ref t3, .ref t4, .int (nI c)])), (t1, .inl (cI, 600, .inl (nf S))), (t2, .inl (cI, 600, .inl (nf Ln))), (t3, .inl (cZ, 600, .inl (zf Z))), (t4, .inl (cB, 38400, .inl (bf K)))]) (by rw [u8_u]) ?_
      exact ih (i + 1) (n' + 1) _ (by omega) (by omega) (by rw [← h3, conL_s, app_s]; rfl)
  refine x_aload_n E 0 dX0_writeRow_0 rfl ?_
  refine x_cV E [] [] [.int (nI n)] [(a0, .inr (1, [.ref a1, .int (nI n)])), (a1, .inl (cB, 8192, .inl (bf g))), (t0, .inr (2, [.ref t1, .ref t2, .ref t3, .ref t4, .int (nI c)])), (t1, .inl (cI, 600, .inl (nf S))), (t2, .inl (cI, 600, .inl (nf Ln))), (t3, .inl (cZ, 600, .inl (zf Z))), (t4, .inl (cB, 38400, .inl (bf K)))] (c_X1_size l D cB cI cZ cJ a0 a1 n g ) 0 rfl rfl (cwV 0 hts gX0_writeRow_X1_size rfl rfl rfl (by decide +kernel) ⟨Nat.le_of_ble_eq_true rfl, Nat.le_of_ble_eq_true rfl⟩) [0, 1] [2, 3, 4, 5, 6] rfl rfl (by decide) (by decide) (by decide) [5, 6, 0, 1, 2, 3, 4] (by decide) rfl rfl (Nat.le_of_ble_eq_true rfl) dX0_writeRow_1 ⟨Nat.zero_le _, Nat.zero_le _⟩ rfl rfl ?_
  refine x_istore_n E [(3, .int (nI n)), (0, .ref a0), (1, .ref t0), (2, .int (nI r0))] dX0_writeRow_4 (by decide) rfl ?_
  refine x_aload_n E 2 dX0_writeRow_5 rfl ?_
  refine x_iload_n E 3 dX0_writeRow_6 rfl ?_
  refine x_cV E [.int (nI r0)] [] [.int (nI (Ln r0))] [(a0, .inr (1, [.ref a1, .int (nI n)])), (a1, .inl (cB, 8192, .inl (bf g))), (t0, .inr (2, [.ref t1, .ref t2, .ref t3, .ref t4, .int (nI c)])), (t1, .inl (cI, 600, .inl (nf S))), (t2, .inl (cI, 600, .inl (nf Ln))), (t3, .inl (cZ, 600, .inl (zf Z))), (t4, .inl (cB, 38400, .inl (bf K)))] (c_X2_lengthOf_in l D cB cI cZ cJ t0 t1 t2 t3 t4 c S Ln Z K r0 (by omega) (by omega)) 0 rfl rfl (cwV 1 hts gX0_writeRow_X2_lengthOf rfl rfl rfl (by decide +kernel) ⟨Nat.le_of_ble_eq_true rfl, Nat.le_of_ble_eq_true rfl⟩) [2, 3, 4, 5, 6] [0, 1] rfl rfl (by decide) (by decide) (by decide) [0, 1, 2, 3, 4, 5, 6] (by decide) rfl rfl (Nat.le_of_ble_eq_true rfl) dX0_writeRow_7 ⟨Nat.zero_le _, Nat.zero_le _⟩ rfl rfl ?_
  refine x_istore E [(4, .int (nI (Ln r0))), (3, .int (nI n)), (0, .ref a0), (1, .ref t0), (2, .int (nI r0))] dX0_writeRow_10 (by decide) rfl ?_
  refine x_aload_n E 2 dX0_writeRow_12 rfl ?_
  refine x_iload E 0 dX0_writeRow_13 rfl ?_
  refine x_cV E [.int (nI (Ln r0))] [] [] [(a0, .inr (1, [.ref a1, .int (nI (n + 1))])), (a1, .inl (cB, 8192, .inl (bf (va_up g n (u8 (nI (Ln r0))))))), (t0, .inr (2, [.ref t1, .ref t2, .ref t3, .ref t4, .int (nI c)])), (t1, .inl (cI, 600, .inl (nf S))), (t2, .inl (cI, 600, .inl (nf Ln))), (t3, .inl (cZ, 600, .inl (zf Z))), (t4, .inl (cB, 38400, .inl (bf K)))] (c_X1_add l D cB cI cZ cJ a0 a1 n g (nI (Ln r0)) (by omega)) 0 rfl rfl (cwV 1 hts gX0_writeRow_X1_add rfl rfl rfl (by decide +kernel) ⟨Nat.le_of_ble_eq_true rfl, Nat.le_of_ble_eq_true rfl⟩) [0, 1] [2, 3, 4, 5, 6] rfl rfl (by decide) (by decide) (by decide) [5, 6, 0, 1, 2, 3, 4] (by decide) rfl rfl (Nat.le_of_ble_eq_true rfl) dX0_writeRow_15 ⟨Nat.zero_le _, Nat.zero_le _⟩ rfl rfl ?_
  refine x_aload_n E 2 dX0_writeRow_18 rfl ?_
  refine x_aload_n E 3 dX0_writeRow_19 rfl ?_
  refine x_iload_n E 4 dX0_writeRow_20 rfl ?_
  refine x_cV E [.int (nI r0)] [.ref a0] [.int (nI (S r0)), .ref a0] [(a0, .inr (1, [.ref a1, .int (nI (n + 1))])), (a1, .inl (cB, 8192, .inl (bf (va_up g n (u8 (nI (Ln r0))))))), (t0, .inr (2, [.ref t1, .ref t2, .ref t3, .ref t4, .int (nI c)])), (t1, .inl (cI, 600, .inl (nf S))), (t2, .inl (cI, 600, .inl (nf Ln))), (t3, .inl (cZ, 600, .inl (zf Z))), (t4, .inl (cB, 38400, .inl (bf K)))] (c_X2_secondOf_in l D cB cI cZ cJ t0 t1 t2 t3 t4 c S Ln Z K r0 (by omega) (by omega)) 0 rfl rfl (cwV 1 hts gX0_writeRow_X2_secondOf rfl rfl rfl (by decide +kernel) ⟨Nat.le_of_ble_eq_true rfl, Nat.le_of_ble_eq_true rfl⟩) [2, 3, 4, 5, 6] [0, 1] rfl rfl (by decide) (by decide) (by decide) [0, 1, 2, 3, 4, 5, 6] (by decide) rfl rfl (Nat.le_of_ble_eq_true rfl) dX0_writeRow_21 ⟨Nat.zero_le _, Nat.zero_le _⟩ rfl rfl ?_
  refine x_iconst E (v := nI 4) dX0_writeRow_24 (by decide) ?_
  refine x_cV E [.int (nI (S r0)), .int (nI 4)] [] [] [(a0, .inr (1, [.ref a1, .int (nI ((n + 1) + 4))])), (a1, .inl (cB, 8192, .inl (bf (app (va_up g n (u8 (nI (Ln r0)))) (n + 1) (beL (nI (S r0)) 4))))), (t0, .inr (2, [.ref t1, .ref t2, .ref t3, .ref t4, .int (nI c)])), (t1, .inl (cI, 600, .inl (nf S))), (t2, .inl (cI, 600, .inl (nf Ln))), (t3, .inl (cZ, 600, .inl (zf Z))), (t4, .inl (cB, 38400, .inl (bf K)))] (c_X1_addNumber l D cB cI cZ cJ a0 a1 (n + 1) (va_up g n (u8 (nI (Ln r0)))) (nI (S r0)) 4 (by omega)) 0 rfl rfl (cwV 2 hts gX0_writeRow_X1_addNumber rfl rfl rfl (by decide +kernel) ⟨Nat.le_of_ble_eq_true rfl, Nat.le_of_ble_eq_true rfl⟩) [0, 1] [2, 3, 4, 5, 6] rfl rfl (by decide) (by decide) (by decide) [5, 6, 0, 1, 2, 3, 4] (by decide) rfl rfl (Nat.le_of_ble_eq_true rfl) dX0_writeRow_25 ⟨Nat.zero_le _, Nat.zero_le _⟩ rfl rfl ?_
  refine x_iconst E (v := nI 0) dX0_writeRow_28 (by decide) ?_
  refine x_istore E [(5, .int (nI 0)), (4, .int (nI (Ln r0))), (3, .int (nI n)), (0, .ref a0), (1, .ref t0), (2, .int (nI r0))] dX0_writeRow_29 (by decide) rfl ?_
  exact loop (Ln r0) 0 _ _ (by omega) rfl rfl
set_option maxRecDepth 100000 in
set_option maxHeartbeats 4000000 in
theorem c_X0_write (l : Launch) (D : va_G) (cB cI cZ cJ : ClassId) (a0 : Nat) (a1 : Nat) (n : Nat) (g : Nat → UInt8) (t0 : Nat) (t1 : Nat) (t2 : Nat) (t3 : Nat) (t4 : Nat) (c : Nat) (S : Nat → Nat) (Ln : Nat → Nat) (Z : Nat → Bool) (K : Nat → UInt8) (k0 : Nat) (hc : c ≤ 600) (hk : k0 ≤ c) (hl : ∀ r, r < c → Ln r ≤ 64) (hn : n + (rsz Ln k0 (c - k0) + 6) ≤ 8192) : Ct l D vwCl (tyl cB cI cZ cJ) yX0_write wsX0_write rmX0_write [.ref a0, .ref t0, .int (nI k0)] [(a0, .inr (1, [.ref a1, .int (nI n)])), (a1, .inl (cB, 8192, .inl (bf g))), (t0, .inr (2, [.ref t1, .ref t2, .ref t3, .ref t4, .int (nI c)])), (t1, .inl (cI, 600, .inl (nf S))), (t2, .inl (cI, 600, .inl (nf Ln))), (t3, .inl (cZ, 600, .inl (zf Z))), (t4, .inl (cB, 38400, .inl (bf K)))] none [(a0, .inr (1, [.ref a1, .int (nI (n + (rsz Ln k0 (c - k0) + 6)))])), (a1, .inl (cB, 8192, .inl (bf (app g n (grpB S Ln K k0 (c - k0)))))), (t0, .inr (2, [.ref t1, .ref t2, .ref t3, .ref t4, .int (nI c)])), (t1, .inl (cI, 600, .inl (nf S))), (t2, .inl (cI, 600, .inl (nf Ln))), (t3, .inl (cZ, 600, .inl (zf Z))), (t4, .inl (cB, 38400, .inl (bf K)))] := by
  refine x_start (cc := cX0_write) (maxL := 5) (ret := none) (by decide) rfl (Nat.le_of_ble_eq_true rfl) ?_
  intro xp xe xs xm xb xt xc xA E hr hlocks hnm
  obtain ⟨-, -, -, hown, hts, hK, hA⟩ := id E
  refine x_lve (lv' := [(0, .ref a0), (1, .ref t0), (2, .int (nI k0))]) rfl ?_
  have loop : ∀ (k r n' : Nat) (s' : Int32) (g' : Nat → UInt8), r + k = c → n' + rsz Ln r k = n + rsz Ln k0 (c - k0) → app g' n' (rowsB S Ln K r k) = app g n (rowsB S Ln K k0 (c - k0)) → rowsSm S Ln K r k s' = rowsSm S Ln K k0 (c - k0) (nI 0) → Xs xp l xe rmX0_write xs xm ([.ref a0, .ref t0, .int (nI k0)] : List Value).toArray xb xt xc D vwCl xA 5 0 0 (MQ xb (CQ D vwCl (tyl cB cI cZ cJ) xA (fun r u => r = none ∧ u = [(a0, .inr (1, [.ref a1, .int (nI (n + (rsz Ln k0 (c - k0) + 6)))])), (a1, .inl (cB, 8192, .inl (bf (app g n (grpB S Ln K k0 (c - k0)))))), (t0, .inr (2, [.ref t1, .ref t2, .ref t3, .ref t4, .int (nI c)])), (t1, .inl (cI, 600, .inl (nf S))), (t2, .inl (cI, 600, .inl (nf Ln))), (t3, .inl (cZ, 600, .inl (zf Z))), (t4, .inl (cB, 38400, .inl (bf K)))])) ([.ref a0, .ref t0, .int (nI k0)] : List Value).toArray xs 0 0 xA) [(a0, .inr (1, [.ref a1, .int (nI n')])), (a1, .inl (cB, 8192, .inl (bf g'))), (t0, .inr (2, [.ref t1, .ref t2, .ref t3, .ref t4, .int (nI c)])), (t1, .inl (cI, 600, .inl (nf S))), (t2, .inl (cI, 600, .inl (nf Ln))), (t3, .inl (cZ, 600, .inl (zf Z))), (t4, .inl (cB, 38400, .inl (bf K)))] [(4, .int (nI r)), (3, .int s'), (0, .ref a0), (1, .ref t0), (2, .int (nI k0))] 5 [] := by
    intro k
    induction k with
    | zero =>
      intro r n' s' g' h1 h2 h3 h4
      have h2 : n' = n + rsz Ln k0 (c - k0) := h2
      have h3 : g' = app g n (rowsB S Ln K k0 (c - k0)) := h3
      have h4 : s' = rowsSm S Ln K k0 (c - k0) (nI 0) := h4
      subst h2
      subst h3
      subst h4
      refine x_iload E 0 dX0_write_5 rfl ?_
      refine x_aload_n E 3 dX0_write_7 rfl ?_
      refine x_cV E [] [.int (nI r)] [.int (nI c), .int (nI r)] [(a0, .inr (1, [.ref a1, .int (nI (n + rsz Ln k0 (c - k0)))])), (a1, .inl (cB, 8192, .inl (bf (app g n (rowsB S Ln K k0 (c - k0)))))), (t0, .inr (2, [.ref t1, .ref t2, .ref t3, .ref t4, .int (nI c)])), (t1, .inl (cI, 600, .inl (nf S))), (t2, .inl (cI, 600, .inl (nf Ln))), (t3, .inl (cZ, 600, .inl (zf Z))), (t4, .inl (cB, 38400, .inl (bf K)))] (c_X2_count l D cB cI cZ cJ t0 t1 t2 t3 t4 c S Ln Z K ) 0 rfl rfl (cwV 0 hts gX0_write_X2_count rfl rfl rfl (by decide +kernel) ⟨Nat.le_of_ble_eq_true rfl, Nat.le_of_ble_eq_true rfl⟩) [2, 3, 4, 5, 6] [0, 1] rfl rfl (by decide) (by decide) (by decide) [0, 1, 2, 3, 4, 5, 6] (by decide) rfl rfl (Nat.le_of_ble_eq_true rfl) dX0_write_8 ⟨Nat.zero_le _, Nat.zero_le _⟩ rfl rfl ?_
      refine x_ncmp_ge E 28 dX0_write_11 (by decide) (by omega) (by omega) (fun h11 => ?_) (fun h => False.elim (by omega))
      refine x_aload_n E 2 dX0_write_28 rfl ?_
      refine x_cV E [] [] [.int (nI (n + rsz Ln k0 (c - k0)))] [(a0, .inr (1, [.ref a1, .int (nI (n + rsz Ln k0 (c - k0)))])), (a1, .inl (cB, 8192, .inl (bf (app g n (rowsB S Ln K k0 (c - k0)))))), (t0, .inr (2, [.ref t1, .ref t2, .ref t3, .ref t4, .int (nI c)])), (t1, .inl (cI, 600, .inl (nf S))), (t2, .inl (cI, 600, .inl (nf Ln))), (t3, .inl (cZ, 600, .inl (zf Z))), (t4, .inl (cB, 38400, .inl (bf K)))] (c_X1_size l D cB cI cZ cJ a0 a1 (n + rsz Ln k0 (c - k0)) (app g n (rowsB S Ln K k0 (c - k0))) ) 0 rfl rfl (cwV 0 hts gX0_write_X1_size rfl rfl rfl (by decide +kernel) ⟨Nat.le_of_ble_eq_true rfl, Nat.le_of_ble_eq_true rfl⟩) [0, 1] [2, 3, 4, 5, 6] rfl rfl (by decide) (by decide) (by decide) [5, 6, 0, 1, 2, 3, 4] (by decide) rfl rfl (Nat.le_of_ble_eq_true rfl) dX0_write_29 ⟨Nat.zero_le _, Nat.zero_le _⟩ rfl rfl ?_
      refine x_istore E [(4, .int (nI (n + rsz Ln k0 (c - k0)))), (3, .int (rowsSm S Ln K k0 (c - k0) (nI 0))), (0, .ref a0), (1, .ref t0), (2, .int (nI k0))] dX0_write_32 (by decide) rfl ?_
      refine x_aload_n E 2 dX0_write_34 rfl ?_
      refine x_iconst E (v := nI 0) dX0_write_35 (by decide) ?_
      refine x_cV E [.int (nI 0)] [] [] [(a0, .inr (1, [.ref a1, .int (nI ((n + rsz Ln k0 (c - k0)) + 1))])), (a1, .inl (cB, 8192, .inl (bf (va_up (app g n (rowsB S Ln K k0 (c - k0))) (n + rsz Ln k0 (c - k0)) (u8 (nI 0)))))), (t0, .inr (2, [.ref t1, .ref t2, .ref t3, .ref t4, .int (nI c)])), (t1, .inl (cI, 600, .inl (nf S))), (t2, .inl (cI, 600, .inl (nf Ln))), (t3, .inl (cZ, 600, .inl (zf Z))), (t4, .inl (cB, 38400, .inl (bf K)))] (c_X1_add l D cB cI cZ cJ a0 a1 (n + rsz Ln k0 (c - k0)) (app g n (rowsB S Ln K k0 (c - k0))) (nI 0) (by omega)) 0 rfl rfl (cwV 1 hts gX0_write_X1_add rfl rfl rfl (by decide +kernel) ⟨Nat.le_of_ble_eq_true rfl, Nat.le_of_ble_eq_true rfl⟩) [0, 1] [2, 3, 4, 5, 6] rfl rfl (by decide) (by decide) (by decide) [5, 6, 0, 1, 2, 3, 4] (by decide) rfl rfl (Nat.le_of_ble_eq_true rfl) dX0_write_36 ⟨Nat.zero_le _, Nat.zero_le _⟩ rfl rfl ?_
      refine x_aload_n E 2 dX0_write_39 rfl ?_
      refine x_aload_n E 3 dX0_write_40 rfl ?_
      refine x_cV E [] [.ref a0] [.int (nI c), .ref a0] [(a0, .inr (1, [.ref a1, .int (nI ((n + rsz Ln k0 (c - k0)) + 1))])), (a1, .inl (cB, 8192, .inl (bf (va_up (app g n (rowsB S Ln K k0 (c - k0))) (n + rsz Ln k0 (c - k0)) (u8 (nI 0)))))), (t0, .inr (2, [.ref t1, .ref t2, .ref t3, .ref t4, .int (nI c)])), (t1, .inl (cI, 600, .inl (nf S))), (t2, .inl (cI, 600, .inl (nf Ln))), (t3, .inl (cZ, 600, .inl (zf Z))), (t4, .inl (cB, 38400, .inl (bf K)))] (c_X2_count l D cB cI cZ cJ t0 t1 t2 t3 t4 c S Ln Z K ) 0 rfl rfl (cwV 0 hts gX0_write_X2_count rfl rfl rfl (by decide +kernel) ⟨Nat.le_of_ble_eq_true rfl, Nat.le_of_ble_eq_true rfl⟩) [2, 3, 4, 5, 6] [0, 1] rfl rfl (by decide) (by decide) (by decide) [0, 1, 2, 3, 4, 5, 6] (by decide) rfl rfl (Nat.le_of_ble_eq_true rfl) dX0_write_41 ⟨Nat.zero_le _, Nat.zero_le _⟩ rfl rfl ?_
      refine x_iload_n E 4 dX0_write_44 rfl ?_
      refine x_nisub E dX0_write_45 (by omega) ?_
      refine x_cV E [.int (nI (c - k0))] [] [] [(a0, .inr (1, [.ref a1, .int (nI (((n + rsz Ln k0 (c - k0)) + 1) + 1))])), (a1, .inl (cB, 8192, .inl (bf (va_up (va_up (app g n (rowsB S Ln K k0 (c - k0))) (n + rsz Ln k0 (c - k0)) (u8 (nI 0))) ((n + rsz Ln k0 (c - k0)) + 1) (u8 (nI (c - k0))))))), (t0, .inr (2, [.ref t1, .ref t2, .ref t3, .ref t4, .int (nI c)])), (t1, .inl (cI, 600, .inl (nf S))), (t2, .inl (cI, 600, .inl (nf Ln))), (t3, .inl (cZ, 600, .inl (zf Z))), (t4, .inl (cB, 38400, .inl (bf K)))] (c_X1_add l D cB cI cZ cJ a0 a1 ((n + rsz Ln k0 (c - k0)) + 1) (va_up (app g n (rowsB S Ln K k0 (c - k0))) (n + rsz Ln k0 (c - k0)) (u8 (nI 0))) (nI (c - k0)) (by omega)) 0 rfl rfl (cwV 1 hts gX0_write_X1_add rfl rfl rfl (by decide +kernel) ⟨Nat.le_of_ble_eq_true rfl, Nat.le_of_ble_eq_true rfl⟩) [0, 1] [2, 3, 4, 5, 6] rfl rfl (by decide) (by decide) (by decide) [5, 6, 0, 1, 2, 3, 4] (by decide) rfl rfl (Nat.le_of_ble_eq_true rfl) dX0_write_46 ⟨Nat.zero_le _, Nat.zero_le _⟩ rfl rfl ?_
      refine x_aload_n E 2 dX0_write_49 rfl ?_
      refine x_aload_n E 2 dX0_write_50 rfl ?_
      refine x_iload E 0 dX0_write_51 rfl ?_
      refine x_iload E 0 dX0_write_53 rfl ?_
      refine x_iconst E (v := nI 2) dX0_write_55 (by decide) ?_
      refine x_niadd E dX0_write_56 ?_
      refine x_iload_n E 1 dX0_write_57 rfl ?_
      refine x_cV E [.int (nI (n + rsz Ln k0 (c - k0))), .int (nI ((n + rsz Ln k0 (c - k0)) + 2)), .int (rowsSm S Ln K k0 (c - k0) (nI 0))] [.ref a0] [.int (smG (va_up (va_up (app g n (rowsB S Ln K k0 (c - k0))) (n + rsz Ln k0 (c - k0)) (u8 (nI 0))) ((n + rsz Ln k0 (c - k0)) + 1) (u8 (nI (c - k0)))) (n + rsz Ln k0 (c - k0)) (((n + rsz Ln k0 (c - k0)) + 2) - (n + rsz Ln k0 (c - k0))) (rowsSm S Ln K k0 (c - k0) (nI 0))), .ref a0] [(a0, .inr (1, [.ref a1, .int (nI (((n + rsz Ln k0 (c - k0)) + 1) + 1))])), (a1, .inl (cB, 8192, .inl (bf (va_up (va_up (app g n (rowsB S Ln K k0 (c - k0))) (n + rsz Ln k0 (c - k0)) (u8 (nI 0))) ((n + rsz Ln k0 (c - k0)) + 1) (u8 (nI (c - k0))))))), (t0, .inr (2, [.ref t1, .ref t2, .ref t3, .ref t4, .int (nI c)])), (t1, .inl (cI, 600, .inl (nf S))), (t2, .inl (cI, 600, .inl (nf Ln))), (t3, .inl (cZ, 600, .inl (zf Z))), (t4, .inl (cB, 38400, .inl (bf K)))] (c_X1_sumOf l D cB cI cZ cJ a0 a1 (((n + rsz Ln k0 (c - k0)) + 1) + 1) (va_up (va_up (app g n (rowsB S Ln K k0 (c - k0))) (n + rsz Ln k0 (c - k0)) (u8 (nI 0))) ((n + rsz Ln k0 (c - k0)) + 1) (u8 (nI (c - k0)))) (n + rsz Ln k0 (c - k0)) ((n + rsz Ln k0 (c - k0)) + 2) (rowsSm S Ln K k0 (c - k0) (nI 0)) (by omega) (by omega) (by omega)) 0 rfl rfl (cwV 3 hts gX0_write_X1_sumOf rfl rfl rfl (by decide +kernel) ⟨Nat.le_of_ble_eq_true rfl, Nat.le_of_ble_eq_true rfl⟩) [0, 1] [2, 3, 4, 5, 6] rfl rfl (by decide) (by decide) (by decide) [5, 6, 0, 1, 2, 3, 4] (by decide) rfl rfl (Nat.le_of_ble_eq_true rfl) dX0_write_58 ⟨Nat.zero_le _, Nat.zero_le _⟩ rfl rfl ?_
      refine x_top (w := .int (smL [u8 (nI 0), u8 (nI (c - k0))] (rowsSm S Ln K k0 (c - k0) (nI 0)))) (by rw [← smG_app _ (app g n (rowsB S Ln K k0 (c - k0))) (n + rsz Ln k0 (c - k0)), show n + rsz Ln k0 (c - k0) + 2 - (n + rsz Ln k0 (c - k0)) = 2 by omega]; rfl) ?_
      refine x_iconst E (v := nI 4) dX0_write_61 (by decide) ?_
      refine x_cV E [.int (smL [u8 (nI 0), u8 (nI (c - k0))] (rowsSm S Ln K k0 (c - k0) (nI 0))), .int (nI 4)] [] [] [(a0, .inr (1, [.ref a1, .int (nI ((((n + rsz Ln k0 (c - k0)) + 1) + 1) + 4))])), (a1, .inl (cB, 8192, .inl (bf (app (va_up (va_up (app g n (rowsB S Ln K k0 (c - k0))) (n + rsz Ln k0 (c - k0)) (u8 (nI 0))) ((n + rsz Ln k0 (c - k0)) + 1) (u8 (nI (c - k0)))) (((n + rsz Ln k0 (c - k0)) + 1) + 1) (beL (smL [u8 (nI 0), u8 (nI (c - k0))] (rowsSm S Ln K k0 (c - k0) (nI 0))) 4))))), (t0, .inr (2, [.ref t1, .ref t2, .ref t3, .ref t4, .int (nI c)])), (t1, .inl (cI, 600, .inl (nf S))), (t2, .inl (cI, 600, .inl (nf Ln))), (t3, .inl (cZ, 600, .inl (zf Z))), (t4, .inl (cB, 38400, .inl (bf K)))] (c_X1_addNumber l D cB cI cZ cJ a0 a1 (((n + rsz Ln k0 (c - k0)) + 1) + 1) (va_up (va_up (app g n (rowsB S Ln K k0 (c - k0))) (n + rsz Ln k0 (c - k0)) (u8 (nI 0))) ((n + rsz Ln k0 (c - k0)) + 1) (u8 (nI (c - k0)))) (smL [u8 (nI 0), u8 (nI (c - k0))] (rowsSm S Ln K k0 (c - k0) (nI 0))) 4 (by omega)) 0 rfl rfl (cwV 2 hts gX0_write_X1_addNumber rfl rfl rfl (by decide +kernel) ⟨Nat.le_of_ble_eq_true rfl, Nat.le_of_ble_eq_true rfl⟩) [0, 1] [2, 3, 4, 5, 6] rfl rfl (by decide) (by decide) (by decide) [5, 6, 0, 1, 2, 3, 4] (by decide) rfl rfl (Nat.le_of_ble_eq_true rfl) dX0_write_62 ⟨Nat.zero_le _, Nat.zero_le _⟩ rfl rfl ?_
      exact x_vret E hr hlocks dX0_write_65 ⟨rfl, by rw [show n + (rsz Ln k0 (c - k0) + 6) = n + rsz Ln k0 (c - k0) + 1 + 1 + 4 by omega]; unfold grpB endB; rw [app_app, rowsB_len, app_s, app_s]⟩
    | succ k ih =>
      intro r n' s' g' h1 h2 h3 h4
      rw [rsz_s] at h2
      have hlr := hl r (by omega)
      refine x_iload E 0 dX0_write_5 rfl ?_
      refine x_aload_n E 3 dX0_write_7 rfl ?_
      refine x_cV E [] [.int (nI r)] [.int (nI c), .int (nI r)] [(a0, .inr (1, [.ref a1, .int (nI n')])), (a1, .inl (cB, 8192, .inl (bf g'))), (t0, .inr (2, [.ref t1, .ref t2, .ref t3, .ref t4, .int (nI c)])), (t1, .inl (cI, 600, .inl (nf S))), (t2, .inl (cI, 600, .inl (nf Ln))), (t3, .inl (cZ, 600, .inl (zf Z))), (t4, .inl (cB, 38400, .inl (bf K)))] (c_X2_count l D cB cI cZ cJ t0 t1 t2 t3 t4 c S Ln Z K ) 0 rfl rfl (cwV 0 hts gX0_write_X2_count rfl rfl rfl (by decide +kernel) ⟨Nat.le_of_ble_eq_true rfl, Nat.le_of_ble_eq_true rfl⟩) [2, 3, 4, 5, 6] [0, 1] rfl rfl (by decide) (by decide) (by decide) [0, 1, 2, 3, 4, 5, 6] (by decide) rfl rfl (Nat.le_of_ble_eq_true rfl) dX0_write_8 ⟨Nat.zero_le _, Nat.zero_le _⟩ rfl rfl ?_
      refine x_ncmp_ge E 28 dX0_write_11 (by decide) (by omega) (by omega) (fun h => False.elim (by omega)) (fun h11 => ?_)
      refine x_aload_n E 2 dX0_write_14 rfl ?_
      refine x_aload_n E 3 dX0_write_15 rfl ?_
      refine x_iload E 0 dX0_write_16 rfl ?_
      refine x_cS E [.ref a0, .ref t0, .int (nI r)] [] [.int (rowSm r (S r) (Ln r) K (r * 64))] [(a0, .inr (1, [.ref a1, .int (nI (n' + (Ln r + 11)))])), (a1, .inl (cB, 8192, .inl (bf (app g' n' (rowB r (S r) (Ln r) K (r * 64)))))), (t0, .inr (2, [.ref t1, .ref t2, .ref t3, .ref t4, .int (nI c)])), (t1, .inl (cI, 600, .inl (nf S))), (t2, .inl (cI, 600, .inl (nf Ln))), (t3, .inl (cZ, 600, .inl (zf Z))), (t4, .inl (cB, 38400, .inl (bf K)))] (c_X0_writeRow l D cB cI cZ cJ a0 a1 n' g' t0 t1 t2 t3 t4 c S Ln Z K r (by omega) (by omega) (by omega) (by omega)) (va_cwS 3 hts gX0_write_X0_writeRow rfl rfl rfl (by decide +kernel) ⟨Nat.le_of_ble_eq_true rfl, Nat.le_of_ble_eq_true rfl⟩) [0, 1, 2, 3, 4, 5, 6] [] rfl rfl (by decide) (by decide) (by decide) [0, 1, 2, 3, 4, 5, 6] (by decide) rfl rfl (Nat.le_of_ble_eq_true rfl) dX0_write_18 ⟨Nat.zero_le _, Nat.zero_le _⟩ rfl rfl ?_
      refine x_istore_n E [(3, .int (rowSm r (S r) (Ln r) K (r * 64))), (4, .int (nI r)), (0, .ref a0), (1, .ref t0), (2, .int (nI k0))] dX0_write_21 (by decide) rfl ?_
      refine x_iinc E 1 [(4, .int (nI (r + 1))), (3, .int (rowSm r (S r) (Ln r) K (r * 64))), (0, .ref a0), (1, .ref t0), (2, .int (nI k0))] dX0_write_22 rfl (nI_add _ _) (by decide) rfl ?_
      refine x_goto E 5 dX0_write_25 (by decide) ?_
      refine x_lv [0, 1, 2, 3, 4] rfl ?_
      exact ih (r + 1) _ _ _ (by omega) (by omega) (by rw [← h3, rowsB_s, app_app, rowB_len, show n' + (Ln r + 11) = n' + (11 + Ln r) by omega]) (by rw [← h4, rowsSm_s])
  refine x_iconst E (v := nI 0) dX0_write_0 (by decide) ?_
  refine x_istore_n E [(3, .int (nI 0)), (0, .ref a0), (1, .ref t0), (2, .int (nI k0))] dX0_write_1 (by decide) rfl ?_
  refine x_iload_n E 3 dX0_write_2 rfl ?_
  refine x_istore E [(4, .int (nI k0)), (3, .int (nI 0)), (0, .ref a0), (1, .ref t0), (2, .int (nI k0))] dX0_write_3 (by decide) rfl ?_
  exact loop (c - k0) k0 n (nI 0) g (by omega) rfl rfl rfl
theorem pushL (f : Nat → Nat) (c i : Nat) : va_up (va_up f c i) (c + 1 - 1) (va_up f c i (c + 1 - 1) + 1) = va_up f c (i + 1) := by
  rw [Nat.add_sub_cancel, va_up_self, bx_uu]
set_option maxRecDepth 100000 in
set_option maxHeartbeats 4000000 in
theorem c_X0_read (l : Launch) (D : va_G) (cB cI cZ cJ : ClassId) (a0 : Nat) (a1 : Nat) (n : Nat) (g : Nat → UInt8) (t0 : Nat) (t1 : Nat) (t2 : Nat) (t3 : Nat) (t4 : Nat) (c : Nat) (S : Nat → Nat) (Ln : Nat → Nat) (Z : Nat → Bool) (K : Nat → UInt8) (p0 : Nat) (q0 : Nat) (k : Nat) (hn : n ≤ 8192) (hq : 6 ≤ q0) (hqn : q0 ≤ n) (hp : p0 ≤ 8192) (hcnt : (g (q0 - 6 + 1)).toNat = k) (hk : 0 < k) (hck : c + k ≤ 600) (hg : GR n g p0 k) : Ct l D vwCl (tyl cB cI cZ cJ) yX0_read wsX0_read rmX0_read [.ref a0, .int (nI p0), .int (nI q0), .ref t0] [(a0, .inr (1, [.ref a1, .int (nI n)])), (a1, .inl (cB, 8192, .inl (bf g))), (t0, .inr (2, [.ref t1, .ref t2, .ref t3, .ref t4, .int (nI c)])), (t1, .inl (cI, 600, .inl (nf S))), (t2, .inl (cI, 600, .inl (nf Ln))), (t3, .inl (cZ, 600, .inl (zf Z))), (t4, .inl (cB, 38400, .inl (bf K)))] none [(a0, .inr (1, [.ref a1, .int (nI n)])), (a1, .inl (cB, 8192, .inl (bf g))), (t0, .inr (2, [.ref t1, .ref t2, .ref t3, .ref t4, .int (nI (c + k))])), (t1, .inl (cI, 600, .inl (nf (rdS g k p0 c S)))), (t2, .inl (cI, 600, .inl (nf (rdL g k p0 c Ln)))), (t3, .inl (cZ, 600, .inl (zf (va_up (rdZ k c Z) (c + k - 1) true)))), (t4, .inl (cB, 38400, .inl (bf (rdK g k p0 c K))))] := by
  refine x_start (cc := cX0_read) (maxL := 10) (ret := none) (by decide) rfl (Nat.le_of_ble_eq_true rfl) ?_
  intro xp xe xs xm xb xt xc xA E hr hlocks hnm
  obtain ⟨-, -, -, hown, hts, hK, hA⟩ := id E
  refine x_lve (lv' := [(0, .ref a0), (1, .int (nI p0)), (2, .int (nI q0)), (3, .ref t0)]) rfl ?_
  have loop : ∀ (j r p c' : Nat) (S' L' : Nat → Nat) (Z' : Nat → Bool) (K' : Nat → UInt8), r + j = k → p ≤ 8192 → GR n g p j → c' + j = c + k → rdS g j p c' S' = rdS g k p0 c S → rdL g j p c' L' = rdL g k p0 c Ln → rdZ j c' Z' = rdZ k c Z → rdK g j p c' K' = rdK g k p0 c K → Xs xp l xe rmX0_read xs xm ([.ref a0, .int (nI p0), .int (nI q0), .ref t0] : List Value).toArray xb xt xc D vwCl xA 10 0 0 (MQ xb (CQ D vwCl (tyl cB cI cZ cJ) xA (fun r u => r = none ∧ u = [(a0, .inr (1, [.ref a1, .int (nI n)])), (a1, .inl (cB, 8192, .inl (bf g))), (t0, .inr (2, [.ref t1, .ref t2, .ref t3, .ref t4, .int (nI (c + k))])), (t1, .inl (cI, 600, .inl (nf (rdS g k p0 c S)))), (t2, .inl (cI, 600, .inl (nf (rdL g k p0 c Ln)))), (t3, .inl (cZ, 600, .inl (zf (va_up (rdZ k c Z) (c + k - 1) true)))), (t4, .inl (cB, 38400, .inl (bf (rdK g k p0 c K))))])) ([.ref a0, .int (nI p0), .int (nI q0), .ref t0] : List Value).toArray xs 0 0 xA) [(a0, .inr (1, [.ref a1, .int (nI n)])), (a1, .inl (cB, 8192, .inl (bf g))), (t0, .inr (2, [.ref t1, .ref t2, .ref t3, .ref t4, .int (nI c')])), (t1, .inl (cI, 600, .inl (nf S'))), (t2, .inl (cI, 600, .inl (nf L'))), (t3, .inl (cZ, 600, .inl (zf Z'))), (t4, .inl (cB, 38400, .inl (bf K')))] [(6, .int (nI r)), (5, .int (nI k)), (4, .int (nI p)), (0, .ref a0), (1, .int (nI p0)), (2, .int (nI q0)), (3, .ref t0)] 18 [] := by
    intro j
    induction j with
    | zero =>
      intro r p c' S' L' Z' K' h1 hp1 hg1 h2 h3 h4 h5 h6
      have h2 : c' = c + k := h2
      have h3 : S' = rdS g k p0 c S := h3
      have h4 : L' = rdL g k p0 c Ln := h4
      have h5 : Z' = rdZ k c Z := h5
      have h6 : K' = rdK g k p0 c K := h6
      subst h2
      subst h3
      subst h4
      subst h5
      subst h6
      refine x_iload E 0 dX0_read_18 rfl ?_
      refine x_iload E 1 dX0_read_20 rfl ?_
      refine x_ncmp_ge E 99 dX0_read_22 (by decide) (by omega) (by omega) (fun h22 => ?_) (fun h => False.elim (by omega))
      refine x_aload_n E 6 dX0_read_99 rfl ?_
      refine x_cV E [] [] [] [(a0, .inr (1, [.ref a1, .int (nI n)])), (a1, .inl (cB, 8192, .inl (bf g))), (t0, .inr (2, [.ref t1, .ref t2, .ref t3, .ref t4, .int (nI (c + k))])), (t1, .inl (cI, 600, .inl (nf (rdS g k p0 c S)))), (t2, .inl (cI, 600, .inl (nf (rdL g k p0 c Ln)))), (t3, .inl (cZ, 600, .inl (zf (va_up (rdZ k c Z) ((c + k) - 1) true)))), (t4, .inl (cB, 38400, .inl (bf (rdK g k p0 c K))))] (c_X2_endGroupHere l D cB cI cZ cJ t0 t1 t2 t3 t4 (c + k) (rdS g k p0 c S) (rdL g k p0 c Ln) (rdZ k c Z) (rdK g k p0 c K) (by omega) (by omega)) 0 rfl rfl (cwV 0 hts gX0_read_X2_endGroupHere rfl rfl rfl (by decide +kernel) ⟨Nat.le_of_ble_eq_true rfl, Nat.le_of_ble_eq_true rfl⟩) [2, 3, 4, 5, 6] [0, 1] rfl rfl (by decide) (by decide) (by decide) [0, 1, 2, 3, 4, 5, 6] (by decide) rfl rfl (Nat.le_of_ble_eq_true rfl) dX0_read_100 ⟨Nat.zero_le _, Nat.zero_le _⟩ rfl rfl ?_
      exact x_vret E hr hlocks dX0_read_103 ⟨rfl, rfl⟩
    | succ j ih =>
      intro r p c' S' L' Z' K' h1 hp1 hg1 h2 h3 h4 h5 h6
      obtain ⟨ga, gb, gc, gd, ge, gf⟩ := hg1
      have inner : ∀ (j2 i : Nat) (K2 : Nat → UInt8), i + j2 = (g p).toNat → app K2 (c' * 64 + i) (conL g (p + 5 + i) j2) = app K' (c' * 64) (conL g (p + 5) (g p).toNat) → Xs xp l xe rmX0_read xs xm ([.ref a0, .int (nI p0), .int (nI q0), .ref t0] : List Value).toArray xb xt xc D vwCl xA 10 0 0 (MQ xb (CQ D vwCl (tyl cB cI cZ cJ) xA (fun r u => r = none ∧ u = [(a0, .inr (1, [.ref a1, .int (nI n)])), (a1, .inl (cB, 8192, .inl (bf g))), (t0, .inr (2, [.ref t1, .ref t2, .ref t3, .ref t4, .int (nI (c + k))])), (t1, .inl (cI, 600, .inl (nf (rdS g k p0 c S)))), (t2, .inl (cI, 600, .inl (nf (rdL g k p0 c Ln)))), (t3, .inl (cZ, 600, .inl (zf (va_up (rdZ k c Z) (c + k - 1) true)))), (t4, .inl (cB, 38400, .inl (bf (rdK g k p0 c K))))])) ([.ref a0, .int (nI p0), .int (nI q0), .ref t0] : List Value).toArray xs 0 0 xA) [(a0, .inr (1, [.ref a1, .int (nI n)])), (a1, .inl (cB, 8192, .inl (bf g))), (t0, .inr (2, [.ref t1, .ref t2, .ref t3, .ref t4, .int (nI (c' + 1))])), (t1, .inl (cI, 600, .inl (nf (va_up S' c' (secN g p))))), (t2, .inl (cI, 600, .inl (nf (va_up L' c' i)))), (t3, .inl (cZ, 600, .inl (zf (va_up Z' c' false)))), (t4, .inl (cB, 38400, .inl (bf K2)))] [(9, .int (nI i)), (8, .int (nI ((p + 1) + 4))), (7, .int (nI ((g p).toNat))), (6, .int (nI r)), (5, .int (nI k)), (4, .int (nI p)), (0, .ref a0), (1, .int (nI p0)), (2, .int (nI q0)), (3, .ref t0)] 57 [] := by
        intro j2
        induction j2 with
        | zero =>
          intro i K2 e1 e2
          have e2 : K2 = app K' (c' * 64) (conL g (p + 5) (g p).toNat) := e2
          have e1 : i = (g p).toNat := e1
          subst e1
          subst e2
          refine x_iload E 0 dX0_read_57 rfl ?_
          refine x_iload E 2 dX0_read_59 rfl ?_
          refine x_ncmp_ge E 83 dX0_read_61 (by decide) (by omega) (u8lt (g p)) (fun h61 => ?_) (fun h => False.elim (by omega))
          refine x_iload E 5 dX0_read_83 rfl ?_
          refine x_iload E 2 dX0_read_85 rfl ?_
          refine x_bipush E (v := nI 11) dX0_read_87 (by decide) ?_
          refine x_niadd E dX0_read_89 ?_
          refine x_niadd E dX0_read_90 ?_
          refine x_istore E [(4, .int (nI (p + (((g p).toNat) + 11)))), (9, .int (nI ((g p).toNat))), (8, .int (nI ((p + 1) + 4))), (7, .int (nI ((g p).toNat))), (6, .int (nI r)), (5, .int (nI k)), (0, .ref a0), (1, .int (nI p0)), (2, .int (nI q0)), (3, .ref t0)] dX0_read_91 (by decide) rfl ?_
          refine x_iinc E 4 [(6, .int (nI (r + 1))), (4, .int (nI (p + (((g p).toNat) + 11)))), (9, .int (nI ((g p).toNat))), (8, .int (nI ((p + 1) + 4))), (7, .int (nI ((g p).toNat))), (5, .int (nI k)), (0, .ref a0), (1, .int (nI p0)), (2, .int (nI q0)), (3, .ref t0)] dX0_read_93 rfl (nI_add _ _) (by decide) rfl ?_
          refine x_goto E 18 dX0_read_96 (by decide) ?_
          refine x_lv [0, 5, 1, 6, 7, 8, 9] rfl ?_
          exact ih (r + 1) _ (c' + 1) _ _ _ _ (by omega) (by omega) gf (by omega) h3 h4 h5 h6
        | succ j2 ih2 =>
          intro i K2 e1 e2
          refine x_iload E 0 dX0_read_57 rfl ?_
          refine x_iload E 2 dX0_read_59 rfl ?_
          refine x_ncmp_ge E 83 dX0_read_61 (by decide) (by omega) (u8lt (g p)) (fun h => False.elim (by omega)) (fun h61 => ?_)
          refine x_aload_n E 9 dX0_read_64 rfl ?_
          refine x_aload_n E 6 dX0_read_65 rfl ?_
          refine x_iload E 1 dX0_read_66 rfl ?_
          refine x_iload E 0 dX0_read_68 rfl ?_
          refine x_niadd E dX0_read_70 ?_
          refine x_cV E [.int (nI (((p + 1) + 4) + i))] [.ref t0] [.int (nI ((g (((p + 1) + 4) + i)).toNat)), .ref t0] [(a0, .inr (1, [.ref a1, .int (nI n)])), (a1, .inl (cB, 8192, .inl (bf g))), (t0, .inr (2, [.ref t1, .ref t2, .ref t3, .ref t4, .int (nI (c' + 1))])), (t1, .inl (cI, 600, .inl (nf (va_up S' c' (secN g p))))), (t2, .inl (cI, 600, .inl (nf (va_up L' c' i)))), (t3, .inl (cZ, 600, .inl (zf (va_up Z' c' false)))), (t4, .inl (cB, 38400, .inl (bf K2)))] (c_X1_get_in l D cB cI cZ cJ a0 a1 n g (((p + 1) + 4) + i) (by omega) (by omega)) 0 rfl rfl (cwV 1 hts gX0_read_X1_get rfl rfl rfl (by decide +kernel) ⟨Nat.le_of_ble_eq_true rfl, Nat.le_of_ble_eq_true rfl⟩) [0, 1] [2, 3, 4, 5, 6] rfl rfl (by decide) (by decide) (by decide) [5, 6, 0, 1, 2, 3, 4] (by decide) rfl rfl (Nat.le_of_ble_eq_true rfl) dX0_read_71 ⟨Nat.zero_le _, Nat.zero_le _⟩ rfl rfl ?_
          refine x_cV E [.int (nI ((g (((p + 1) + 4) + i)).toNat))] [] [] [(a0, .inr (1, [.ref a1, .int (nI n)])), (a1, .inl (cB, 8192, .inl (bf g))), (t0, .inr (2, [.ref t1, .ref t2, .ref t3, .ref t4, .int (nI (c' + 1))])), (t1, .inl (cI, 600, .inl (nf (va_up S' c' (secN g p))))), (t2, .inl (cI, 600, .inl (nf (va_up (va_up L' c' i) ((c' + 1) - 1) ((va_up L' c' i) ((c' + 1) - 1) + 1))))), (t3, .inl (cZ, 600, .inl (zf (va_up Z' c' false)))), (t4, .inl (cB, 38400, .inl (bf (va_up K2 (((c' + 1) - 1) * 64 + (va_up L' c' i) ((c' + 1) - 1)) (u8 (nI ((g (((p + 1) + 4) + i)).toNat)))))))] (c_X2_push l D cB cI cZ cJ t0 t1 t2 t3 t4 (c' + 1) (va_up S' c' (secN g p)) (va_up L' c' i) (va_up Z' c' false) K2 (nI ((g (((p + 1) + 4) + i)).toNat)) (by omega) (by omega) (by rw [Nat.add_sub_cancel, va_up_self]; omega)) 0 rfl rfl (cwV 1 hts gX0_read_X2_push rfl rfl rfl (by decide +kernel) ⟨Nat.le_of_ble_eq_true rfl, Nat.le_of_ble_eq_true rfl⟩) [2, 3, 4, 5, 6] [0, 1] rfl rfl (by decide) (by decide) (by decide) [0, 1, 2, 3, 4, 5, 6] (by decide) rfl rfl (Nat.le_of_ble_eq_true rfl) dX0_read_74 ⟨Nat.zero_le _, Nat.zero_le _⟩ rfl rfl ?_
          refine x_iinc E 0 [(9, .int (nI (i + 1))), (8, .int (nI ((p + 1) + 4))), (7, .int (nI ((g p).toNat))), (6, .int (nI r)), (5, .int (nI k)), (4, .int (nI p)), (0, .ref a0), (1, .int (nI p0)), (2, .int (nI q0)), (3, .ref t0)] dX0_read_77 rfl (nI_add _ _) (by decide) rfl ?_
          refine x_goto E 57 dX0_read_80 (by decide) ?_
          refine x_ws (ws' := [(a0, .inr (1, [.ref a1, .int (nI n)])), (a1, .inl (cB, 8192, .inl (bf g))), (t0, .inr (2, [.ref t1, .ref t2, .ref t3, .ref t4, .int (nI (c' + 1))])), (t1, .inl (cI, 600, .inl (nf (va_up S' c' (secN g p))))), (t2, .inl (cI, 600, .inl (nf (va_up L' c' (i + 1))))), (t3, .inl (cZ, 600, .inl (zf (va_up Z' c' false)))), (t4, .inl (cB, 38400, .inl (bf (va_up K2 (c' * 64 + i) (g (p + 5 + i))))))]) (by rw [pushL, Nat.add_sub_cancel, va_up_self, u8_u]) ?_
          exact ih2 (i + 1) _ (by omega) (by rw [← e2, conL_s, app_s]; rfl)
      refine x_iload E 0 dX0_read_18 rfl ?_
      refine x_iload E 1 dX0_read_20 rfl ?_
      refine x_ncmp_ge E 99 dX0_read_22 (by decide) (by omega) (by omega) (fun h => False.elim (by omega)) (fun h22 => ?_)
      refine x_aload_n E 3 dX0_read_25 rfl ?_
      refine x_iload E 2 dX0_read_26 rfl ?_
      refine x_cV E [.int (nI p)] [] [.int (nI ((g p).toNat))] [(a0, .inr (1, [.ref a1, .int (nI n)])), (a1, .inl (cB, 8192, .inl (bf g))), (t0, .inr (2, [.ref t1, .ref t2, .ref t3, .ref t4, .int (nI c')])), (t1, .inl (cI, 600, .inl (nf S'))), (t2, .inl (cI, 600, .inl (nf L'))), (t3, .inl (cZ, 600, .inl (zf Z'))), (t4, .inl (cB, 38400, .inl (bf K')))] (c_X1_get_in l D cB cI cZ cJ a0 a1 n g p (by omega) (by omega)) 0 rfl rfl (cwV 1 hts gX0_read_X1_get rfl rfl rfl (by decide +kernel) ⟨Nat.le_of_ble_eq_true rfl, Nat.le_of_ble_eq_true rfl⟩) [0, 1] [2, 3, 4, 5, 6] rfl rfl (by decide) (by decide) (by decide) [5, 6, 0, 1, 2, 3, 4] (by decide) rfl rfl (Nat.le_of_ble_eq_true rfl) dX0_read_28 ⟨Nat.zero_le _, Nat.zero_le _⟩ rfl rfl ?_
      refine x_istore E [(7, .int (nI ((g p).toNat))), (6, .int (nI r)), (5, .int (nI k)), (4, .int (nI p)), (0, .ref a0), (1, .int (nI p0)), (2, .int (nI q0)), (3, .ref t0)] dX0_read_31 (by decide) rfl ?_
      refine x_iload E 3 dX0_read_33 rfl ?_
      refine x_iconst E (v := nI 1) dX0_read_35 (by decide) ?_
      refine x_niadd E dX0_read_36 ?_
      refine x_iconst E (v := nI 4) dX0_read_37 (by decide) ?_
      refine x_niadd E dX0_read_38 ?_
      refine x_istore E [(8, .int (nI ((p + 1) + 4))), (7, .int (nI ((g p).toNat))), (6, .int (nI r)), (5, .int (nI k)), (4, .int (nI p)), (0, .ref a0), (1, .int (nI p0)), (2, .int (nI q0)), (3, .ref t0)] dX0_read_39 (by decide) rfl ?_
      refine x_aload_n E 8 dX0_read_41 rfl ?_
      refine x_aload_n E 5 dX0_read_42 rfl ?_
      refine x_iload E 4 dX0_read_43 rfl ?_
      refine x_iconst E (v := nI 1) dX0_read_45 (by decide) ?_
      refine x_niadd E dX0_read_46 ?_
      refine x_iconst E (v := nI 4) dX0_read_47 (by decide) ?_
      refine x_cV E [.int (nI (p + 1)), .int (nI 4)] [.ref t0] [.int (beG g (p + 1) 4 (nI 0)), .ref t0] [(a0, .inr (1, [.ref a1, .int (nI n)])), (a1, .inl (cB, 8192, .inl (bf g))), (t0, .inr (2, [.ref t1, .ref t2, .ref t3, .ref t4, .int (nI c')])), (t1, .inl (cI, 600, .inl (nf S'))), (t2, .inl (cI, 600, .inl (nf L'))), (t3, .inl (cZ, 600, .inl (zf Z'))), (t4, .inl (cB, 38400, .inl (bf K')))] (c_X1_number l D cB cI cZ cJ a0 a1 n g (p + 1) 4 (by omega) (by omega)) 0 rfl rfl (cwV 2 hts gX0_read_X1_number rfl rfl rfl (by decide +kernel) ⟨Nat.le_of_ble_eq_true rfl, Nat.le_of_ble_eq_true rfl⟩) [0, 1] [2, 3, 4, 5, 6] rfl rfl (by decide) (by decide) (by decide) [5, 6, 0, 1, 2, 3, 4] (by decide) rfl rfl (Nat.le_of_ble_eq_true rfl) dX0_read_48 ⟨Nat.zero_le _, Nat.zero_le _⟩ rfl rfl ?_
      refine x_top (w := .int (nI (secN g p))) (by rw [gd]) ?_
      refine x_cV E [.int (nI (secN g p))] [] [] [(a0, .inr (1, [.ref a1, .int (nI n)])), (a1, .inl (cB, 8192, .inl (bf g))), (t0, .inr (2, [.ref t1, .ref t2, .ref t3, .ref t4, .int (nI (c' + 1))])), (t1, .inl (cI, 600, .inl (nf (va_up S' c' (secN g p))))), (t2, .inl (cI, 600, .inl (nf (va_up L' c' 0)))), (t3, .inl (cZ, 600, .inl (zf (va_up Z' c' false)))), (t4, .inl (cB, 38400, .inl (bf K')))] (c_X2_begin l D cB cI cZ cJ t0 t1 t2 t3 t4 c' S' L' Z' K' (secN g p) (by omega)) 0 rfl rfl (cwV 1 hts gX0_read_X2_begin rfl rfl rfl (by decide +kernel) ⟨Nat.le_of_ble_eq_true rfl, Nat.le_of_ble_eq_true rfl⟩) [2, 3, 4, 5, 6] [0, 1] rfl rfl (by decide) (by decide) (by decide) [0, 1, 2, 3, 4, 5, 6] (by decide) rfl rfl (Nat.le_of_ble_eq_true rfl) dX0_read_51 ⟨Nat.zero_le _, Nat.zero_le _⟩ rfl rfl ?_
      refine x_iconst E (v := nI 0) dX0_read_54 (by decide) ?_
      refine x_istore E [(9, .int (nI 0)), (8, .int (nI ((p + 1) + 4))), (7, .int (nI ((g p).toNat))), (6, .int (nI r)), (5, .int (nI k)), (4, .int (nI p)), (0, .ref a0), (1, .int (nI p0)), (2, .int (nI q0)), (3, .ref t0)] dX0_read_55 (by decide) rfl ?_
      exact inner (g p).toNat 0 K' (by omega) rfl
  refine x_iload_n E 1 dX0_read_0 rfl ?_
  refine x_istore E [(4, .int (nI p0)), (0, .ref a0), (1, .int (nI p0)), (2, .int (nI q0)), (3, .ref t0)] dX0_read_1 (by decide) rfl ?_
  refine x_aload_n E 1 dX0_read_3 rfl ?_
  refine x_iload_n E 3 dX0_read_4 rfl ?_
  refine x_bipush E (v := nI 6) dX0_read_5 (by decide) ?_
  refine x_nisub E dX0_read_7 (by omega) ?_
  refine x_iconst E (v := nI 1) dX0_read_8 (by decide) ?_
  refine x_niadd E dX0_read_9 ?_
  refine x_cV E [.int (nI ((q0 - 6) + 1))] [] [.int (nI ((g ((q0 - 6) + 1)).toNat))] [(a0, .inr (1, [.ref a1, .int (nI n)])), (a1, .inl (cB, 8192, .inl (bf g))), (t0, .inr (2, [.ref t1, .ref t2, .ref t3, .ref t4, .int (nI c)])), (t1, .inl (cI, 600, .inl (nf S))), (t2, .inl (cI, 600, .inl (nf Ln))), (t3, .inl (cZ, 600, .inl (zf Z))), (t4, .inl (cB, 38400, .inl (bf K)))] (c_X1_get_in l D cB cI cZ cJ a0 a1 n g ((q0 - 6) + 1) (by omega) (by omega)) 0 rfl rfl (cwV 1 hts gX0_read_X1_get rfl rfl rfl (by decide +kernel) ⟨Nat.le_of_ble_eq_true rfl, Nat.le_of_ble_eq_true rfl⟩) [0, 1] [2, 3, 4, 5, 6] rfl rfl (by decide) (by decide) (by decide) [5, 6, 0, 1, 2, 3, 4] (by decide) rfl rfl (Nat.le_of_ble_eq_true rfl) dX0_read_10 ⟨Nat.zero_le _, Nat.zero_le _⟩ rfl rfl ?_
  refine x_top (w := .int (nI k)) (by rw [hcnt]) ?_
  refine x_istore E [(5, .int (nI k)), (4, .int (nI p0)), (0, .ref a0), (1, .int (nI p0)), (2, .int (nI q0)), (3, .ref t0)] dX0_read_13 (by decide) rfl ?_
  refine x_iconst E (v := nI 0) dX0_read_15 (by decide) ?_
  refine x_istore E [(6, .int (nI 0)), (5, .int (nI k)), (4, .int (nI p0)), (0, .ref a0), (1, .int (nI p0)), (2, .int (nI q0)), (3, .ref t0)] dX0_read_16 (by decide) rfl ?_
  refine x_lv [0, 1, 2, 3, 4, 5, 6] rfl ?_
  exact loop k 0 p0 c S Ln Z K (by omega) hp hg rfl rfl rfl rfl rfl
end
section
abbrev rmX3_badAt : Room := { frames := 0, cells := 0, slots := 0, locals := 0 }
abbrev rmX3_feed : Room := { frames := 0, cells := 0, slots := 0, locals := 0 }
abbrev rmX3_fileOf : Room := { frames := 0, cells := 0, slots := 0, locals := 0 }
abbrev rmX3_isFile : Room := { frames := 0, cells := 0, slots := 0, locals := 0 }
abbrev rmX3_repaired : Room := { frames := 0, cells := 0, slots := 0, locals := 0 }
abbrev rmX3_row : Room := { frames := 3, cells := 0, slots := 0, locals := 62 }
theorem fl_X3_fileOf_12 : Cond.fieldLink RX3 12 "MirrorLog" "file0" "LMirrorLog$LogFile;" ∈ wsX3_fileOf := by decide +kernel
theorem ui_X3_fileOf_X3 : ∀ w ∈ wsX30, w ∈ wsX3_fileOf := by decide +kernel
theorem fl_X3_fileOf_16 : Cond.fieldLink RX3 16 "MirrorLog" "file1" "LMirrorLog$LogFile;" ∈ wsX3_fileOf := by decide +kernel
theorem fl_X3_repaired_92 : Cond.fieldLink RX3 92 "MirrorLog" "repairedGroups" "I" ∈ wsX3_repaired := by decide +kernel
theorem ui_X3_repaired_X3 : ∀ w ∈ wsX30, w ∈ wsX3_repaired := by decide +kernel
theorem fl_X3_badAt_30 : Cond.fieldLink RX3 30 "MirrorLog" "badPlace" "I" ∈ wsX3_badAt := by decide +kernel
theorem ui_X3_badAt_X3 : ∀ w ∈ wsX30, w ∈ wsX3_badAt := by decide +kernel
theorem fl_X3_feed_34 : Cond.fieldLink RX3 34 "MirrorLog" "shut" "Z" ∈ wsX3_feed := by decide +kernel
theorem ui_X3_feed_X3 : ∀ w ∈ wsX30, w ∈ wsX3_feed := by decide +kernel
theorem fl_X3_feed_38 : Cond.fieldLink RX3 38 "MirrorLog" "fedCount" "I" ∈ wsX3_feed := by decide +kernel
theorem fl_X3_feed_26 : Cond.fieldLink RX3 26 "MirrorLog" "fed" "[B" ∈ wsX3_feed := by decide +kernel
theorem fl_X3_row_34 : Cond.fieldLink RX3 34 "MirrorLog" "shut" "Z" ∈ wsX3_row := by decide +kernel
theorem ui_X3_row_X3 : ∀ w ∈ wsX30, w ∈ wsX3_row := by decide +kernel
theorem fl_X3_row_38 : Cond.fieldLink RX3 38 "MirrorLog" "fedCount" "I" ∈ wsX3_row := by decide +kernel
theorem cn_X3_row_41 : Jvm.Cond.constant RX3 41 (1000000000) ∈ wsX3_row := by decide +kernel
theorem fl_X3_row_22 : Cond.fieldLink RX3 22 "MirrorLog" "table" "LMirrorLog$RowTable;" ∈ wsX3_row := by decide +kernel
theorem fl_X3_row_49 : Cond.fieldLink RX3 49 "MirrorLog" "known" "I" ∈ wsX3_row := by decide +kernel
theorem fl_X3_row_26 : Cond.fieldLink RX3 26 "MirrorLog" "fed" "[B" ∈ wsX3_row := by decide +kernel
/-- both files have the same bytes -/
def sameB (n : Nat) (g : Nat → UInt8) (n2 : Nat) (g2 : Nat → UInt8) : Bool := if n = n2 then agr n g n2 g2 0 (n - 0) else false
/-- the number behind the last row of the groups of months up to mo -/
def eog (S : Nat → Nat) (Z : Nat → Bool) (mo : Int32) : Nat → Nat → Nat → Nat
  | 0, _, e => e
  | k + 1, r, e => if mo < nI (S r / 2592000) then e else eog S Z mo k (r + 1) (if Z r = true then r + 1 else e)
theorem eog_s (S : Nat → Nat) (Z : Nat → Bool) (mo : Int32) (k r e : Nat) : eog S Z mo (k + 1) r e = if mo < nI (S r / 2592000) then e else eog S Z mo k (r + 1) (if Z r = true then r + 1 else e) := rfl
/-- how many of k rows from r on are of month mo -/
def rwC (S : Nat → Nat) (mo : Int32) : Nat → Nat → Nat → Nat
  | 0, _, a => a
  | k + 1, r, a => rwC S mo k (r + 1) (if nI (S r / 2592000) = mo then a + 1 else a)
theorem rwC_s (S : Nat → Nat) (mo : Int32) (k r a : Nat) : rwC S mo (k + 1) r a = rwC S mo k (r + 1) (if nI (S r / 2592000) = mo then a + 1 else a) := rfl
theorem u8_bf (g : Nat → UInt8) (k : Nat) : u8 (bf g k) = g k := by
  show u8 (g k).toInt8.toInt32 = g k
  have h : ∀ n : Fin 256, u8 (UInt8.ofNat n.val).toInt8.toInt32 = UInt8.ofNat n.val := by decide +kernel
  have h2 := h ⟨(g k).toNat, (g k).toNat_lt⟩
  simpa using h2
set_option maxRecDepth 100000 in
set_option maxHeartbeats 4000000 in
theorem c_X3_isFile (l : Launch) (D : va_G) (cB cI cZ cJ : ClassId) (x : Int32)  : Ct l D vwCl (tyl cB cI cZ cJ) yX3_isFile wsX3_isFile rmX3_isFile [.int x] [] (some (.int (if decide (x = 0 ∨ x = 1) = true then 1 else 0))) [] := by
  refine x_start (cc := cX3_isFile) (maxL := 1) (ret := (some .boolean)) (by decide) rfl (Nat.le_of_ble_eq_true rfl) ?_
  intro xp xe xs xm xb xt xc xA E hr hlocks hnm
  obtain ⟨-, -, -, hown, hts, hK, hA⟩ := id E
  refine x_lve (lv' := [(0, .int x)]) rfl ?_
  refine x_iload_n E 0 dX3_isFile_0 rfl ?_
  refine x_if_eq E 9 dX3_isFile_1 (by decide) (fun h1 => ?_) (fun h1 => ?_)
  · refine x_iconst E (v := nI 1) dX3_isFile_9 (by decide) ?_
    refine x_goto E 14 dX3_isFile_10 (by decide) ?_
    exact x_zret E hr hlocks dX3_isFile_14 rfl ⟨q_t' (decide_eq_true (by first | exact Or.inl h1 | exact Or.inr h6)), rfl⟩
  · refine x_iload_n E 0 dX3_isFile_4 rfl ?_
    refine x_iconst E (v := nI 1) dX3_isFile_5 (by decide) ?_
    refine x_icmp_ne E 13 dX3_isFile_6 (by decide) (fun h6 => ?_) (fun h6 => ?_)
    · refine x_iconst E (v := nI 0) dX3_isFile_13 (by decide) ?_
      exact x_zret E hr hlocks dX3_isFile_14 rfl ⟨q_f' (decide_eq_false (fun q => q.elim h1 h6)), rfl⟩
    · refine x_iconst E (v := nI 1) dX3_isFile_9 (by decide) ?_
      refine x_goto E 14 dX3_isFile_10 (by decide) ?_
      exact x_zret E hr hlocks dX3_isFile_14 rfl ⟨q_t' (decide_eq_true (by first | exact Or.inl h1 | exact Or.inr h6)), rfl⟩
set_option maxRecDepth 100000 in
set_option maxHeartbeats 4000000 in
theorem c_X3_isFile_0 (l : Launch) (D : va_G) (cB cI cZ cJ : ClassId)   : Ct l D vwCl (tyl cB cI cZ cJ) yX3_isFile wsX3_isFile rmX3_isFile [.int (nI 0)] [] (some (.int (nI 1))) [] := by
  refine x_start (cc := cX3_isFile) (maxL := 1) (ret := (some .boolean)) (by decide) rfl (Nat.le_of_ble_eq_true rfl) ?_
  intro xp xe xs xm xb xt xc xA E hr hlocks hnm
  obtain ⟨-, -, -, hown, hts, hK, hA⟩ := id E
  refine x_lve (lv' := [(0, .int (nI 0))]) rfl ?_
  refine x_iload_n E 0 dX3_isFile_0 rfl ?_
  refine x_nif_eq E 9 dX3_isFile_1 (by decide) (by decide) (fun h1 => ?_) (fun h => absurd h (fun h => h rfl))
  refine x_iconst E (v := nI 1) dX3_isFile_9 (by decide) ?_
  refine x_goto E 14 dX3_isFile_10 (by decide) ?_
  exact x_zret E hr hlocks dX3_isFile_14 rfl ⟨rfl, rfl⟩
set_option maxRecDepth 100000 in
set_option maxHeartbeats 4000000 in
theorem c_X3_isFile_1 (l : Launch) (D : va_G) (cB cI cZ cJ : ClassId)   : Ct l D vwCl (tyl cB cI cZ cJ) yX3_isFile wsX3_isFile rmX3_isFile [.int (nI 1)] [] (some (.int (nI 1))) [] := by
  refine x_start (cc := cX3_isFile) (maxL := 1) (ret := (some .boolean)) (by decide) rfl (Nat.le_of_ble_eq_true rfl) ?_
  intro xp xe xs xm xb xt xc xA E hr hlocks hnm
  obtain ⟨-, -, -, hown, hts, hK, hA⟩ := id E
  refine x_lve (lv' := [(0, .int (nI 1))]) rfl ?_
  refine x_iload_n E 0 dX3_isFile_0 rfl ?_
  refine x_nif_eq E 9 dX3_isFile_1 (by decide) (by decide) (fun h => False.elim (by omega)) (fun h1 => ?_)
  refine x_iload_n E 0 dX3_isFile_4 rfl ?_
  refine x_iconst E (v := nI 1) dX3_isFile_5 (by decide) ?_
  refine x_ncmp_ne E 13 dX3_isFile_6 (by decide) (by decide) (by decide) (fun h => absurd h (fun h => h rfl)) (fun h6 => ?_)
  refine x_iconst E (v := nI 1) dX3_isFile_9 (by decide) ?_
  refine x_goto E 14 dX3_isFile_10 (by decide) ?_
  exact x_zret E hr hlocks dX3_isFile_14 rfl ⟨rfl, rfl⟩
set_option maxRecDepth 100000 in
set_option maxHeartbeats 4000000 in
theorem c_X3_fileOf_0 (l : Launch) (D : va_G) (cB cI cZ cJ : ClassId) (m0 : Nat) (m1 : Nat) (a0 : Nat) (a1 : Nat) (b0 : Nat) (b1 : Nat) (t0 : Nat) (t1 : Nat) (t2 : Nat) (t3 : Nat) (t4 : Nat) (fc : Nat) (mv : Nat) (kn : Nat) (sh : Bool) (rp : Nat) (bad : Int32) (F : Nat → UInt8) (n : Nat) (g : Nat → UInt8) (n2 : Nat) (g2 : Nat → UInt8) (c : Nat) (S : Nat → Nat) (Ln : Nat → Nat) (Z : Nat → Bool) (K : Nat → UInt8)  : Ct l D vwCl (tyl cB cI cZ cJ) yX3_fileOf wsX3_fileOf rmX3_fileOf [.ref m0, .int (nI 0)] [(m0, .inr (3, [.ref a0, .ref b0, .ref t0, .ref m1, .int (nI fc), .int (nI mv), .int (nI kn), .int (if sh = true then 1 else 0), .int (nI rp), .int bad])), (m1, .inl (cB, 64, .inl (bf F))), (a0, .inr (1, [.ref a1, .int (nI n)])), (a1, .inl (cB, 8192, .inl (bf g))), (b0, .inr (1, [.ref b1, .int (nI n2)])), (b1, .inl (cB, 8192, .inl (bf g2))), (t0, .inr (2, [.ref t1, .ref t2, .ref t3, .ref t4, .int (nI c)])), (t1, .inl (cI, 600, .inl (nf S))), (t2, .inl (cI, 600, .inl (nf Ln))), (t3, .inl (cZ, 600, .inl (zf Z))), (t4, .inl (cB, 38400, .inl (bf K)))] (some (.ref a0)) [(m0, .inr (3, [.ref a0, .ref b0, .ref t0, .ref m1, .int (nI fc), .int (nI mv), .int (nI kn), .int (if sh = true then 1 else 0), .int (nI rp), .int bad])), (m1, .inl (cB, 64, .inl (bf F))), (a0, .inr (1, [.ref a1, .int (nI n)])), (a1, .inl (cB, 8192, .inl (bf g))), (b0, .inr (1, [.ref b1, .int (nI n2)])), (b1, .inl (cB, 8192, .inl (bf g2))), (t0, .inr (2, [.ref t1, .ref t2, .ref t3, .ref t4, .int (nI c)])), (t1, .inl (cI, 600, .inl (nf S))), (t2, .inl (cI, 600, .inl (nf Ln))), (t3, .inl (cZ, 600, .inl (zf Z))), (t4, .inl (cB, 38400, .inl (bf K)))] := by
  refine x_start (cc := cX3_fileOf) (maxL := 2) (ret := (some (.object "MirrorLog$LogFile"))) (by decide) rfl (Nat.le_of_ble_eq_true rfl) ?_
  intro xp xe xs xm xb xt xc xA E hr hlocks hnm
  obtain ⟨-, -, -, hown, hts, hK, hA⟩ := id E
  refine x_lve (lv' := [(0, .ref m0), (1, .int (nI 0))]) rfl ?_
  refine x_iload_n E 1 dX3_fileOf_0 rfl ?_
  refine x_nif_ne E 11 dX3_fileOf_1 (by decide) (by decide) (fun h => absurd h (fun h => h rfl)) (fun h1 => ?_)
  refine x_aload_n E 0 dX3_fileOf_4 rfl ?_
  refine x_get E 0 0 dX3_fileOf_5 ui_X3_fileOf_X3 rfl rfl (by decide) fl_X3_fileOf_12 rfl rfl ?_
  refine x_goto E 15 dX3_fileOf_8 (by decide) ?_
  exact x_aret E hr hlocks dX3_fileOf_15 (Or.inl ⟨_, rfl⟩) ⟨rfl, rfl⟩
set_option maxRecDepth 100000 in
set_option maxHeartbeats 4000000 in
theorem c_X3_fileOf_1 (l : Launch) (D : va_G) (cB cI cZ cJ : ClassId) (m0 : Nat) (m1 : Nat) (a0 : Nat) (a1 : Nat) (b0 : Nat) (b1 : Nat) (t0 : Nat) (t1 : Nat) (t2 : Nat) (t3 : Nat) (t4 : Nat) (fc : Nat) (mv : Nat) (kn : Nat) (sh : Bool) (rp : Nat) (bad : Int32) (F : Nat → UInt8) (n : Nat) (g : Nat → UInt8) (n2 : Nat) (g2 : Nat → UInt8) (c : Nat) (S : Nat → Nat) (Ln : Nat → Nat) (Z : Nat → Bool) (K : Nat → UInt8)  : Ct l D vwCl (tyl cB cI cZ cJ) yX3_fileOf wsX3_fileOf rmX3_fileOf [.ref m0, .int (nI 1)] [(m0, .inr (3, [.ref a0, .ref b0, .ref t0, .ref m1, .int (nI fc), .int (nI mv), .int (nI kn), .int (if sh = true then 1 else 0), .int (nI rp), .int bad])), (m1, .inl (cB, 64, .inl (bf F))), (a0, .inr (1, [.ref a1, .int (nI n)])), (a1, .inl (cB, 8192, .inl (bf g))), (b0, .inr (1, [.ref b1, .int (nI n2)])), (b1, .inl (cB, 8192, .inl (bf g2))), (t0, .inr (2, [.ref t1, .ref t2, .ref t3, .ref t4, .int (nI c)])), (t1, .inl (cI, 600, .inl (nf S))), (t2, .inl (cI, 600, .inl (nf Ln))), (t3, .inl (cZ, 600, .inl (zf Z))), (t4, .inl (cB, 38400, .inl (bf K)))] (some (.ref b0)) [(m0, .inr (3, [.ref a0, .ref b0, .ref t0, .ref m1, .int (nI fc), .int (nI mv), .int (nI kn), .int (if sh = true then 1 else 0), .int (nI rp), .int bad])), (m1, .inl (cB, 64, .inl (bf F))), (a0, .inr (1, [.ref a1, .int (nI n)])), (a1, .inl (cB, 8192, .inl (bf g))), (b0, .inr (1, [.ref b1, .int (nI n2)])), (b1, .inl (cB, 8192, .inl (bf g2))), (t0, .inr (2, [.ref t1, .ref t2, .ref t3, .ref t4, .int (nI c)])), (t1, .inl (cI, 600, .inl (nf S))), (t2, .inl (cI, 600, .inl (nf Ln))), (t3, .inl (cZ, 600, .inl (zf Z))), (t4, .inl (cB, 38400, .inl (bf K)))] := by
  refine x_start (cc := cX3_fileOf) (maxL := 2) (ret := (some (.object "MirrorLog$LogFile"))) (by decide) rfl (Nat.le_of_ble_eq_true rfl) ?_
  intro xp xe xs xm xb xt xc xA E hr hlocks hnm
  obtain ⟨-, -, -, hown, hts, hK, hA⟩ := id E
  refine x_lve (lv' := [(0, .ref m0), (1, .int (nI 1))]) rfl ?_
  refine x_iload_n E 1 dX3_fileOf_0 rfl ?_
  refine x_nif_ne E 11 dX3_fileOf_1 (by decide) (by decide) (fun h1 => ?_) (fun h => False.elim (by omega))
  refine x_aload_n E 0 dX3_fileOf_11 rfl ?_
  refine x_get E 0 1 dX3_fileOf_12 ui_X3_fileOf_X3 rfl rfl (by decide) fl_X3_fileOf_16 rfl rfl ?_
  exact x_aret E hr hlocks dX3_fileOf_15 (Or.inl ⟨_, rfl⟩) ⟨rfl, rfl⟩
set_option maxRecDepth 100000 in
set_option maxHeartbeats 4000000 in
theorem c_X3_repaired (l : Launch) (D : va_G) (cB cI cZ cJ : ClassId) (m0 : Nat) (m1 : Nat) (a0 : Nat) (a1 : Nat) (b0 : Nat) (b1 : Nat) (t0 : Nat) (t1 : Nat) (t2 : Nat) (t3 : Nat) (t4 : Nat) (fc : Nat) (mv : Nat) (kn : Nat) (sh : Bool) (rp : Nat) (bad : Int32) (F : Nat → UInt8) (n : Nat) (g : Nat → UInt8) (n2 : Nat) (g2 : Nat → UInt8) (c : Nat) (S : Nat → Nat) (Ln : Nat → Nat) (Z : Nat → Bool) (K : Nat → UInt8)  : Ct l D vwCl (tyl cB cI cZ cJ) yX3_repaired wsX3_repaired rmX3_repaired [.ref m0] [(m0, .inr (3, [.ref a0, .ref b0, .ref t0, .ref m1, .int (nI fc), .int (nI mv), .int (nI kn), .int (if sh = true then 1 else 0), .int (nI rp), .int bad])), (m1, .inl (cB, 64, .inl (bf F))), (a0, .inr (1, [.ref a1, .int (nI n)])), (a1, .inl (cB, 8192, .inl (bf g))), (b0, .inr (1, [.ref b1, .int (nI n2)])), (b1, .inl (cB, 8192, .inl (bf g2))), (t0, .inr (2, [.ref t1, .ref t2, .ref t3, .ref t4, .int (nI c)])), (t1, .inl (cI, 600, .inl (nf S))), (t2, .inl (cI, 600, .inl (nf Ln))), (t3, .inl (cZ, 600, .inl (zf Z))), (t4, .inl (cB, 38400, .inl (bf K)))] (some (.int (nI rp))) [(m0, .inr (3, [.ref a0, .ref b0, .ref t0, .ref m1, .int (nI fc), .int (nI mv), .int (nI kn), .int (if sh = true then 1 else 0), .int (nI rp), .int bad])), (m1, .inl (cB, 64, .inl (bf F))), (a0, .inr (1, [.ref a1, .int (nI n)])), (a1, .inl (cB, 8192, .inl (bf g))), (b0, .inr (1, [.ref b1, .int (nI n2)])), (b1, .inl (cB, 8192, .inl (bf g2))), (t0, .inr (2, [.ref t1, .ref t2, .ref t3, .ref t4, .int (nI c)])), (t1, .inl (cI, 600, .inl (nf S))), (t2, .inl (cI, 600, .inl (nf Ln))), (t3, .inl (cZ, 600, .inl (zf Z))), (t4, .inl (cB, 38400, .inl (bf K)))] := by
  refine x_start (cc := cX3_repaired) (maxL := 1) (ret := (some .int)) (by decide) rfl (Nat.le_of_ble_eq_true rfl) ?_
  intro xp xe xs xm xb xt xc xA E hr hlocks hnm
  obtain ⟨-, -, -, hown, hts, hK, hA⟩ := id E
  refine x_lve (lv' := [(0, .ref m0)]) rfl ?_
  refine x_aload_n E 0 dX3_repaired_0 rfl ?_
  refine x_get E 0 8 dX3_repaired_1 ui_X3_repaired_X3 rfl rfl (by decide) fl_X3_repaired_92 rfl rfl ?_
  exact x_iret E hr hlocks dX3_repaired_4 ⟨rfl, rfl⟩
set_option maxRecDepth 100000 in
set_option maxHeartbeats 4000000 in
theorem c_X3_badAt (l : Launch) (D : va_G) (cB cI cZ cJ : ClassId) (m0 : Nat) (m1 : Nat) (a0 : Nat) (a1 : Nat) (b0 : Nat) (b1 : Nat) (t0 : Nat) (t1 : Nat) (t2 : Nat) (t3 : Nat) (t4 : Nat) (fc : Nat) (mv : Nat) (kn : Nat) (sh : Bool) (rp : Nat) (bad : Int32) (F : Nat → UInt8) (n : Nat) (g : Nat → UInt8) (n2 : Nat) (g2 : Nat → UInt8) (c : Nat) (S : Nat → Nat) (Ln : Nat → Nat) (Z : Nat → Bool) (K : Nat → UInt8)  : Ct l D vwCl (tyl cB cI cZ cJ) yX3_badAt wsX3_badAt rmX3_badAt [.ref m0] [(m0, .inr (3, [.ref a0, .ref b0, .ref t0, .ref m1, .int (nI fc), .int (nI mv), .int (nI kn), .int (if sh = true then 1 else 0), .int (nI rp), .int bad])), (m1, .inl (cB, 64, .inl (bf F))), (a0, .inr (1, [.ref a1, .int (nI n)])), (a1, .inl (cB, 8192, .inl (bf g))), (b0, .inr (1, [.ref b1, .int (nI n2)])), (b1, .inl (cB, 8192, .inl (bf g2))), (t0, .inr (2, [.ref t1, .ref t2, .ref t3, .ref t4, .int (nI c)])), (t1, .inl (cI, 600, .inl (nf S))), (t2, .inl (cI, 600, .inl (nf Ln))), (t3, .inl (cZ, 600, .inl (zf Z))), (t4, .inl (cB, 38400, .inl (bf K)))] (some (.int bad)) [(m0, .inr (3, [.ref a0, .ref b0, .ref t0, .ref m1, .int (nI fc), .int (nI mv), .int (nI kn), .int (if sh = true then 1 else 0), .int (nI rp), .int bad])), (m1, .inl (cB, 64, .inl (bf F))), (a0, .inr (1, [.ref a1, .int (nI n)])), (a1, .inl (cB, 8192, .inl (bf g))), (b0, .inr (1, [.ref b1, .int (nI n2)])), (b1, .inl (cB, 8192, .inl (bf g2))), (t0, .inr (2, [.ref t1, .ref t2, .ref t3, .ref t4, .int (nI c)])), (t1, .inl (cI, 600, .inl (nf S))), (t2, .inl (cI, 600, .inl (nf Ln))), (t3, .inl (cZ, 600, .inl (zf Z))), (t4, .inl (cB, 38400, .inl (bf K)))] := by
  refine x_start (cc := cX3_badAt) (maxL := 1) (ret := (some .int)) (by decide) rfl (Nat.le_of_ble_eq_true rfl) ?_
  intro xp xe xs xm xb xt xc xA E hr hlocks hnm
  obtain ⟨-, -, -, hown, hts, hK, hA⟩ := id E
  refine x_lve (lv' := [(0, .ref m0)]) rfl ?_
  refine x_aload_n E 0 dX3_badAt_0 rfl ?_
  refine x_get E 0 9 dX3_badAt_1 ui_X3_badAt_X3 rfl rfl (by decide) fl_X3_badAt_30 rfl rfl ?_
  exact x_iret E hr hlocks dX3_badAt_4 ⟨rfl, rfl⟩
set_option maxRecDepth 100000 in
set_option maxHeartbeats 4000000 in
theorem c_X3_feed_no (l : Launch) (D : va_G) (cB cI cZ cJ : ClassId) (m0 : Nat) (m1 : Nat) (a0 : Nat) (a1 : Nat) (b0 : Nat) (b1 : Nat) (t0 : Nat) (t1 : Nat) (t2 : Nat) (t3 : Nat) (t4 : Nat) (fc : Nat) (mv : Nat) (kn : Nat) (sh : Bool) (rp : Nat) (bad : Int32) (F : Nat → UInt8) (n : Nat) (g : Nat → UInt8) (n2 : Nat) (g2 : Nat → UInt8) (c : Nat) (S : Nat → Nat) (Ln : Nat → Nat) (Z : Nat → Bool) (K : Nat → UInt8) (b : Int32) (hfc : fc ≤ 64) (hno : sh = true ∨ b < 0 ∨ nI 255 < b ∨ 64 ≤ fc) : Ct l D vwCl (tyl cB cI cZ cJ) yX3_feed wsX3_feed rmX3_feed [.ref m0, .int b] [(m0, .inr (3, [.ref a0, .ref b0, .ref t0, .ref m1, .int (nI fc), .int (nI mv), .int (nI kn), .int (if sh = true then 1 else 0), .int (nI rp), .int bad])), (m1, .inl (cB, 64, .inl (bf F))), (a0, .inr (1, [.ref a1, .int (nI n)])), (a1, .inl (cB, 8192, .inl (bf g))), (b0, .inr (1, [.ref b1, .int (nI n2)])), (b1, .inl (cB, 8192, .inl (bf g2))), (t0, .inr (2, [.ref t1, .ref t2, .ref t3, .ref t4, .int (nI c)])), (t1, .inl (cI, 600, .inl (nf S))), (t2, .inl (cI, 600, .inl (nf Ln))), (t3, .inl (cZ, 600, .inl (zf Z))), (t4, .inl (cB, 38400, .inl (bf K)))] (some (.int (nI 0))) [(m0, .inr (3, [.ref a0, .ref b0, .ref t0, .ref m1, .int (nI fc), .int (nI mv), .int (nI kn), .int (if sh = true then 1 else 0), .int (nI rp), .int bad])), (m1, .inl (cB, 64, .inl (bf F))), (a0, .inr (1, [.ref a1, .int (nI n)])), (a1, .inl (cB, 8192, .inl (bf g))), (b0, .inr (1, [.ref b1, .int (nI n2)])), (b1, .inl (cB, 8192, .inl (bf g2))), (t0, .inr (2, [.ref t1, .ref t2, .ref t3, .ref t4, .int (nI c)])), (t1, .inl (cI, 600, .inl (nf S))), (t2, .inl (cI, 600, .inl (nf Ln))), (t3, .inl (cZ, 600, .inl (zf Z))), (t4, .inl (cB, 38400, .inl (bf K)))] := by
  refine x_start (cc := cX3_feed) (maxL := 2) (ret := (some .boolean)) (by decide) rfl (Nat.le_of_ble_eq_true rfl) ?_
  intro xp xe xs xm xb xt xc xA E hr hlocks hnm
  obtain ⟨-, -, -, hown, hts, hK, hA⟩ := id E
  refine x_lve (lv' := [(0, .ref m0), (1, .int b)]) rfl ?_
  refine x_aload_n E 0 dX3_feed_0 rfl ?_
  refine x_get E 0 7 dX3_feed_1 ui_X3_feed_X3 rfl rfl (by decide) fl_X3_feed_34 rfl rfl ?_
  refine x_qif_ne E 37 dX3_feed_4 (by decide) (fun h4 => ?_) (fun h4 => ?_)
  · refine x_iconst E (v := nI 0) dX3_feed_37 (by decide) ?_
    exact x_zret E hr hlocks dX3_feed_38 rfl ⟨rfl, rfl⟩
  · refine x_iload_n E 1 dX3_feed_7 rfl ?_
    refine x_if_lt E 37 dX3_feed_8 (by decide) (fun h8 => ?_) (fun h8 => ?_)
    · refine x_iconst E (v := nI 0) dX3_feed_37 (by decide) ?_
      exact x_zret E hr hlocks dX3_feed_38 rfl ⟨rfl, rfl⟩
    · refine x_iload_n E 1 dX3_feed_11 rfl ?_
      refine x_sipush E (v := nI 255) dX3_feed_12 (by decide) ?_
      refine x_icmp_gt E 37 dX3_feed_15 (by decide) (fun h15 => ?_) (fun h15 => ?_)
      · refine x_iconst E (v := nI 0) dX3_feed_37 (by decide) ?_
        exact x_zret E hr hlocks dX3_feed_38 rfl ⟨rfl, rfl⟩
      · refine x_aload_n E 0 dX3_feed_18 rfl ?_
        refine x_get E 0 4 dX3_feed_19 ui_X3_feed_X3 rfl rfl (by decide) fl_X3_feed_38 rfl rfl ?_
        refine x_nif_lt E 37 dX3_feed_22 (by decide) (by omega) (fun h => absurd h (fun h => Nat.not_lt_zero _ h)) (fun h22 => ?_)
        refine x_aload_n E 0 dX3_feed_25 rfl ?_
        refine x_get E 0 4 dX3_feed_26 ui_X3_feed_X3 rfl rfl (by decide) fl_X3_feed_38 rfl rfl ?_
        refine x_aload_n E 0 dX3_feed_29 rfl ?_
        refine x_get E 0 3 dX3_feed_30 ui_X3_feed_X3 rfl rfl (by decide) fl_X3_feed_26 rfl rfl ?_
        refine x_alen E 1 0 64 dX3_feed_33 rfl rfl rfl ?_
        refine x_ncmp_lt E 39 dX3_feed_34 (by decide) (by omega) (by decide) (fun h => False.elim (by rcases hno with q | q | q | q; exact absurd (h4.symm.trans q) (by decide); exact h8 q; exact h15 q; omega)) (fun h34 => ?_)
        refine x_iconst E (v := nI 0) dX3_feed_37 (by decide) ?_
        exact x_zret E hr hlocks dX3_feed_38 rfl ⟨rfl, rfl⟩
set_option maxRecDepth 100000 in
set_option maxHeartbeats 4000000 in
theorem c_X3_feed_ok (l : Launch) (D : va_G) (cB cI cZ cJ : ClassId) (m0 : Nat) (m1 : Nat) (a0 : Nat) (a1 : Nat) (b0 : Nat) (b1 : Nat) (t0 : Nat) (t1 : Nat) (t2 : Nat) (t3 : Nat) (t4 : Nat) (fc : Nat) (mv : Nat) (kn : Nat) (sh : Bool) (rp : Nat) (bad : Int32) (F : Nat → UInt8) (n : Nat) (g : Nat → UInt8) (n2 : Nat) (g2 : Nat → UInt8) (c : Nat) (S : Nat → Nat) (Ln : Nat → Nat) (Z : Nat → Bool) (K : Nat → UInt8) (b : Nat) (hb : b ≤ 255) (hfc : fc < 64) : Ct l D vwCl (tyl cB cI cZ cJ) yX3_feed wsX3_feed rmX3_feed [.ref m0, .int (nI b)] [(m0, .inr (3, [.ref a0, .ref b0, .ref t0, .ref m1, .int (nI fc), .int (nI mv), .int (nI kn), .int (if false = true then 1 else 0), .int (nI rp), .int bad])), (m1, .inl (cB, 64, .inl (bf F))), (a0, .inr (1, [.ref a1, .int (nI n)])), (a1, .inl (cB, 8192, .inl (bf g))), (b0, .inr (1, [.ref b1, .int (nI n2)])), (b1, .inl (cB, 8192, .inl (bf g2))), (t0, .inr (2, [.ref t1, .ref t2, .ref t3, .ref t4, .int (nI c)])), (t1, .inl (cI, 600, .inl (nf S))), (t2, .inl (cI, 600, .inl (nf Ln))), (t3, .inl (cZ, 600, .inl (zf Z))), (t4, .inl (cB, 38400, .inl (bf K)))] (some (.int (nI 1))) [(m0, .inr (3, [.ref a0, .ref b0, .ref t0, .ref m1, .int (nI (fc + 1)), .int (nI mv), .int (nI kn), .int (if false = true then 1 else 0), .int (nI rp), .int bad])), (m1, .inl (cB, 64, .inl (bf (va_up F fc (u8 (nI b)))))), (a0, .inr (1, [.ref a1, .int (nI n)])), (a1, .inl (cB, 8192, .inl (bf g))), (b0, .inr (1, [.ref b1, .int (nI n2)])), (b1, .inl (cB, 8192, .inl (bf g2))), (t0, .inr (2, [.ref t1, .ref t2, .ref t3, .ref t4, .int (nI c)])), (t1, .inl (cI, 600, .inl (nf S))), (t2, .inl (cI, 600, .inl (nf Ln))), (t3, .inl (cZ, 600, .inl (zf Z))), (t4, .inl (cB, 38400, .inl (bf K)))] := by
  refine x_start (cc := cX3_feed) (maxL := 2) (ret := (some .boolean)) (by decide) rfl (Nat.le_of_ble_eq_true rfl) ?_
  intro xp xe xs xm xb xt xc xA E hr hlocks hnm
  obtain ⟨-, -, -, hown, hts, hK, hA⟩ := id E
  refine x_lve (lv' := [(0, .ref m0), (1, .int (nI b))]) rfl ?_
  refine x_aload_n E 0 dX3_feed_0 rfl ?_
  refine x_get E 0 7 dX3_feed_1 ui_X3_feed_X3 rfl rfl (by decide) fl_X3_feed_34 rfl rfl ?_
  refine x_qif_ne E 37 dX3_feed_4 (by decide) (fun h => False.elim (by cases h)) (fun h4 => ?_)
  refine x_iload_n E 1 dX3_feed_7 rfl ?_
  refine x_nif_lt E 37 dX3_feed_8 (by decide) (by omega) (fun h => absurd h (fun h => Nat.not_lt_zero _ h)) (fun h8 => ?_)
  refine x_iload_n E 1 dX3_feed_11 rfl ?_
  refine x_sipush E (v := nI 255) dX3_feed_12 (by decide) ?_
  refine x_ncmp_gt E 37 dX3_feed_15 (by decide) (by omega) (by decide) (fun h => False.elim (by omega)) (fun h15 => ?_)
  refine x_aload_n E 0 dX3_feed_18 rfl ?_
  refine x_get E 0 4 dX3_feed_19 ui_X3_feed_X3 rfl rfl (by decide) fl_X3_feed_38 rfl rfl ?_
  refine x_nif_lt E 37 dX3_feed_22 (by decide) (by omega) (fun h => absurd h (fun h => Nat.not_lt_zero _ h)) (fun h22 => ?_)
  refine x_aload_n E 0 dX3_feed_25 rfl ?_
  refine x_get E 0 4 dX3_feed_26 ui_X3_feed_X3 rfl rfl (by decide) fl_X3_feed_38 rfl rfl ?_
  refine x_aload_n E 0 dX3_feed_29 rfl ?_
  refine x_get E 0 3 dX3_feed_30 ui_X3_feed_X3 rfl rfl (by decide) fl_X3_feed_26 rfl rfl ?_
  refine x_alen E 1 0 64 dX3_feed_33 rfl rfl rfl ?_
  refine x_ncmp_lt E 39 dX3_feed_34 (by decide) (by omega) (by decide) (fun h34 => ?_) (fun h => False.elim (by omega))
  refine x_aload_n E 0 dX3_feed_39 rfl ?_
  refine x_get E 0 3 dX3_feed_40 ui_X3_feed_X3 rfl rfl (by decide) fl_X3_feed_26 rfl rfl ?_
  refine x_aload_n E 0 dX3_feed_43 rfl ?_
  refine x_get E 0 4 dX3_feed_44 ui_X3_feed_X3 rfl rfl (by decide) fl_X3_feed_38 rfl rfl ?_
  refine x_iload_n E 1 dX3_feed_47 rfl ?_
  refine x_i2b E dX3_feed_48 ?_
  refine x_bast E 1 0 [(m0, .inr (3, [.ref a0, .ref b0, .ref t0, .ref m1, .int (nI fc), .int (nI mv), .int (nI kn), .int (if false = true then 1 else 0), .int (nI rp), .int bad])), (m1, .inl (cB, 64, .inl (bf (va_up F fc (u8 (nI b)))))), (a0, .inr (1, [.ref a1, .int (nI n)])), (a1, .inl (cB, 8192, .inl (bf g))), (b0, .inr (1, [.ref b1, .int (nI n2)])), (b1, .inl (cB, 8192, .inl (bf g2))), (t0, .inr (2, [.ref t1, .ref t2, .ref t3, .ref t4, .int (nI c)])), (t1, .inl (cI, 600, .inl (nf S))), (t2, .inl (cI, 600, .inl (nf Ln))), (t3, .inl (cZ, 600, .inl (zf Z))), (t4, .inl (cB, 38400, .inl (bf K)))] dX3_feed_49 rfl rfl (by omega) (by decide) (u8_b8 _) rfl ?_
  refine x_aload_n E 0 dX3_feed_50 rfl ?_
  refine x_dup E dX3_feed_51 rfl ?_
  refine x_get E 0 4 dX3_feed_52 ui_X3_feed_X3 rfl rfl (by decide) fl_X3_feed_38 rfl rfl ?_
  refine x_iconst E (v := nI 1) dX3_feed_55 (by decide) ?_
  refine x_niadd E dX3_feed_56 ?_
  refine x_put E 0 4 [(m0, .inr (3, [.ref a0, .ref b0, .ref t0, .ref m1, .int (nI (fc + 1)), .int (nI mv), .int (nI kn), .int (if false = true then 1 else 0), .int (nI rp), .int bad])), (m1, .inl (cB, 64, .inl (bf (va_up F fc (u8 (nI b)))))), (a0, .inr (1, [.ref a1, .int (nI n)])), (a1, .inl (cB, 8192, .inl (bf g))), (b0, .inr (1, [.ref b1, .int (nI n2)])), (b1, .inl (cB, 8192, .inl (bf g2))), (t0, .inr (2, [.ref t1, .ref t2, .ref t3, .ref t4, .int (nI c)])), (t1, .inl (cI, 600, .inl (nf S))), (t2, .inl (cI, 600, .inl (nf Ln))), (t3, .inl (cZ, 600, .inl (zf Z))), (t4, .inl (cB, 38400, .inl (bf K)))] dX3_feed_57 ui_X3_feed_X3 tyX3_ok nmX3 rfl rfl (by decide) fl_X3_feed_38 rfl rfl rfl rfl (Nat.le_of_ble_eq_true rfl) rfl ?_
  refine x_iconst E (v := nI 1) dX3_feed_60 (by decide) ?_
  exact x_zret E hr hlocks dX3_feed_61 rfl ⟨rfl, rfl⟩
set_option maxRecDepth 100000 in
set_option maxHeartbeats 4000000 in
theorem c_X3_row_none (l : Launch) (D : va_G) (cB cI cZ cJ : ClassId) (m0 : Nat) (m1 : Nat) (a0 : Nat) (a1 : Nat) (b0 : Nat) (b1 : Nat) (t0 : Nat) (t1 : Nat) (t2 : Nat) (t3 : Nat) (t4 : Nat) (fc : Nat) (mv : Nat) (kn : Nat) (sh : Bool) (rp : Nat) (bad : Int32) (F : Nat → UInt8) (n : Nat) (g : Nat → UInt8) (n2 : Nat) (g2 : Nat → UInt8) (c : Nat) (S : Nat → Nat) (Ln : Nat → Nat) (Z : Nat → Bool) (K : Nat → UInt8) (x : Int32) (hfc : fc ≤ 64) (hc : c ≤ 600) (hno : sh = true ∨ fc = 0 ∨ nI 1000000000 < x ∨ ¬ nI (lastS c S) ≤ x) : Ct l D vwCl (tyl cB cI cZ cJ) yX3_row wsX3_row rmX3_row [.ref m0, .int x] [(m0, .inr (3, [.ref a0, .ref b0, .ref t0, .ref m1, .int (nI fc), .int (nI mv), .int (nI kn), .int (if sh = true then 1 else 0), .int (nI rp), .int bad])), (m1, .inl (cB, 64, .inl (bf F))), (a0, .inr (1, [.ref a1, .int (nI n)])), (a1, .inl (cB, 8192, .inl (bf g))), (b0, .inr (1, [.ref b1, .int (nI n2)])), (b1, .inl (cB, 8192, .inl (bf g2))), (t0, .inr (2, [.ref t1, .ref t2, .ref t3, .ref t4, .int (nI c)])), (t1, .inl (cI, 600, .inl (nf S))), (t2, .inl (cI, 600, .inl (nf Ln))), (t3, .inl (cZ, 600, .inl (zf Z))), (t4, .inl (cB, 38400, .inl (bf K)))] (some (.int (-1))) [(m0, .inr (3, [.ref a0, .ref b0, .ref t0, .ref m1, .int (nI fc), .int (nI mv), .int (nI kn), .int (if sh = true then 1 else 0), .int (nI rp), .int bad])), (m1, .inl (cB, 64, .inl (bf F))), (a0, .inr (1, [.ref a1, .int (nI n)])), (a1, .inl (cB, 8192, .inl (bf g))), (b0, .inr (1, [.ref b1, .int (nI n2)])), (b1, .inl (cB, 8192, .inl (bf g2))), (t0, .inr (2, [.ref t1, .ref t2, .ref t3, .ref t4, .int (nI c)])), (t1, .inl (cI, 600, .inl (nf S))), (t2, .inl (cI, 600, .inl (nf Ln))), (t3, .inl (cZ, 600, .inl (zf Z))), (t4, .inl (cB, 38400, .inl (bf K)))] := by
  refine x_start (cc := cX3_row) (maxL := 4) (ret := (some .int)) (by decide) rfl (Nat.le_of_ble_eq_true rfl) ?_
  intro xp xe xs xm xb xt xc xA E hr hlocks hnm
  obtain ⟨-, -, -, hown, hts, hK, hA⟩ := id E
  refine x_lve (lv' := [(0, .ref m0), (1, .int x)]) rfl ?_
  refine x_aload_n E 0 dX3_row_0 rfl ?_
  refine x_get E 0 7 dX3_row_1 ui_X3_row_X3 rfl rfl (by decide) fl_X3_row_34 rfl rfl ?_
  refine x_qif_ne E 31 dX3_row_4 (by decide) (fun h4 => ?_) (fun h4 => ?_)
  · refine x_iconst E (v := (-1)) dX3_row_31 (by decide) ?_
    exact x_iret E hr hlocks dX3_row_32 ⟨rfl, rfl⟩
  · refine x_aload_n E 0 dX3_row_7 rfl ?_
    refine x_get E 0 4 dX3_row_8 ui_X3_row_X3 rfl rfl (by decide) fl_X3_row_38 rfl rfl ?_
    refine x_nif_eq E 31 dX3_row_11 (by decide) (by omega) (fun h11 => ?_) (fun h11 => ?_)
    · refine x_iconst E (v := (-1)) dX3_row_31 (by decide) ?_
      exact x_iret E hr hlocks dX3_row_32 ⟨rfl, rfl⟩
    · refine x_iload_n E 1 dX3_row_14 rfl ?_
      refine x_ldc E (v := nI 1000000000) dX3_row_15 cn_X3_row_41 (by decide +kernel) ?_
      refine x_icmp_gt E 31 dX3_row_17 (by decide) (fun h17 => ?_) (fun h17 => ?_)
      · refine x_iconst E (v := (-1)) dX3_row_31 (by decide) ?_
        exact x_iret E hr hlocks dX3_row_32 ⟨rfl, rfl⟩
      · refine x_iload_n E 1 dX3_row_20 rfl ?_
        refine x_aload_n E 0 dX3_row_21 rfl ?_
        refine x_get E 0 2 dX3_row_22 ui_X3_row_X3 rfl rfl (by decide) fl_X3_row_22 rfl rfl ?_
        refine x_cV E [] [.int x] [.int (nI (lastS c S)), .int x] [(m0, .inr (3, [.ref a0, .ref b0, .ref t0, .ref m1, .int (nI fc), .int (nI mv), .int (nI kn), .int (if sh = true then 1 else 0), .int (nI rp), .int bad])), (m1, .inl (cB, 64, .inl (bf F))), (a0, .inr (1, [.ref a1, .int (nI n)])), (a1, .inl (cB, 8192, .inl (bf g))), (b0, .inr (1, [.ref b1, .int (nI n2)])), (b1, .inl (cB, 8192, .inl (bf g2))), (t0, .inr (2, [.ref t1, .ref t2, .ref t3, .ref t4, .int (nI c)])), (t1, .inl (cI, 600, .inl (nf S))), (t2, .inl (cI, 600, .inl (nf Ln))), (t3, .inl (cZ, 600, .inl (zf Z))), (t4, .inl (cB, 38400, .inl (bf K)))] (c_X2_lastSecond l D cB cI cZ cJ t0 t1 t2 t3 t4 c S Ln Z K (by omega)) 0 rfl rfl (cwV 0 hts gX3_row_X2_lastSecond rfl rfl rfl (by decide +kernel) ⟨Nat.le_of_ble_eq_true rfl, Nat.le_of_ble_eq_true rfl⟩) [6, 7, 8, 9, 10] [0, 1, 2, 3, 4, 5] rfl rfl (by decide) (by decide) (by decide) [0, 1, 2, 3, 4, 5, 6, 7, 8, 9, 10] (by decide) rfl rfl (Nat.le_of_ble_eq_true rfl) dX3_row_25 ⟨Nat.zero_le _, Nat.zero_le _⟩ rfl rfl ?_
        refine x_icmp_ge E 33 dX3_row_28 (by decide) (fun h => False.elim (by rcases hno with q | q | q | q; exact absurd (h4.symm.trans q) (by decide); exact h11 q; exact h17 q; exact q h)) (fun h28 => ?_)
        refine x_iconst E (v := (-1)) dX3_row_31 (by decide) ?_
        exact x_iret E hr hlocks dX3_row_32 ⟨rfl, rfl⟩
set_option maxRecDepth 100000 in
set_option maxHeartbeats 4000000 in
theorem c_X3_row_full (l : Launch) (D : va_G) (cB cI cZ cJ : ClassId) (m0 : Nat) (m1 : Nat) (a0 : Nat) (a1 : Nat) (b0 : Nat) (b1 : Nat) (t0 : Nat) (t1 : Nat) (t2 : Nat) (t3 : Nat) (t4 : Nat) (fc : Nat) (mv : Nat) (kn : Nat) (sh : Bool) (rp : Nat) (bad : Int32) (F : Nat → UInt8) (n : Nat) (g : Nat → UInt8) (n2 : Nat) (g2 : Nat → UInt8) (c : Nat) (S : Nat → Nat) (Ln : Nat → Nat) (Z : Nat → Bool) (K : Nat → UInt8) (s0 : Nat) (hc : c ≤ 600) (hkn : kn ≤ c) (hfc : 0 < fc) (hf2 : fc ≤ 64) (hs1 : lastS c S ≤ s0) (hs2 : s0 ≤ 1000000000) (hfu : 16 ≤ c - kn ∨ 600 ≤ c) : Ct l D vwCl (tyl cB cI cZ cJ) yX3_row wsX3_row rmX3_row [.ref m0, .int (nI s0)] [(m0, .inr (3, [.ref a0, .ref b0, .ref t0, .ref m1, .int (nI fc), .int (nI mv), .int (nI kn), .int (if false = true then 1 else 0), .int (nI rp), .int bad])), (m1, .inl (cB, 64, .inl (bf F))), (a0, .inr (1, [.ref a1, .int (nI n)])), (a1, .inl (cB, 8192, .inl (bf g))), (b0, .inr (1, [.ref b1, .int (nI n2)])), (b1, .inl (cB, 8192, .inl (bf g2))), (t0, .inr (2, [.ref t1, .ref t2, .ref t3, .ref t4, .int (nI c)])), (t1, .inl (cI, 600, .inl (nf S))), (t2, .inl (cI, 600, .inl (nf Ln))), (t3, .inl (cZ, 600, .inl (zf Z))), (t4, .inl (cB, 38400, .inl (bf K)))] (some (.int (-2))) [(m0, .inr (3, [.ref a0, .ref b0, .ref t0, .ref m1, .int (nI fc), .int (nI mv), .int (nI kn), .int (if false = true then 1 else 0), .int (nI rp), .int bad])), (m1, .inl (cB, 64, .inl (bf F))), (a0, .inr (1, [.ref a1, .int (nI n)])), (a1, .inl (cB, 8192, .inl (bf g))), (b0, .inr (1, [.ref b1, .int (nI n2)])), (b1, .inl (cB, 8192, .inl (bf g2))), (t0, .inr (2, [.ref t1, .ref t2, .ref t3, .ref t4, .int (nI c)])), (t1, .inl (cI, 600, .inl (nf S))), (t2, .inl (cI, 600, .inl (nf Ln))), (t3, .inl (cZ, 600, .inl (zf Z))), (t4, .inl (cB, 38400, .inl (bf K)))] := by
  refine x_start (cc := cX3_row) (maxL := 4) (ret := (some .int)) (by decide) rfl (Nat.le_of_ble_eq_true rfl) ?_
  intro xp xe xs xm xb xt xc xA E hr hlocks hnm
  obtain ⟨-, -, -, hown, hts, hK, hA⟩ := id E
  refine x_lve (lv' := [(0, .ref m0), (1, .int (nI s0))]) rfl ?_
  refine x_aload_n E 0 dX3_row_0 rfl ?_
  refine x_get E 0 7 dX3_row_1 ui_X3_row_X3 rfl rfl (by decide) fl_X3_row_34 rfl rfl ?_
  refine x_qif_ne E 31 dX3_row_4 (by decide) (fun h => False.elim (by cases h)) (fun h4 => ?_)
  refine x_aload_n E 0 dX3_row_7 rfl ?_
  refine x_get E 0 4 dX3_row_8 ui_X3_row_X3 rfl rfl (by decide) fl_X3_row_38 rfl rfl ?_
  refine x_nif_eq E 31 dX3_row_11 (by decide) (by omega) (fun h => False.elim (by omega)) (fun h11 => ?_)
  refine x_iload_n E 1 dX3_row_14 rfl ?_
  refine x_ldc E (v := nI 1000000000) dX3_row_15 cn_X3_row_41 (by decide +kernel) ?_
  refine x_ncmp_gt E 31 dX3_row_17 (by decide) (by omega) (by decide) (fun h => False.elim (by omega)) (fun h17 => ?_)
  refine x_iload_n E 1 dX3_row_20 rfl ?_
  refine x_aload_n E 0 dX3_row_21 rfl ?_
  refine x_get E 0 2 dX3_row_22 ui_X3_row_X3 rfl rfl (by decide) fl_X3_row_22 rfl rfl ?_
  refine x_cV E [] [.int (nI s0)] [.int (nI (lastS c S)), .int (nI s0)] [(m0, .inr (3, [.ref a0, .ref b0, .ref t0, .ref m1, .int (nI fc), .int (nI mv), .int (nI kn), .int (if false = true then 1 else 0), .int (nI rp), .int bad])), (m1, .inl (cB, 64, .inl (bf F))), (a0, .inr (1, [.ref a1, .int (nI n)])), (a1, .inl (cB, 8192, .inl (bf g))), (b0, .inr (1, [.ref b1, .int (nI n2)])), (b1, .inl (cB, 8192, .inl (bf g2))), (t0, .inr (2, [.ref t1, .ref t2, .ref t3, .ref t4, .int (nI c)])), (t1, .inl (cI, 600, .inl (nf S))), (t2, .inl (cI, 600, .inl (nf Ln))), (t3, .inl (cZ, 600, .inl (zf Z))), (t4, .inl (cB, 38400, .inl (bf K)))] (c_X2_lastSecond l D cB cI cZ cJ t0 t1 t2 t3 t4 c S Ln Z K (by omega)) 0 rfl rfl (cwV 0 hts gX3_row_X2_lastSecond rfl rfl rfl (by decide +kernel) ⟨Nat.le_of_ble_eq_true rfl, Nat.le_of_ble_eq_true rfl⟩) [6, 7, 8, 9, 10] [0, 1, 2, 3, 4, 5] rfl rfl (by decide) (by decide) (by decide) [0, 1, 2, 3, 4, 5, 6, 7, 8, 9, 10] (by decide) rfl rfl (Nat.le_of_ble_eq_true rfl) dX3_row_25 ⟨Nat.zero_le _, Nat.zero_le _⟩ rfl rfl ?_
  refine x_ncmp_ge E 33 dX3_row_28 (by decide) (by omega) (by omega) (fun h28 => ?_) (fun h => False.elim (by omega))
  refine x_aload_n E 0 dX3_row_33 rfl ?_
  refine x_get E 0 2 dX3_row_34 ui_X3_row_X3 rfl rfl (by decide) fl_X3_row_22 rfl rfl ?_
  refine x_cV E [] [] [.int (nI c)] [(m0, .inr (3, [.ref a0, .ref b0, .ref t0, .ref m1, .int (nI fc), .int (nI mv), .int (nI kn), .int (if false = true then 1 else 0), .int (nI rp), .int bad])), (m1, .inl (cB, 64, .inl (bf F))), (a0, .inr (1, [.ref a1, .int (nI n)])), (a1, .inl (cB, 8192, .inl (bf g))), (b0, .inr (1, [.ref b1, .int (nI n2)])), (b1, .inl (cB, 8192, .inl (bf g2))), (t0, .inr (2, [.ref t1, .ref t2, .ref t3, .ref t4, .int (nI c)])), (t1, .inl (cI, 600, .inl (nf S))), (t2, .inl (cI, 600, .inl (nf Ln))), (t3, .inl (cZ, 600, .inl (zf Z))), (t4, .inl (cB, 38400, .inl (bf K)))] (c_X2_count l D cB cI cZ cJ t0 t1 t2 t3 t4 c S Ln Z K ) 0 rfl rfl (cwV 0 hts gX3_row_X2_count rfl rfl rfl (by decide +kernel) ⟨Nat.le_of_ble_eq_true rfl, Nat.le_of_ble_eq_true rfl⟩) [6, 7, 8, 9, 10] [0, 1, 2, 3, 4, 5] rfl rfl (by decide) (by decide) (by decide) [0, 1, 2, 3, 4, 5, 6, 7, 8, 9, 10] (by decide) rfl rfl (Nat.le_of_ble_eq_true rfl) dX3_row_37 ⟨Nat.zero_le _, Nat.zero_le _⟩ rfl rfl ?_
  refine x_aload_n E 0 dX3_row_40 rfl ?_
  refine x_get E 0 6 dX3_row_41 ui_X3_row_X3 rfl rfl (by decide) fl_X3_row_49 rfl rfl ?_
  refine x_nisub E dX3_row_44 (by omega) ?_
  refine x_istore_n E [(2, .int (nI (c - kn))), (0, .ref m0), (1, .int (nI s0))] dX3_row_45 (by decide) rfl ?_
  refine x_iload_n E 0 dX3_row_46 rfl ?_
  refine x_bipush E (v := nI 16) dX3_row_47 (by decide) ?_
  refine x_ncmp_ge E 65 dX3_row_49 (by decide) (by omega) (by decide) (fun h49 => ?_) (fun h49 => ?_)
  · refine x_bipush E (v := (-2)) dX3_row_65 (by decide) ?_
    exact x_iret E hr hlocks dX3_row_67 ⟨rfl, rfl⟩
  · refine x_aload_n E 1 dX3_row_52 rfl ?_
    refine x_get E 0 2 dX3_row_53 ui_X3_row_X3 rfl rfl (by decide) fl_X3_row_22 rfl rfl ?_
    refine x_cV E [] [] [.int (nI c)] [(m0, .inr (3, [.ref a0, .ref b0, .ref t0, .ref m1, .int (nI fc), .int (nI mv), .int (nI kn), .int (if false = true then 1 else 0), .int (nI rp), .int bad])), (m1, .inl (cB, 64, .inl (bf F))), (a0, .inr (1, [.ref a1, .int (nI n)])), (a1, .inl (cB, 8192, .inl (bf g))), (b0, .inr (1, [.ref b1, .int (nI n2)])), (b1, .inl (cB, 8192, .inl (bf g2))), (t0, .inr (2, [.ref t1, .ref t2, .ref t3, .ref t4, .int (nI c)])), (t1, .inl (cI, 600, .inl (nf S))), (t2, .inl (cI, 600, .inl (nf Ln))), (t3, .inl (cZ, 600, .inl (zf Z))), (t4, .inl (cB, 38400, .inl (bf K)))] (c_X2_count l D cB cI cZ cJ t0 t1 t2 t3 t4 c S Ln Z K ) 0 rfl rfl (cwV 0 hts gX3_row_X2_count rfl rfl rfl (by decide +kernel) ⟨Nat.le_of_ble_eq_true rfl, Nat.le_of_ble_eq_true rfl⟩) [6, 7, 8, 9, 10] [0, 1, 2, 3, 4, 5] rfl rfl (by decide) (by decide) (by decide) [0, 1, 2, 3, 4, 5, 6, 7, 8, 9, 10] (by decide) rfl rfl (Nat.le_of_ble_eq_true rfl) dX3_row_56 ⟨Nat.zero_le _, Nat.zero_le _⟩ rfl rfl ?_
    refine x_sipush E (v := nI 600) dX3_row_59 (by decide) ?_
    refine x_ncmp_lt E 68 dX3_row_62 (by decide) (by omega) (by decide) (fun h => False.elim (by omega)) (fun h62 => ?_)
    refine x_bipush E (v := (-2)) dX3_row_65 (by decide) ?_
    exact x_iret E hr hlocks dX3_row_67 ⟨rfl, rfl⟩
set_option maxRecDepth 100000 in
set_option maxHeartbeats 4000000 in
theorem c_X3_row_ok (l : Launch) (D : va_G) (cB cI cZ cJ : ClassId) (m0 : Nat) (m1 : Nat) (a0 : Nat) (a1 : Nat) (b0 : Nat) (b1 : Nat) (t0 : Nat) (t1 : Nat) (t2 : Nat) (t3 : Nat) (t4 : Nat) (fc : Nat) (mv : Nat) (kn : Nat) (sh : Bool) (rp : Nat) (bad : Int32) (F : Nat → UInt8) (n : Nat) (g : Nat → UInt8) (n2 : Nat) (g2 : Nat → UInt8) (c : Nat) (S : Nat → Nat) (Ln : Nat → Nat) (Z : Nat → Bool) (K : Nat → UInt8) (s0 : Nat) (hkn : kn ≤ c) (hfc : 0 < fc) (hf2 : fc ≤ 64) (hs1 : lastS c S ≤ s0) (hs2 : s0 ≤ 1000000000) (h16 : c - kn < 16) (hc : c < 600) : Ct l D vwCl (tyl cB cI cZ cJ) yX3_row wsX3_row rmX3_row [.ref m0, .int (nI s0)] [(m0, .inr (3, [.ref a0, .ref b0, .ref t0, .ref m1, .int (nI fc), .int (nI mv), .int (nI kn), .int (if false = true then 1 else 0), .int (nI rp), .int bad])), (m1, .inl (cB, 64, .inl (bf F))), (a0, .inr (1, [.ref a1, .int (nI n)])), (a1, .inl (cB, 8192, .inl (bf g))), (b0, .inr (1, [.ref b1, .int (nI n2)])), (b1, .inl (cB, 8192, .inl (bf g2))), (t0, .inr (2, [.ref t1, .ref t2, .ref t3, .ref t4, .int (nI c)])), (t1, .inl (cI, 600, .inl (nf S))), (t2, .inl (cI, 600, .inl (nf Ln))), (t3, .inl (cZ, 600, .inl (zf Z))), (t4, .inl (cB, 38400, .inl (bf K)))] (some (.int (nI (c - kn)))) [(m0, .inr (3, [.ref a0, .ref b0, .ref t0, .ref m1, .int (nI 0), .int (nI mv), .int (nI kn), .int (if false = true then 1 else 0), .int (nI rp), .int bad])), (m1, .inl (cB, 64, .inl (bf F))), (a0, .inr (1, [.ref a1, .int (nI n)])), (a1, .inl (cB, 8192, .inl (bf g))), (b0, .inr (1, [.ref b1, .int (nI n2)])), (b1, .inl (cB, 8192, .inl (bf g2))), (t0, .inr (2, [.ref t1, .ref t2, .ref t3, .ref t4, .int (nI (c + 1))])), (t1, .inl (cI, 600, .inl (nf (va_up S c s0)))), (t2, .inl (cI, 600, .inl (nf (va_up Ln c fc)))), (t3, .inl (cZ, 600, .inl (zf (va_up Z c false)))), (t4, .inl (cB, 38400, .inl (bf (app K (c * 64) (conL F 0 fc)))))] := by
  refine x_start (cc := cX3_row) (maxL := 4) (ret := (some .int)) (by decide) rfl (Nat.le_of_ble_eq_true rfl) ?_
  intro xp xe xs xm xb xt xc xA E hr hlocks hnm
  obtain ⟨-, -, -, hown, hts, hK, hA⟩ := id E
  refine x_lve (lv' := [(0, .ref m0), (1, .int (nI s0))]) rfl ?_
  have loop : ∀ (j i : Nat) (K2 : Nat → UInt8), i + j = fc → app K2 (c * 64 + i) (conL F i j) = app K (c * 64) (conL F 0 fc) → Xs xp l xe rmX3_row xs xm ([.ref m0, .int (nI s0)] : List Value).toArray xb xt xc D vwCl xA 4 0 0 (MQ xb (CQ D vwCl (tyl cB cI cZ cJ) xA (fun r u => r = (some (.int (nI (c - kn)))) ∧ u = [(m0, .inr (3, [.ref a0, .ref b0, .ref t0, .ref m1, .int (nI 0), .int (nI mv), .int (nI kn), .int (if false = true then 1 else 0), .int (nI rp), .int bad])), (m1, .inl (cB, 64, .inl (bf F))), (a0, .inr (1, [.ref a1, .int (nI n)])), (a1, .inl (cB, 8192, .inl (bf g))), (b0, .inr (1, [.ref b1, .int (nI n2)])), (b1, .inl (cB, 8192, .inl (bf g2))), (t0, .inr (2, [.ref t1, .ref t2, .ref t3, .ref t4, .int (nI (c + 1))])), (t1, .inl (cI, 600, .inl (nf (va_up S c s0)))), (t2, .inl (cI, 600, .inl (nf (va_up Ln c fc)))), (t3, .inl (cZ, 600, .inl (zf (va_up Z c false)))), (t4, .inl (cB, 38400, .inl (bf (app K (c * 64) (conL F 0 fc)))))])) ([.ref m0, .int (nI s0)] : List Value).toArray xs 0 0 xA) [(m0, .inr (3, [.ref a0, .ref b0, .ref t0, .ref m1, .int (nI fc), .int (nI mv), .int (nI kn), .int (if false = true then 1 else 0), .int (nI rp), .int bad])), (m1, .inl (cB, 64, .inl (bf F))), (a0, .inr (1, [.ref a1, .int (nI n)])), (a1, .inl (cB, 8192, .inl (bf g))), (b0, .inr (1, [.ref b1, .int (nI n2)])), (b1, .inl (cB, 8192, .inl (bf g2))), (t0, .inr (2, [.ref t1, .ref t2, .ref t3, .ref t4, .int (nI (c + 1))])), (t1, .inl (cI, 600, .inl (nf (va_up S c s0)))), (t2, .inl (cI, 600, .inl (nf (va_up Ln c i)))), (t3, .inl (cZ, 600, .inl (zf (va_up Z c false)))), (t4, .inl (cB, 38400, .inl (bf K2)))] [(3, .int (nI i)), (2, .int (nI (c - kn))), (0, .ref m0), (1, .int (nI s0))] 78 [] := by
    intro j
    induction j with
    | zero =>
      intro i K2 e1 e2
      have e2 : K2 = app K (c * 64) (conL F 0 fc) := e2
      have e1 : i = fc := e1
      subst e1
      subst e2
      refine x_iload_n E 0 dX3_row_78 rfl ?_
      refine x_aload_n E 2 dX3_row_79 rfl ?_
      refine x_get E 0 4 dX3_row_80 ui_X3_row_X3 rfl rfl (by decide) fl_X3_row_38 rfl rfl ?_
      refine x_ncmp_ge E 114 dX3_row_83 (by decide) (by omega) (by omega) (fun h83 => ?_) (fun h => False.elim (by omega))
      refine x_aload_n E 2 dX3_row_114 rfl ?_
      refine x_iconst E (v := nI 0) dX3_row_115 (by decide) ?_
      refine x_put E 0 4 [(m0, .inr (3, [.ref a0, .ref b0, .ref t0, .ref m1, .int (nI 0), .int (nI mv), .int (nI kn), .int (if false = true then 1 else 0), .int (nI rp), .int bad])), (m1, .inl (cB, 64, .inl (bf F))), (a0, .inr (1, [.ref a1, .int (nI n)])), (a1, .inl (cB, 8192, .inl (bf g))), (b0, .inr (1, [.ref b1, .int (nI n2)])), (b1, .inl (cB, 8192, .inl (bf g2))), (t0, .inr (2, [.ref t1, .ref t2, .ref t3, .ref t4, .int (nI (c + 1))])), (t1, .inl (cI, 600, .inl (nf (va_up S c s0)))), (t2, .inl (cI, 600, .inl (nf (va_up Ln c i)))), (t3, .inl (cZ, 600, .inl (zf (va_up Z c false)))), (t4, .inl (cB, 38400, .inl (bf (app K (c * 64) (conL F 0 i)))))] dX3_row_116 ui_X3_row_X3 tyX3_ok nmX3 rfl rfl (by decide) fl_X3_row_38 rfl rfl rfl rfl (Nat.le_of_ble_eq_true rfl) rfl ?_
      refine x_iload_n E 1 dX3_row_119 rfl ?_
      exact x_iret E hr hlocks dX3_row_120 ⟨rfl, rfl⟩
    | succ j ih =>
      intro i K2 e1 e2
      refine x_iload_n E 0 dX3_row_78 rfl ?_
      refine x_aload_n E 2 dX3_row_79 rfl ?_
      refine x_get E 0 4 dX3_row_80 ui_X3_row_X3 rfl rfl (by decide) fl_X3_row_38 rfl rfl ?_
      refine x_ncmp_ge E 114 dX3_row_83 (by decide) (by omega) (by omega) (fun h => False.elim (by omega)) (fun h83 => ?_)
      refine x_iload_n E 0 dX3_row_86 rfl ?_
      refine x_aload_n E 2 dX3_row_87 rfl ?_
      refine x_get E 0 3 dX3_row_88 ui_X3_row_X3 rfl rfl (by decide) fl_X3_row_26 rfl rfl ?_
      refine x_alen E 1 0 64 dX3_row_91 rfl rfl rfl ?_
      refine x_ncmp_ge E 114 dX3_row_92 (by decide) (by omega) (by decide) (fun h => False.elim (by omega)) (fun h92 => ?_)
      refine x_aload_n E 2 dX3_row_95 rfl ?_
      refine x_get E 0 2 dX3_row_96 ui_X3_row_X3 rfl rfl (by decide) fl_X3_row_22 rfl rfl ?_
      refine x_aload_n E 2 dX3_row_99 rfl ?_
      refine x_get E 0 3 dX3_row_100 ui_X3_row_X3 rfl rfl (by decide) fl_X3_row_26 rfl rfl ?_
      refine x_iload_n E 0 dX3_row_103 rfl ?_
      refine x_bald E 1 0 dX3_row_104 rfl rfl (by omega) (by decide) ?_
      refine x_cV E [.int (bf F i)] [] [] [(m0, .inr (3, [.ref a0, .ref b0, .ref t0, .ref m1, .int (nI fc), .int (nI mv), .int (nI kn), .int (if false = true then 1 else 0), .int (nI rp), .int bad])), (m1, .inl (cB, 64, .inl (bf F))), (a0, .inr (1, [.ref a1, .int (nI n)])), (a1, .inl (cB, 8192, .inl (bf g))), (b0, .inr (1, [.ref b1, .int (nI n2)])), (b1, .inl (cB, 8192, .inl (bf g2))), (t0, .inr (2, [.ref t1, .ref t2, .ref t3, .ref t4, .int (nI (c + 1))])), (t1, .inl (cI, 600, .inl (nf (va_up S c s0)))), (t2, .inl (cI, 600, .inl (nf (va_up (va_up Ln c i) ((c + 1) - 1) ((va_up Ln c i) ((c + 1) - 1) + 1))))), (t3, .inl (cZ, 600, .inl (zf (va_up Z c false)))), (t4, .inl (cB, 38400, .inl (bf (va_up K2 (((c + 1) - 1) * 64 + (va_up Ln c i) ((c + 1) - 1)) (u8 (bf F i))))))] (c_X2_push l D cB cI cZ cJ t0 t1 t2 t3 t4 (c + 1) (va_up S c s0) (va_up Ln c i) (va_up Z c false) K2 (bf F i) (by omega) (by omega) (by rw [Nat.add_sub_cancel, va_up_self]; omega)) 0 rfl rfl (cwV 1 hts gX3_row_X2_push rfl rfl rfl (by decide +kernel) ⟨Nat.le_of_ble_eq_true rfl, Nat.le_of_ble_eq_true rfl⟩) [6, 7, 8, 9, 10] [0, 1, 2, 3, 4, 5] rfl rfl (by decide) (by decide) (by decide) [0, 1, 2, 3, 4, 5, 6, 7, 8, 9, 10] (by decide) rfl rfl (Nat.le_of_ble_eq_true rfl) dX3_row_105 ⟨Nat.zero_le _, Nat.zero_le _⟩ rfl rfl ?_
      refine x_iinc E 0 [(3, .int (nI (i + 1))), (2, .int (nI (c - kn))), (0, .ref m0), (1, .int (nI s0))] dX3_row_108 rfl (nI_add _ _) (by decide) rfl ?_
      refine x_goto E 78 dX3_row_111 (by decide) ?_
      refine x_ws (ws' := [(m0, .inr (3, [.ref a0, .ref b0, .ref t0, .ref m1, .int (nI fc), .int (nI mv), .int (nI kn), .int (if false = true then 1 else 0), .int (nI rp), .int bad])), (m1, .inl (cB, 64, .inl (bf F))), (a0, .inr (1, [.ref a1, .int (nI n)])), (a1, .inl (cB, 8192, .inl (bf g))), (b0, .inr (1, [.ref b1, .int (nI n2)])), (b1, .inl (cB, 8192, .inl (bf g2))), (t0, .inr (2, [.ref t1, .ref t2, .ref t3, .ref t4, .int (nI (c + 1))])), (t1, .inl (cI, 600, .inl (nf (va_up S c s0)))), (t2, .inl (cI, 600, .inl (nf (va_up Ln c (i + 1))))), (t3, .inl (cZ, 600, .inl (zf (va_up Z c false)))), (t4, .inl (cB, 38400, .inl (bf (va_up K2 (c * 64 + i) (F i)))))]) (by rw [pushL, Nat.add_sub_cancel, va_up_self, u8_bf]) ?_
      exact ih (i + 1) _ (by omega) (by rw [← e2, conL_s, app_s]; rfl)
  refine x_aload_n E 0 dX3_row_0 rfl ?_
  refine x_get E 0 7 dX3_row_1 ui_X3_row_X3 rfl rfl (by decide) fl_X3_row_34 rfl rfl ?_
  refine x_qif_ne E 31 dX3_row_4 (by decide) (fun h => False.elim (by cases h)) (fun h4 => ?_)
  refine x_aload_n E 0 dX3_row_7 rfl ?_
  refine x_get E 0 4 dX3_row_8 ui_X3_row_X3 rfl rfl (by decide) fl_X3_row_38 rfl rfl ?_
  refine x_nif_eq E 31 dX3_row_11 (by decide) (by omega) (fun h => False.elim (by omega)) (fun h11 => ?_)
  refine x_iload_n E 1 dX3_row_14 rfl ?_
  refine x_ldc E (v := nI 1000000000) dX3_row_15 cn_X3_row_41 (by decide +kernel) ?_
  refine x_ncmp_gt E 31 dX3_row_17 (by decide) (by omega) (by decide) (fun h => False.elim (by omega)) (fun h17 => ?_)
  refine x_iload_n E 1 dX3_row_20 rfl ?_
  refine x_aload_n E 0 dX3_row_21 rfl ?_
  refine x_get E 0 2 dX3_row_22 ui_X3_row_X3 rfl rfl (by decide) fl_X3_row_22 rfl rfl ?_
  refine x_cV E [] [.int (nI s0)] [.int (nI (lastS c S)), .int (nI s0)] [(m0, .inr (3, [.ref a0, .ref b0, .ref t0, .ref m1, .int (nI fc), .int (nI mv), .int (nI kn), .int (if false = true then 1 else 0), .int (nI rp), .int bad])), (m1, .inl (cB, 64, .inl (bf F))), (a0, .inr (1, [.ref a1, .int (nI n)])), (a1, .inl (cB, 8192, .inl (bf g))), (b0, .inr (1, [.ref b1, .int (nI n2)])), (b1, .inl (cB, 8192, .inl (bf g2))), (t0, .inr (2, [.ref t1, .ref t2, .ref t3, .ref t4, .int (nI c)])), (t1, .inl (cI, 600, .inl (nf S))), (t2, .inl (cI, 600, .inl (nf Ln))), (t3, .inl (cZ, 600, .inl (zf Z))), (t4, .inl (cB, 38400, .inl (bf K)))] (c_X2_lastSecond l D cB cI cZ cJ t0 t1 t2 t3 t4 c S Ln Z K (by omega)) 0 rfl rfl (cwV 0 hts gX3_row_X2_lastSecond rfl rfl rfl (by decide +kernel) ⟨Nat.le_of_ble_eq_true rfl, Nat.le_of_ble_eq_true rfl⟩) [6, 7, 8, 9, 10] [0, 1, 2, 3, 4, 5] rfl rfl (by decide) (by decide) (by decide) [0, 1, 2, 3, 4, 5, 6, 7, 8, 9, 10] (by decide) rfl rfl (Nat.le_of_ble_eq_true rfl) dX3_row_25 ⟨Nat.zero_le _, Nat.zero_le _⟩ rfl rfl ?_
  refine x_ncmp_ge E 33 dX3_row_28 (by decide) (by omega) (by omega) (fun h28 => ?_) (fun h => False.elim (by omega))
  refine x_aload_n E 0 dX3_row_33 rfl ?_
  refine x_get E 0 2 dX3_row_34 ui_X3_row_X3 rfl rfl (by decide) fl_X3_row_22 rfl rfl ?_
  refine x_cV E [] [] [.int (nI c)] [(m0, .inr (3, [.ref a0, .ref b0, .ref t0, .ref m1, .int (nI fc), .int (nI mv), .int (nI kn), .int (if false = true then 1 else 0), .int (nI rp), .int bad])), (m1, .inl (cB, 64, .inl (bf F))), (a0, .inr (1, [.ref a1, .int (nI n)])), (a1, .inl (cB, 8192, .inl (bf g))), (b0, .inr (1, [.ref b1, .int (nI n2)])), (b1, .inl (cB, 8192, .inl (bf g2))), (t0, .inr (2, [.ref t1, .ref t2, .ref t3, .ref t4, .int (nI c)])), (t1, .inl (cI, 600, .inl (nf S))), (t2, .inl (cI, 600, .inl (nf Ln))), (t3, .inl (cZ, 600, .inl (zf Z))), (t4, .inl (cB, 38400, .inl (bf K)))] (c_X2_count l D cB cI cZ cJ t0 t1 t2 t3 t4 c S Ln Z K ) 0 rfl rfl (cwV 0 hts gX3_row_X2_count rfl rfl rfl (by decide +kernel) ⟨Nat.le_of_ble_eq_true rfl, Nat.le_of_ble_eq_true rfl⟩) [6, 7, 8, 9, 10] [0, 1, 2, 3, 4, 5] rfl rfl (by decide) (by decide) (by decide) [0, 1, 2, 3, 4, 5, 6, 7, 8, 9, 10] (by decide) rfl rfl (Nat.le_of_ble_eq_true rfl) dX3_row_37 ⟨Nat.zero_le _, Nat.zero_le _⟩ rfl rfl ?_
  refine x_aload_n E 0 dX3_row_40 rfl ?_
  refine x_get E 0 6 dX3_row_41 ui_X3_row_X3 rfl rfl (by decide) fl_X3_row_49 rfl rfl ?_
  refine x_nisub E dX3_row_44 (by omega) ?_
  refine x_istore_n E [(2, .int (nI (c - kn))), (0, .ref m0), (1, .int (nI s0))] dX3_row_45 (by decide) rfl ?_
  refine x_iload_n E 0 dX3_row_46 rfl ?_
  refine x_bipush E (v := nI 16) dX3_row_47 (by decide) ?_
  refine x_ncmp_ge E 65 dX3_row_49 (by decide) (by omega) (by decide) (fun h => False.elim (by omega)) (fun h49 => ?_)
  refine x_aload_n E 1 dX3_row_52 rfl ?_
  refine x_get E 0 2 dX3_row_53 ui_X3_row_X3 rfl rfl (by decide) fl_X3_row_22 rfl rfl ?_
  refine x_cV E [] [] [.int (nI c)] [(m0, .inr (3, [.ref a0, .ref b0, .ref t0, .ref m1, .int (nI fc), .int (nI mv), .int (nI kn), .int (if false = true then 1 else 0), .int (nI rp), .int bad])), (m1, .inl (cB, 64, .inl (bf F))), (a0, .inr (1, [.ref a1, .int (nI n)])), (a1, .inl (cB, 8192, .inl (bf g))), (b0, .inr (1, [.ref b1, .int (nI n2)])), (b1, .inl (cB, 8192, .inl (bf g2))), (t0, .inr (2, [.ref t1, .ref t2, .ref t3, .ref t4, .int (nI c)])), (t1, .inl (cI, 600, .inl (nf S))), (t2, .inl (cI, 600, .inl (nf Ln))), (t3, .inl (cZ, 600, .inl (zf Z))), (t4, .inl (cB, 38400, .inl (bf K)))] (c_X2_count l D cB cI cZ cJ t0 t1 t2 t3 t4 c S Ln Z K ) 0 rfl rfl (cwV 0 hts gX3_row_X2_count rfl rfl rfl (by decide +kernel) ⟨Nat.le_of_ble_eq_true rfl, Nat.le_of_ble_eq_true rfl⟩) [6, 7, 8, 9, 10] [0, 1, 2, 3, 4, 5] rfl rfl (by decide) (by decide) (by decide) [0, 1, 2, 3, 4, 5, 6, 7, 8, 9, 10] (by decide) rfl rfl (Nat.le_of_ble_eq_true rfl) dX3_row_56 ⟨Nat.zero_le _, Nat.zero_le _⟩ rfl rfl ?_
  refine x_sipush E (v := nI 600) dX3_row_59 (by decide) ?_
  refine x_ncmp_lt E 68 dX3_row_62 (by decide) (by omega) (by decide) (fun h62 => ?_) (fun h => False.elim (by omega))
  refine x_aload_n E 1 dX3_row_68 rfl ?_
  refine x_get E 0 2 dX3_row_69 ui_X3_row_X3 rfl rfl (by decide) fl_X3_row_22 rfl rfl ?_
  refine x_iload_n E 2 dX3_row_72 rfl ?_
  refine x_cV E [.int (nI s0)] [] [] [(m0, .inr (3, [.ref a0, .ref b0, .ref t0, .ref m1, .int (nI fc), .int (nI mv), .int (nI kn), .int (if false = true then 1 else 0), .int (nI rp), .int bad])), (m1, .inl (cB, 64, .inl (bf F))), (a0, .inr (1, [.ref a1, .int (nI n)])), (a1, .inl (cB, 8192, .inl (bf g))), (b0, .inr (1, [.ref b1, .int (nI n2)])), (b1, .inl (cB, 8192, .inl (bf g2))), (t0, .inr (2, [.ref t1, .ref t2, .ref t3, .ref t4, .int (nI (c + 1))])), (t1, .inl (cI, 600, .inl (nf (va_up S c s0)))), (t2, .inl (cI, 600, .inl (nf (va_up Ln c 0)))), (t3, .inl (cZ, 600, .inl (zf (va_up Z c false)))), (t4, .inl (cB, 38400, .inl (bf K)))] (c_X2_begin l D cB cI cZ cJ t0 t1 t2 t3 t4 c S Ln Z K s0 (by omega)) 0 rfl rfl (cwV 1 hts gX3_row_X2_begin rfl rfl rfl (by decide +kernel) ⟨Nat.le_of_ble_eq_true rfl, Nat.le_of_ble_eq_true rfl⟩) [6, 7, 8, 9, 10] [0, 1, 2, 3, 4, 5] rfl rfl (by decide) (by decide) (by decide) [0, 1, 2, 3, 4, 5, 6, 7, 8, 9, 10] (by decide) rfl rfl (Nat.le_of_ble_eq_true rfl) dX3_row_73 ⟨Nat.zero_le _, Nat.zero_le _⟩ rfl rfl ?_
  refine x_iconst E (v := nI 0) dX3_row_76 (by decide) ?_
  refine x_istore_n E [(3, .int (nI 0)), (2, .int (nI (c - kn))), (0, .ref m0), (1, .int (nI s0))] dX3_row_77 (by decide) rfl ?_
  exact loop fc 0 K (by omega) rfl
end
