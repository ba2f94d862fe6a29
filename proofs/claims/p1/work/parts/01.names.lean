/-! ===== BEGIN words of one list among another's, by their places ===== -/
theorem goodIn_r {big : List Cond} (ws : List Cond) (ps : List Nat) (hp : ws = ps.filterMap (fun i => big[i]?)) (h : ws.all goodWord = true) : GoodIn big ws := by
  intro w hw
  have h1 := List.all_eq_true.mp h w hw
  rw [hp] at hw
  obtain ⟨i, -, hi⟩ := List.mem_filterMap.mp hw
  have hm : w ∈ big := by first | exact List.mem_of_getElem? hi | exact List.getElem?_mem hi
  exact ⟨hm, good_of_word h1⟩
theorem goodIn_app {big a b : List Cond} (ha : GoodIn big a) (hb : GoodIn big b) : GoodIn big (a ++ b) := fun w h => (List.mem_append.mp h).elim (ha w) (hb w)
theorem goodIn_ca {big a b : List Cond} {c : Cond} (ha : GoodIn big (c :: a)) (hb : GoodIn big b) : GoodIn big (c :: (a ++ b)) := fun w h => (List.mem_cons.mp h).elim (fun e => ha w (List.mem_cons.mpr (Or.inl e))) (fun h => (List.mem_append.mp h).elim (fun h => ha w (List.mem_cons.mpr (Or.inr h))) (hb w))
theorem goodIn_sub {big ws : List Cond} (hm : ∀ w ∈ ws, w ∈ big) (h : ws.all goodWord = true) : GoodIn big ws := fun w hw => ⟨hm w hw, good_of_word (List.all_eq_true.mp h w hw)⟩
/-! ===== END ===== -/

/-! ===== BEGIN printed: names, fields, word lists, decode rows ===== -/
def RX0 : String := "ThreeFiles$StoredFile"
def TX0 : u_T := fun k => match k with
  | 0 => ("ThreeFiles$StoredFile", "number", "I", true)
  | 1 => ("ThreeFiles$StoredFile", "bytes", "[I", true)
  | 2 => ("ThreeFiles$StoredFile", "remembered", "[I", true)
  | 3 => ("ThreeFiles$StoredFile", "length", "I", false)
  | _ => ("ThreeFiles$StoredFile", "rememberedLength", "I", false)
def tyX0 : Nat → FieldType := fun k => match k with
  | 0 => .int
  | 1 => .array .int
  | 2 => .array .int
  | 3 => .int
  | _ => .int
abbrev wsX00 : List Cond := u_ws RX0 TX0 5
theorem nmX0 : ∀ a, a < 5 → ∀ b, b < 5 → a ≠ b → (TX0 a).2.1 ≠ (TX0 b).2.1 := by decide +kernel
theorem tyX0_ok : ∀ k, k < 5 → parseFieldDescriptor (TX0 k).2.2.1 = some (tyX0 k) := by decide +kernel
abbrev cX0_init : ByteArray := prog_2_method_1_code
def yX0_init : MethodName := ⟨RX0, "<init>", "(II)V"⟩
abbrev cX0_length : ByteArray := prog_2_method_2_code
def yX0_length : MethodName := ⟨RX0, "length", "()I"⟩
abbrev cX0_has : ByteArray := prog_2_method_3_code
def yX0_has : MethodName := ⟨RX0, "has", "(I)Z"⟩
abbrev cX0_get : ByteArray := prog_2_method_4_code
def yX0_get : MethodName := ⟨RX0, "get", "(I)I"⟩
abbrev cX0_set : ByteArray := prog_2_method_5_code
def yX0_set : MethodName := ⟨RX0, "set", "(II)V"⟩
abbrev cX0_setLength : ByteArray := prog_2_method_6_code
def yX0_setLength : MethodName := ⟨RX0, "setLength", "(I)V"⟩
abbrev cX0_reach : ByteArray := prog_2_method_7_code
def yX0_reach : MethodName := ⟨RX0, "reach", "(I)V"⟩
abbrev cX0_isGood : ByteArray := prog_2_method_8_code
def yX0_isGood : MethodName := ⟨RX0, "isGood", "(I)Z"⟩
abbrev cX0_seal : ByteArray := prog_2_method_9_code
def yX0_seal : MethodName := ⟨RX0, "seal", "(I)V"⟩
abbrev cX0_hasSum : ByteArray := prog_2_method_10_code
def yX0_hasSum : MethodName := ⟨RX0, "hasSum", "(II)Z"⟩
abbrev cX0_sum : ByteArray := prog_2_method_11_code
def yX0_sum : MethodName := ⟨RX0, "sum", "(I)I"⟩
abbrev cX0_lowByte : ByteArray := prog_2_method_12_code
def yX0_lowByte : MethodName := ⟨RX0, "lowByte", "(I)I"⟩
abbrev cX0_remember : ByteArray := prog_2_method_13_code
def yX0_remember : MethodName := ⟨RX0, "remember", "()V"⟩
abbrev cX0_isAsRemembered : ByteArray := prog_2_method_14_code
def yX0_isAsRemembered : MethodName := ⟨RX0, "isAsRemembered", "()Z"⟩
def RX1 : String := "ThreeFiles"
def TX1 : u_T := fun k => match k with
  | 0 => ("ThreeFiles", "pieces", "I", true)
  | 1 => ("ThreeFiles", "files", "[LThreeFiles$StoredFile;", true)
  | 2 => ("ThreeFiles", "fed", "[I", true)
  | 3 => ("ThreeFiles", "fedCount", "I", false)
  | 4 => ("ThreeFiles", "closed", "Z", false)
  | 5 => ("ThreeFiles", "everClosed", "Z", false)
  | 6 => ("ThreeFiles", "scrubAt", "I", false)
  | _ => ("ThreeFiles", "mendedCount", "I", false)
def tyX1 : Nat → FieldType := fun k => match k with
  | 0 => .int
  | 1 => .array (.object "ThreeFiles$StoredFile")
  | 2 => .array .int
  | 3 => .int
  | 4 => .boolean
  | 5 => .boolean
  | 6 => .int
  | _ => .int
abbrev wsX10 : List Cond := u_ws RX1 TX1 8
theorem nmX1 : ∀ a, a < 8 → ∀ b, b < 8 → a ≠ b → (TX1 a).2.1 ≠ (TX1 b).2.1 := by decide +kernel
theorem tyX1_ok : ∀ k, k < 8 → parseFieldDescriptor (TX1 k).2.2.1 = some (tyX1 k) := by decide +kernel
abbrev cX1_init : ByteArray := prog_1_method_1_code
def yX1_init : MethodName := ⟨RX1, "<init>", "(I)V"⟩
abbrev cX1_feed : ByteArray := prog_1_method_2_code
def yX1_feed : MethodName := ⟨RX1, "feed", "(I)Z"⟩
abbrev cX1_row : ByteArray := prog_1_method_3_code
def yX1_row : MethodName := ⟨RX1, "row", "(I)I"⟩
abbrev cX1_find : ByteArray := prog_1_method_4_code
def yX1_find : MethodName := ⟨RX1, "find", "(II)I"⟩
abbrev cX1_rows : ByteArray := prog_1_method_5_code
def yX1_rows : MethodName := ⟨RX1, "rows", "(I)I"⟩
abbrev cX1_drop : ByteArray := prog_1_method_6_code
def yX1_drop : MethodName := ⟨RX1, "drop", "(I)Z"⟩
abbrev cX1_crash : ByteArray := prog_1_method_7_code
def yX1_crash : MethodName := ⟨RX1, "crash", "(II)Z"⟩
abbrev cX1_lose : ByteArray := prog_1_method_8_code
def yX1_lose : MethodName := ⟨RX1, "lose", "(I)Z"⟩
abbrev cX1_poke : ByteArray := prog_1_method_9_code
def yX1_poke : MethodName := ⟨RX1, "poke", "(III)Z"⟩
abbrev cX1_reopen : ByteArray := prog_1_method_10_code
def yX1_reopen : MethodName := ⟨RX1, "reopen", "()I"⟩
abbrev cX1_scrub : ByteArray := prog_1_method_11_code
def yX1_scrub : MethodName := ⟨RX1, "scrub", "(I)I"⟩
abbrev cX1_mended : ByteArray := prog_1_method_12_code
def yX1_mended : MethodName := ⟨RX1, "mended", "()I"⟩
abbrev cX1_badAt : ByteArray := prog_1_method_13_code
def yX1_badAt : MethodName := ⟨RX1, "badAt", "()I"⟩
abbrev cX1_byteAt : ByteArray := prog_1_method_14_code
def yX1_byteAt : MethodName := ⟨RX1, "byteAt", "(III)I"⟩
abbrev cX1_same : ByteArray := prog_1_method_15_code
def yX1_same : MethodName := ⟨RX1, "same", "(I)Z"⟩
abbrev cX1_odd : ByteArray := prog_1_method_16_code
def yX1_odd : MethodName := ⟨RX1, "odd", "(I)I"⟩
abbrev cX1_size : ByteArray := prog_1_method_17_code
def yX1_size : MethodName := ⟨RX1, "size", "(I)I"⟩
abbrev cX1_isYear : ByteArray := prog_1_method_18_code
def yX1_isYear : MethodName := ⟨RX1, "isYear", "(I)Z"⟩
abbrev cX1_isFile : ByteArray := prog_1_method_19_code
def yX1_isFile : MethodName := ⟨RX1, "isFile", "(I)Z"⟩
abbrev cX1_sumFile : ByteArray := prog_1_method_20_code
def yX1_sumFile : MethodName := ⟨RX1, "sumFile", "(I)I"⟩
abbrev cX1_fileOfRow : ByteArray := prog_1_method_21_code
def yX1_fileOfRow : MethodName := ⟨RX1, "fileOfRow", "(I)I"⟩
abbrev cX1_stripeCount : ByteArray := prog_1_method_22_code
def yX1_stripeCount : MethodName := ⟨RX1, "stripeCount", "()I"⟩
abbrev cX1_allFilesReach : ByteArray := prog_1_method_23_code
def yX1_allFilesReach : MethodName := ⟨RX1, "allFilesReach", "(I)Z"⟩
abbrev cX1_goodPieces : ByteArray := prog_1_method_24_code
def yX1_goodPieces : MethodName := ⟨RX1, "goodPieces", "(I)I"⟩
abbrev cX1_othersAreGood : ByteArray := prog_1_method_25_code
def yX1_othersAreGood : MethodName := ⟨RX1, "othersAreGood", "(II)Z"⟩
abbrev cX1_byteOfOthers : ByteArray := prog_1_method_26_code
def yX1_byteOfOthers : MethodName := ⟨RX1, "byteOfOthers", "(III)I"⟩
abbrev cX1_readRowByte : ByteArray := prog_1_method_27_code
def yX1_readRowByte : MethodName := ⟨RX1, "readRowByte", "(II)I"⟩
abbrev cX1_readableRowsWithContents : ByteArray := prog_1_method_28_code
def yX1_readableRowsWithContents : MethodName := ⟨RX1, "readableRowsWithContents", "()I"⟩
abbrev cX1_nextRow : ByteArray := prog_1_method_29_code
def yX1_nextRow : MethodName := ⟨RX1, "nextRow", "()I"⟩
abbrev cX1_isFree : ByteArray := prog_1_method_30_code
def yX1_isFree : MethodName := ⟨RX1, "isFree", "(I)Z"⟩
abbrev cX1_writeRow : ByteArray := prog_1_method_31_code
def yX1_writeRow : MethodName := ⟨RX1, "writeRow", "(III)V"⟩
abbrev cX1_makeFromOthers : ByteArray := prog_1_method_32_code
def yX1_makeFromOthers : MethodName := ⟨RX1, "makeFromOthers", "(II)V"⟩
abbrev cX1_mend : ByteArray := prog_1_method_33_code
def yX1_mend : MethodName := ⟨RX1, "mend", "(II)V"⟩
abbrev cX1_dropInStripe : ByteArray := prog_1_method_34_code
def yX1_dropInStripe : MethodName := ⟨RX1, "dropInStripe", "(II)Z"⟩
abbrev cX1_dropRow : ByteArray := prog_1_method_35_code
def yX1_dropRow : MethodName := ⟨RX1, "dropRow", "(II)Z"⟩
abbrev cX1_shut : ByteArray := prog_1_method_36_code
def yX1_shut : MethodName := ⟨RX1, "shut", "()V"⟩
def RX2 : String := "ThreeFilesModel"
def TX2 : u_T := fun k => match k with
  | 0 => ("ThreeFilesModel", "thrown", "I", false)
  | 1 => ("ThreeFilesModel", "pieces", "I", true)
  | 2 => ("ThreeFilesModel", "bytes", "[I", true)
  | 3 => ("ThreeFilesModel", "sizes", "[I", true)
  | 4 => ("ThreeFilesModel", "oldBytes", "[I", true)
  | 5 => ("ThreeFilesModel", "oldSizes", "[I", true)
  | 6 => ("ThreeFilesModel", "wasClosed", "Z", false)
  | 7 => ("ThreeFilesModel", "closed", "Z", false)
  | 8 => ("ThreeFilesModel", "fed", "I", false)
  | 9 => ("ThreeFilesModel", "feeds", "[I", true)
  | 10 => ("ThreeFilesModel", "made", "[I", true)
  | 11 => ("ThreeFilesModel", "mended", "I", false)
  | _ => ("ThreeFilesModel", "scrubbed", "I", false)
def tyX2 : Nat → FieldType := fun k => match k with
  | 0 => .int
  | 1 => .int
  | 2 => .array .int
  | 3 => .array .int
  | 4 => .array .int
  | 5 => .array .int
  | 6 => .boolean
  | 7 => .boolean
  | 8 => .int
  | 9 => .array .int
  | 10 => .array .int
  | 11 => .int
  | _ => .int
abbrev wsX20 : List Cond := u_ws RX2 TX2 13
theorem nmX2 : ∀ a, a < 13 → ∀ b, b < 13 → a ≠ b → (TX2 a).2.1 ≠ (TX2 b).2.1 := by decide +kernel
theorem tyX2_ok : ∀ k, k < 13 → parseFieldDescriptor (TX2 k).2.2.1 = some (tyX2 k) := by decide +kernel
abbrev cX2_init : ByteArray := prog_4_method_1_code
def yX2_init : MethodName := ⟨RX2, "<init>", "(I)V"⟩
abbrev cX2_thrown : ByteArray := prog_4_method_2_code
def yX2_thrown : MethodName := ⟨RX2, "thrown", "()I"⟩
abbrev cX2_in : ByteArray := prog_4_method_3_code
def yX2_in : MethodName := ⟨RX2, "in", "(III)Z"⟩
abbrev cX2_stripes : ByteArray := prog_4_method_4_code
def yX2_stripes : MethodName := ⟨RX2, "stripes", "()I"⟩
abbrev cX2_turned : ByteArray := prog_4_method_5_code
def yX2_turned : MethodName := ⟨RX2, "turned", "(II)I"⟩
abbrev cX2_isGood : ByteArray := prog_4_method_6_code
def yX2_isGood : MethodName := ⟨RX2, "isGood", "(II)Z"⟩
abbrev cX2_othersGood : ByteArray := prog_4_method_7_code
def yX2_othersGood : MethodName := ⟨RX2, "othersGood", "(II)Z"⟩
abbrev cX2_finish : ByteArray := prog_4_method_8_code
def yX2_finish : MethodName := ⟨RX2, "finish", "(II)V"⟩
abbrev cX2_makeByOthers : ByteArray := prog_4_method_9_code
def yX2_makeByOthers : MethodName := ⟨RX2, "makeByOthers", "(II)V"⟩
abbrev cX2_write : ByteArray := prog_4_method_10_code
def yX2_write : MethodName := ⟨RX2, "write", "(II)V"⟩
abbrev cX2_writePlain : ByteArray := prog_4_method_11_code
def yX2_writePlain : MethodName := ⟨RX2, "writePlain", "(III)V"⟩
abbrev cX2_writeSum : ByteArray := prog_4_method_12_code
def yX2_writeSum : MethodName := ⟨RX2, "writeSum", "(I)V"⟩
abbrev cX2_read : ByteArray := prog_4_method_13_code
def yX2_read : MethodName := ⟨RX2, "read", "(II)Z"⟩
abbrev cX2_fileOf : ByteArray := prog_4_method_14_code
def yX2_fileOf : MethodName := ⟨RX2, "fileOf", "(I)I"⟩
abbrev cX2_mend : ByteArray := prog_4_method_15_code
def yX2_mend : MethodName := ⟨RX2, "mend", "(II)Z"⟩
abbrev cX2_feed : ByteArray := prog_4_method_16_code
def yX2_feed : MethodName := ⟨RX2, "feed", "(I)Z"⟩
abbrev cX2_writeRow : ByteArray := prog_4_method_17_code
def yX2_writeRow : MethodName := ⟨RX2, "writeRow", "(II)V"⟩
abbrev cX2_row : ByteArray := prog_4_method_18_code
def yX2_row : MethodName := ⟨RX2, "row", "(I)I"⟩
abbrev cX2_find : ByteArray := prog_4_method_19_code
def yX2_find : MethodName := ⟨RX2, "find", "(II)I"⟩
abbrev cX2_rows : ByteArray := prog_4_method_20_code
def yX2_rows : MethodName := ⟨RX2, "rows", "(I)I"⟩
abbrev cX2_drop : ByteArray := prog_4_method_21_code
def yX2_drop : MethodName := ⟨RX2, "drop", "(I)Z"⟩
abbrev cX2_close : ByteArray := prog_4_method_22_code
def yX2_close : MethodName := ⟨RX2, "close", "()V"⟩
abbrev cX2_crash : ByteArray := prog_4_method_23_code
def yX2_crash : MethodName := ⟨RX2, "crash", "(II)Z"⟩
abbrev cX2_lose : ByteArray := prog_4_method_24_code
def yX2_lose : MethodName := ⟨RX2, "lose", "(I)Z"⟩
abbrev cX2_poke : ByteArray := prog_4_method_25_code
def yX2_poke : MethodName := ⟨RX2, "poke", "(III)Z"⟩
abbrev cX2_reopen : ByteArray := prog_4_method_26_code
def yX2_reopen : MethodName := ⟨RX2, "reopen", "()I"⟩
abbrev cX2_scrub : ByteArray := prog_4_method_27_code
def yX2_scrub : MethodName := ⟨RX2, "scrub", "(I)I"⟩
abbrev cX2_mended : ByteArray := prog_4_method_28_code
def yX2_mended : MethodName := ⟨RX2, "mended", "()I"⟩
abbrev cX2_badAt : ByteArray := prog_4_method_29_code
def yX2_badAt : MethodName := ⟨RX2, "badAt", "()I"⟩
abbrev cX2_byteAt : ByteArray := prog_4_method_30_code
def yX2_byteAt : MethodName := ⟨RX2, "byteAt", "(III)I"⟩
abbrev cX2_same : ByteArray := prog_4_method_31_code
def yX2_same : MethodName := ⟨RX2, "same", "(I)Z"⟩
abbrev cX2_odd : ByteArray := prog_4_method_32_code
def yX2_odd : MethodName := ⟨RX2, "odd", "(I)I"⟩
abbrev cX2_size : ByteArray := prog_4_method_33_code
def yX2_size : MethodName := ⟨RX2, "size", "(I)I"⟩
def RJx00060 : String := "java/lang/ArrayIndexOutOfBoundsException"
def TJx00060 : u_T := fun k => match k with
  | 0 => ("java/lang/Throwable", "cause", "Ljava/lang/Throwable;", false)
  | 1 => ("java/lang/Throwable", "stackTrace", "[Ljava/lang/StackTraceElement;", false)
  | 2 => ("java/lang/Throwable", "suppressedExceptions", "Ljava/util/List;", false)
  | 3 => ("java/lang/Throwable", "detailMessage", "Ljava/lang/String;", false)
  | 4 => ("java/lang/Throwable", "backtrace", "Ljava/lang/Object;", false)
  | _ => ("java/lang/Throwable", "depth", "I", false)
def tyJx00060 : Nat → FieldType := fun k => match k with
  | 0 => .object "java/lang/Throwable"
  | 1 => .array (.object "java/lang/StackTraceElement")
  | 2 => .object "java/util/List"
  | 3 => .object "java/lang/String"
  | 4 => .object "java/lang/Object"
  | _ => .int
abbrev wsJx000600 : List Cond := u_ws RJx00060 TJx00060 6
theorem nmJx00060 : ∀ a, a < 6 → ∀ b, b < 6 → a ≠ b → (TJx00060 a).2.1 ≠ (TJx00060 b).2.1 := by decide +kernel
theorem tyJx00060_ok : ∀ k, k < 6 → parseFieldDescriptor (TJx00060 k).2.2.1 = some (tyJx00060 k) := by decide +kernel
abbrev cJx00060_init_a7421 : ByteArray := prog_5_method_2_code
def yJx00060_init_a7421 : MethodName := ⟨RJx00060, "<init>", "(Ljava/lang/String;)V"⟩
def RJ9 : String := "java/lang/Math"
def TJ9 : u_T := fun k => match k with
  | _ => ("", "", "", false)
def tyJ9 : Nat → FieldType := fun k => match k with
  | _ => .int
abbrev wsJ90 : List Cond := u_ws RJ9 TJ9 0
theorem nmJ9 : ∀ a, a < 0 → ∀ b, b < 0 → a ≠ b → (TJ9 a).2.1 ≠ (TJ9 b).2.1 := by decide +kernel
theorem tyJ9_ok : ∀ k, k < 0 → parseFieldDescriptor (TJ9 k).2.2.1 = some (tyJ9 k) := by decide +kernel
abbrev cJ9_max_7cf53 : ByteArray := prog_8_method_65_code
def yJ9_max_7cf53 : MethodName := ⟨RJ9, "max", "(II)I"⟩
abbrev cJ9_min_7cf53 : ByteArray := prog_8_method_69_code
def yJ9_min_7cf53 : MethodName := ⟨RJ9, "min", "(II)I"⟩
def RJ0 : String := "java/lang/String"
def TJ0 : u_T := fun k => match k with
  | _ => ("", "", "", false)
def tyJ0 : Nat → FieldType := fun k => match k with
  | _ => .int
abbrev wsJ00 : List Cond := u_ws RJ0 TJ0 0
theorem nmJ0 : ∀ a, a < 0 → ∀ b, b < 0 → a ≠ b → (TJ0 a).2.1 ≠ (TJ0 b).2.1 := by decide +kernel
theorem tyJ0_ok : ∀ k, k < 0 → parseFieldDescriptor (TJ0 k).2.2.1 = some (tyJ0 k) := by decide +kernel
def RL : String := "ThreeFilesLaw"
abbrev cL_cell : ByteArray := method_2_code
def yL_cell : MethodName := ⟨RL, "cell", "([II)I"⟩
abbrev cL_byteAt : ByteArray := method_3_code
def yL_byteAt : MethodName := ⟨RL, "byteAt", "(LThreeFiles;III[J)I"⟩
abbrev cL_law : ByteArray := code
def yL_law : MethodName := ⟨RL, "law", "([I)Z"⟩
def wsX0_init : List Cond := .code yX0_init cX0_init 3 none :: ([.methodLink RX0 3 objectInit, .instanceMethod objectInit, .code objectInit ⟨#[0xb1]⟩ 1 none, .fieldLink RX0 9 "ThreeFiles$StoredFile" "number" "I", .arrayClass .int, .fieldLink RX0 15 "ThreeFiles$StoredFile" "bytes" "[I", .fieldLink RX0 19 "ThreeFiles$StoredFile" "remembered" "[I"] ++ wsX00)
def wsX0_length : List Cond := .code yX0_length cX0_length 1 (some .int) :: ([.fieldLink RX0 22 "ThreeFiles$StoredFile" "length" "I"] ++ wsX00)
def wsX0_has : List Cond := .code yX0_has cX0_has 2 (some .boolean) :: ([.fieldLink RX0 22 "ThreeFiles$StoredFile" "length" "I"] ++ wsX00)
def wsX0_get : List Cond := .code yX0_get cX0_get 2 (some .int) :: ([.fieldLink RX0 22 "ThreeFiles$StoredFile" "length" "I", .fieldLink RX0 15 "ThreeFiles$StoredFile" "bytes" "[I"] ++ wsX00)
def wsX0_set : List Cond := .code yX0_set cX0_set 3 none :: ([.fieldLink RX0 15 "ThreeFiles$StoredFile" "bytes" "[I", .methodLink RX0 25 yX0_has, .instanceMethod yX0_has, .selects RX0 yX0_has yX0_has, .initialized RX0, .code yX0_has cX0_has 2 (some .boolean), .fieldLink RX0 22 "ThreeFiles$StoredFile" "length" "I"] ++ wsX00)
def wsX0_setLength : List Cond := .code yX0_setLength cX0_setLength 4 none :: ([.fieldLink RX0 15 "ThreeFiles$StoredFile" "bytes" "[I", .methodLink RX0 29 Lib.Math.min.name, .static Lib.Math.min.name, .initialized "java/lang/Math", .code Lib.Math.min.name Lib.Math.min.code 2 (some .int), .methodLink RX0 35 Lib.Math.max.name, .static Lib.Math.max.name, .code Lib.Math.max.name Lib.Math.max.code 2 (some .int), .fieldLink RX0 22 "ThreeFiles$StoredFile" "length" "I"] ++ wsX00)
def wsX0_reach : List Cond := .code yX0_reach cX0_reach 2 none :: ([.fieldLink RX0 22 "ThreeFiles$StoredFile" "length" "I", .methodLink RX0 38 yX0_setLength, .instanceMethod yX0_setLength, .selects RX0 yX0_setLength yX0_setLength, .initialized RX0, .code yX0_setLength cX0_setLength 4 none, .fieldLink RX0 15 "ThreeFiles$StoredFile" "bytes" "[I", .methodLink RX0 29 Lib.Math.min.name, .static Lib.Math.min.name, .initialized "java/lang/Math", .code Lib.Math.min.name Lib.Math.min.code 2 (some .int), .methodLink RX0 35 Lib.Math.max.name, .static Lib.Math.max.name, .code Lib.Math.max.name Lib.Math.max.code 2 (some .int)] ++ wsX00)
def wsX0_lowByte : List Cond := .code yX0_lowByte cX0_lowByte 1 (some .int) :: ([])
def wsX0_sum : List Cond := .code yX0_sum cX0_sum 4 (some .int) :: ([.constant RX0 60 (-1640531535), .fieldLink RX0 9 "ThreeFiles$StoredFile" "number" "I", .constant RX0 61 (374761393), .methodLink RX0 42 yX0_get, .instanceMethod yX0_get, .selects RX0 yX0_get yX0_get, .initialized RX0, .code yX0_get cX0_get 2 (some .int), .fieldLink RX0 22 "ThreeFiles$StoredFile" "length" "I", .fieldLink RX0 15 "ThreeFiles$StoredFile" "bytes" "[I"] ++ wsX00)
def wsX0_hasSum : List Cond := .code yX0_hasSum cX0_hasSum 5 (some .boolean) :: ([.methodLink RX0 42 yX0_get, .instanceMethod yX0_get, .selects RX0 yX0_get yX0_get, .initialized RX0, .code yX0_get cX0_get 2 (some .int), .fieldLink RX0 22 "ThreeFiles$StoredFile" "length" "I", .fieldLink RX0 15 "ThreeFiles$StoredFile" "bytes" "[I", .methodLink RX0 46 yX0_lowByte, .static yX0_lowByte, .code yX0_lowByte cX0_lowByte 1 (some .int)] ++ wsX00)
def wsX0_isGood_r1 : List Cond := [Cond.methodLink RX0 25 yX0_has, Cond.instanceMethod yX0_has, Cond.selects RX0 yX0_has yX0_has, Cond.initialized RX0, Cond.code yX0_has cX0_has 2 (some .boolean), Cond.fieldLink RX0 22 "ThreeFiles$StoredFile" "length" "I", Cond.methodLink RX0 42 yX0_get, Cond.instanceMethod yX0_get, Cond.selects RX0 yX0_get yX0_get, Cond.code yX0_get cX0_get 2 (some .int), Cond.fieldLink RX0 15 "ThreeFiles$StoredFile" "bytes" "[I", Cond.methodLink RX0 46 yX0_lowByte, Cond.static yX0_lowByte, Cond.code yX0_lowByte cX0_lowByte 1 (some .int), Cond.methodLink RX0 49 yX0_sum, Cond.instanceMethod yX0_sum, Cond.selects RX0 yX0_sum yX0_sum, Cond.code yX0_sum cX0_sum 4 (some .int), Cond.constant RX0 60 (-1640531535), Cond.fieldLink RX0 9 "ThreeFiles$StoredFile" "number" "I", Cond.constant RX0 61 (374761393), Cond.methodLink RX0 52 yX0_hasSum, Cond.instanceMethod yX0_hasSum, Cond.selects RX0 yX0_hasSum yX0_hasSum]
def wsX0_isGood_r2 : List Cond := [Cond.code yX0_hasSum cX0_hasSum 5 (some .boolean)]
def wsX0_isGood : List Cond := .code yX0_isGood cX0_isGood 3 (some .boolean) :: ((wsX0_isGood_r1 ++ wsX0_isGood_r2) ++ wsX00)
def wsX0_seal_r1 : List Cond := [Cond.methodLink RX0 46 yX0_lowByte, Cond.static yX0_lowByte, Cond.initialized RX0, Cond.code yX0_lowByte cX0_lowByte 1 (some .int), Cond.methodLink RX0 56 yX0_set, Cond.instanceMethod yX0_set, Cond.selects RX0 yX0_set yX0_set, Cond.code yX0_set cX0_set 3 none, Cond.fieldLink RX0 15 "ThreeFiles$StoredFile" "bytes" "[I", Cond.methodLink RX0 25 yX0_has, Cond.instanceMethod yX0_has, Cond.selects RX0 yX0_has yX0_has, Cond.code yX0_has cX0_has 2 (some .boolean), Cond.fieldLink RX0 22 "ThreeFiles$StoredFile" "length" "I", Cond.methodLink RX0 49 yX0_sum, Cond.instanceMethod yX0_sum, Cond.selects RX0 yX0_sum yX0_sum, Cond.code yX0_sum cX0_sum 4 (some .int), Cond.constant RX0 60 (-1640531535), Cond.fieldLink RX0 9 "ThreeFiles$StoredFile" "number" "I", Cond.constant RX0 61 (374761393), Cond.methodLink RX0 42 yX0_get, Cond.instanceMethod yX0_get, Cond.selects RX0 yX0_get yX0_get]
def wsX0_seal_r2 : List Cond := [Cond.code yX0_get cX0_get 2 (some .int)]
def wsX0_seal : List Cond := .code yX0_seal cX0_seal 5 none :: ((wsX0_seal_r1 ++ wsX0_seal_r2) ++ wsX00)
def wsX0_remember : List Cond := .code yX0_remember cX0_remember 2 none :: ([.fieldLink RX0 15 "ThreeFiles$StoredFile" "bytes" "[I", .fieldLink RX0 19 "ThreeFiles$StoredFile" "remembered" "[I", .fieldLink RX0 22 "ThreeFiles$StoredFile" "length" "I", .fieldLink RX0 62 "ThreeFiles$StoredFile" "rememberedLength" "I"] ++ wsX00)
def wsX0_isAsRemembered : List Cond := .code yX0_isAsRemembered cX0_isAsRemembered 2 (some .boolean) :: ([.fieldLink RX0 22 "ThreeFiles$StoredFile" "length" "I", .fieldLink RX0 62 "ThreeFiles$StoredFile" "rememberedLength" "I", .fieldLink RX0 15 "ThreeFiles$StoredFile" "bytes" "[I", .fieldLink RX0 19 "ThreeFiles$StoredFile" "remembered" "[I"] ++ wsX00)
def wsX1_init : List Cond := .code yX1_init cX1_init 3 none :: ([.methodLink RX1 1 objectInit, .instanceMethod objectInit, .code objectInit ⟨#[0xb1]⟩ 1 none, .fieldLink RX1 9 "ThreeFiles" "pieces" "I", .classLink RX1 13 RX0, .fieldLink RX1 15 "ThreeFiles" "files" "[LThreeFiles$StoredFile;", .instantiable RX0 5, .initialized RX0, .arrayClass .int, .fieldLink RX1 22 "ThreeFiles" "fed" "[I", .instanceMethod yX0_init, .code yX0_init cX0_init 3 none, .methodLink RX0 3 objectInit, .fieldLink RX0 9 "ThreeFiles$StoredFile" "number" "I", .fieldLink RX0 15 "ThreeFiles$StoredFile" "bytes" "[I", .fieldLink RX0 19 "ThreeFiles$StoredFile" "remembered" "[I"] ++ wsX10 ++ wsX00)
def wsX1_feed : List Cond := .code yX1_feed cX1_feed 2 (some .boolean) :: ([.fieldLink RX1 26 "ThreeFiles" "fedCount" "I", .fieldLink RX1 22 "ThreeFiles" "fed" "[I"] ++ wsX10)
def wsX1_isYear : List Cond := .code yX1_isYear cX1_isYear 1 (some .boolean) :: ([])
def wsX1_stripeCount : List Cond := .code yX1_stripeCount cX1_stripeCount 3 (some .int) :: ([.fieldLink RX1 15 "ThreeFiles" "files" "[LThreeFiles$StoredFile;", .methodLink RX1 125 Lib.Math.max.name, .static Lib.Math.max.name, .initialized "java/lang/Math", .code Lib.Math.max.name Lib.Math.max.code 2 (some .int), .instanceMethod yX0_length, .initialized RX0, .selects RX0 yX0_length yX0_length, .code yX0_length cX0_length 1 (some .int), .fieldLink RX0 22 "ThreeFiles$StoredFile" "length" "I"] ++ wsX10 ++ wsX00)
def wsX1_goodPieces_r1 : List Cond := [Cond.fieldLink RX1 15 "ThreeFiles" "files" "[LThreeFiles$StoredFile;", Cond.instanceMethod yX0_isGood, Cond.initialized RX0, Cond.selects RX0 yX0_isGood yX0_isGood, Cond.code yX0_isGood cX0_isGood 3 (some .boolean), Cond.methodLink RX0 25 yX0_has, Cond.instanceMethod yX0_has, Cond.selects RX0 yX0_has yX0_has, Cond.code yX0_has cX0_has 2 (some .boolean), Cond.fieldLink RX0 22 "ThreeFiles$StoredFile" "length" "I", Cond.methodLink RX0 42 yX0_get, Cond.instanceMethod yX0_get, Cond.selects RX0 yX0_get yX0_get, Cond.code yX0_get cX0_get 2 (some .int), Cond.fieldLink RX0 15 "ThreeFiles$StoredFile" "bytes" "[I", Cond.methodLink RX0 46 yX0_lowByte, Cond.static yX0_lowByte, Cond.code yX0_lowByte cX0_lowByte 1 (some .int), Cond.methodLink RX0 49 yX0_sum, Cond.instanceMethod yX0_sum, Cond.selects RX0 yX0_sum yX0_sum, Cond.code yX0_sum cX0_sum 4 (some .int), Cond.constant RX0 60 (-1640531535), Cond.fieldLink RX0 9 "ThreeFiles$StoredFile" "number" "I"]
def wsX1_goodPieces_r2 : List Cond := [Cond.constant RX0 61 (374761393), Cond.methodLink RX0 52 yX0_hasSum, Cond.instanceMethod yX0_hasSum, Cond.selects RX0 yX0_hasSum yX0_hasSum, Cond.code yX0_hasSum cX0_hasSum 5 (some .boolean)]
def wsX1_goodPieces : List Cond := .code yX1_goodPieces cX1_goodPieces 4 (some .int) :: ((wsX1_goodPieces_r1 ++ wsX1_goodPieces_r2) ++ wsX10 ++ wsX00)
def wsX1_fileOfRow : List Cond := .code yX1_fileOfRow cX1_fileOfRow 1 (some .int) :: ([])
def wsX1_othersAreGood_r1 : List Cond := [Cond.fieldLink RX1 15 "ThreeFiles" "files" "[LThreeFiles$StoredFile;", Cond.instanceMethod yX0_isGood, Cond.initialized RX0, Cond.selects RX0 yX0_isGood yX0_isGood, Cond.code yX0_isGood cX0_isGood 3 (some .boolean), Cond.methodLink RX0 25 yX0_has, Cond.instanceMethod yX0_has, Cond.selects RX0 yX0_has yX0_has, Cond.code yX0_has cX0_has 2 (some .boolean), Cond.fieldLink RX0 22 "ThreeFiles$StoredFile" "length" "I", Cond.methodLink RX0 42 yX0_get, Cond.instanceMethod yX0_get, Cond.selects RX0 yX0_get yX0_get, Cond.code yX0_get cX0_get 2 (some .int), Cond.fieldLink RX0 15 "ThreeFiles$StoredFile" "bytes" "[I", Cond.methodLink RX0 46 yX0_lowByte, Cond.static yX0_lowByte, Cond.code yX0_lowByte cX0_lowByte 1 (some .int), Cond.methodLink RX0 49 yX0_sum, Cond.instanceMethod yX0_sum, Cond.selects RX0 yX0_sum yX0_sum, Cond.code yX0_sum cX0_sum 4 (some .int), Cond.constant RX0 60 (-1640531535), Cond.fieldLink RX0 9 "ThreeFiles$StoredFile" "number" "I"]
def wsX1_othersAreGood_r2 : List Cond := [Cond.constant RX0 61 (374761393), Cond.methodLink RX0 52 yX0_hasSum, Cond.instanceMethod yX0_hasSum, Cond.selects RX0 yX0_hasSum yX0_hasSum, Cond.code yX0_hasSum cX0_hasSum 5 (some .boolean)]
def wsX1_othersAreGood : List Cond := .code yX1_othersAreGood cX1_othersAreGood 3 (some .boolean) :: ((wsX1_othersAreGood_r1 ++ wsX1_othersAreGood_r2) ++ wsX10 ++ wsX00)
def wsX1_byteOfOthers : List Cond := .code yX1_byteOfOthers cX1_byteOfOthers 5 (some .int) :: ([.fieldLink RX1 15 "ThreeFiles" "files" "[LThreeFiles$StoredFile;", .instanceMethod yX0_get, .initialized RX0, .selects RX0 yX0_get yX0_get, .code yX0_get cX0_get 2 (some .int), .fieldLink RX0 22 "ThreeFiles$StoredFile" "length" "I", .fieldLink RX0 15 "ThreeFiles$StoredFile" "bytes" "[I"] ++ wsX10 ++ wsX00)
def wsX1_readRowByte_r1 : List Cond := [Cond.fieldLink RX1 15 "ThreeFiles" "files" "[LThreeFiles$StoredFile;", Cond.methodLink RX1 56 yX1_stripeCount, Cond.instanceMethod yX1_stripeCount, Cond.selects RX1 yX1_stripeCount yX1_stripeCount, Cond.initialized RX1, Cond.code yX1_stripeCount cX1_stripeCount 3 (some .int), Cond.methodLink RX1 125 Lib.Math.max.name, Cond.static Lib.Math.max.name, Cond.initialized "java/lang/Math", Cond.code Lib.Math.max.name Lib.Math.max.code 2 (some .int), Cond.instanceMethod yX0_length, Cond.initialized RX0, Cond.selects RX0 yX0_length yX0_length, Cond.code yX0_length cX0_length 1 (some .int), Cond.fieldLink RX0 22 "ThreeFiles$StoredFile" "length" "I", Cond.methodLink RX1 131 yX1_fileOfRow, Cond.static yX1_fileOfRow, Cond.code yX1_fileOfRow cX1_fileOfRow 1 (some .int), Cond.instanceMethod yX0_isGood, Cond.selects RX0 yX0_isGood yX0_isGood, Cond.code yX0_isGood cX0_isGood 3 (some .boolean), Cond.methodLink RX0 25 yX0_has, Cond.instanceMethod yX0_has, Cond.selects RX0 yX0_has yX0_has]
def wsX1_readRowByte_r2 : List Cond := [Cond.code yX0_has cX0_has 2 (some .boolean), Cond.methodLink RX0 42 yX0_get, Cond.instanceMethod yX0_get, Cond.selects RX0 yX0_get yX0_get, Cond.code yX0_get cX0_get 2 (some .int), Cond.fieldLink RX0 15 "ThreeFiles$StoredFile" "bytes" "[I", Cond.methodLink RX0 46 yX0_lowByte, Cond.static yX0_lowByte, Cond.code yX0_lowByte cX0_lowByte 1 (some .int), Cond.methodLink RX0 49 yX0_sum, Cond.instanceMethod yX0_sum, Cond.selects RX0 yX0_sum yX0_sum, Cond.code yX0_sum cX0_sum 4 (some .int), Cond.constant RX0 60 (-1640531535), Cond.fieldLink RX0 9 "ThreeFiles$StoredFile" "number" "I", Cond.constant RX0 61 (374761393), Cond.methodLink RX0 52 yX0_hasSum, Cond.instanceMethod yX0_hasSum, Cond.selects RX0 yX0_hasSum yX0_hasSum, Cond.code yX0_hasSum cX0_hasSum 5 (some .boolean), Cond.methodLink RX1 134 yX1_othersAreGood, Cond.instanceMethod yX1_othersAreGood, Cond.selects RX1 yX1_othersAreGood yX1_othersAreGood, Cond.code yX1_othersAreGood cX1_othersAreGood 3 (some .boolean)]
def wsX1_readRowByte_r3 : List Cond := [Cond.methodLink RX1 137 yX1_byteOfOthers, Cond.instanceMethod yX1_byteOfOthers, Cond.selects RX1 yX1_byteOfOthers yX1_byteOfOthers, Cond.code yX1_byteOfOthers cX1_byteOfOthers 5 (some .int)]
def wsX1_readRowByte : List Cond := .code yX1_readRowByte cX1_readRowByte 5 (some .int) :: ((wsX1_readRowByte_r1 ++ (wsX1_readRowByte_r2 ++ wsX1_readRowByte_r3)) ++ wsX10 ++ wsX00)
def wsX1_isFree_r1 : List Cond := [Cond.methodLink RX1 108 yX1_goodPieces, Cond.instanceMethod yX1_goodPieces, Cond.selects RX1 yX1_goodPieces yX1_goodPieces, Cond.initialized RX1, Cond.code yX1_goodPieces cX1_goodPieces 4 (some .int), Cond.fieldLink RX1 15 "ThreeFiles" "files" "[LThreeFiles$StoredFile;", Cond.instanceMethod yX0_isGood, Cond.initialized RX0, Cond.selects RX0 yX0_isGood yX0_isGood, Cond.code yX0_isGood cX0_isGood 3 (some .boolean), Cond.methodLink RX0 25 yX0_has, Cond.instanceMethod yX0_has, Cond.selects RX0 yX0_has yX0_has, Cond.code yX0_has cX0_has 2 (some .boolean), Cond.fieldLink RX0 22 "ThreeFiles$StoredFile" "length" "I", Cond.methodLink RX0 42 yX0_get, Cond.instanceMethod yX0_get, Cond.selects RX0 yX0_get yX0_get, Cond.code yX0_get cX0_get 2 (some .int), Cond.fieldLink RX0 15 "ThreeFiles$StoredFile" "bytes" "[I", Cond.methodLink RX0 46 yX0_lowByte, Cond.static yX0_lowByte, Cond.code yX0_lowByte cX0_lowByte 1 (some .int), Cond.methodLink RX0 49 yX0_sum]
def wsX1_isFree_r2 : List Cond := [Cond.instanceMethod yX0_sum, Cond.selects RX0 yX0_sum yX0_sum, Cond.code yX0_sum cX0_sum 4 (some .int), Cond.constant RX0 60 (-1640531535), Cond.fieldLink RX0 9 "ThreeFiles$StoredFile" "number" "I", Cond.constant RX0 61 (374761393), Cond.methodLink RX0 52 yX0_hasSum, Cond.instanceMethod yX0_hasSum, Cond.selects RX0 yX0_hasSum yX0_hasSum, Cond.code yX0_hasSum cX0_hasSum 5 (some .boolean), Cond.methodLink RX1 52 yX1_readRowByte, Cond.instanceMethod yX1_readRowByte, Cond.selects RX1 yX1_readRowByte yX1_readRowByte, Cond.code yX1_readRowByte cX1_readRowByte 5 (some .int), Cond.methodLink RX1 56 yX1_stripeCount, Cond.instanceMethod yX1_stripeCount, Cond.selects RX1 yX1_stripeCount yX1_stripeCount, Cond.code yX1_stripeCount cX1_stripeCount 3 (some .int), Cond.methodLink RX1 125 Lib.Math.max.name, Cond.static Lib.Math.max.name, Cond.initialized "java/lang/Math", Cond.code Lib.Math.max.name Lib.Math.max.code 2 (some .int), Cond.instanceMethod yX0_length, Cond.selects RX0 yX0_length yX0_length]
def wsX1_isFree_r3 : List Cond := [Cond.code yX0_length cX0_length 1 (some .int), Cond.methodLink RX1 131 yX1_fileOfRow, Cond.static yX1_fileOfRow, Cond.code yX1_fileOfRow cX1_fileOfRow 1 (some .int), Cond.methodLink RX1 134 yX1_othersAreGood, Cond.instanceMethod yX1_othersAreGood, Cond.selects RX1 yX1_othersAreGood yX1_othersAreGood, Cond.code yX1_othersAreGood cX1_othersAreGood 3 (some .boolean), Cond.methodLink RX1 137 yX1_byteOfOthers, Cond.instanceMethod yX1_byteOfOthers, Cond.selects RX1 yX1_byteOfOthers yX1_byteOfOthers, Cond.code yX1_byteOfOthers cX1_byteOfOthers 5 (some .int)]
def wsX1_isFree : List Cond := .code yX1_isFree cX1_isFree 2 (some .boolean) :: ((wsX1_isFree_r1 ++ (wsX1_isFree_r2 ++ wsX1_isFree_r3)) ++ wsX10 ++ wsX00)
def wsX1_nextRow_r1 : List Cond := [Cond.methodLink RX1 56 yX1_stripeCount, Cond.instanceMethod yX1_stripeCount, Cond.selects RX1 yX1_stripeCount yX1_stripeCount, Cond.initialized RX1, Cond.code yX1_stripeCount cX1_stripeCount 3 (some .int), Cond.fieldLink RX1 15 "ThreeFiles" "files" "[LThreeFiles$StoredFile;", Cond.methodLink RX1 125 Lib.Math.max.name, Cond.static Lib.Math.max.name, Cond.initialized "java/lang/Math", Cond.code Lib.Math.max.name Lib.Math.max.code 2 (some .int), Cond.instanceMethod yX0_length, Cond.initialized RX0, Cond.selects RX0 yX0_length yX0_length, Cond.code yX0_length cX0_length 1 (some .int), Cond.fieldLink RX0 22 "ThreeFiles$StoredFile" "length" "I", Cond.methodLink RX1 141 yX1_isFree, Cond.instanceMethod yX1_isFree, Cond.selects RX1 yX1_isFree yX1_isFree, Cond.code yX1_isFree cX1_isFree 2 (some .boolean), Cond.methodLink RX1 108 yX1_goodPieces, Cond.instanceMethod yX1_goodPieces, Cond.selects RX1 yX1_goodPieces yX1_goodPieces, Cond.code yX1_goodPieces cX1_goodPieces 4 (some .int), Cond.instanceMethod yX0_isGood]
def wsX1_nextRow_r2 : List Cond := [Cond.selects RX0 yX0_isGood yX0_isGood, Cond.code yX0_isGood cX0_isGood 3 (some .boolean), Cond.methodLink RX0 25 yX0_has, Cond.instanceMethod yX0_has, Cond.selects RX0 yX0_has yX0_has, Cond.code yX0_has cX0_has 2 (some .boolean), Cond.methodLink RX0 42 yX0_get, Cond.instanceMethod yX0_get, Cond.selects RX0 yX0_get yX0_get, Cond.code yX0_get cX0_get 2 (some .int), Cond.fieldLink RX0 15 "ThreeFiles$StoredFile" "bytes" "[I", Cond.methodLink RX0 46 yX0_lowByte, Cond.static yX0_lowByte, Cond.code yX0_lowByte cX0_lowByte 1 (some .int), Cond.methodLink RX0 49 yX0_sum, Cond.instanceMethod yX0_sum, Cond.selects RX0 yX0_sum yX0_sum, Cond.code yX0_sum cX0_sum 4 (some .int), Cond.constant RX0 60 (-1640531535), Cond.fieldLink RX0 9 "ThreeFiles$StoredFile" "number" "I", Cond.constant RX0 61 (374761393), Cond.methodLink RX0 52 yX0_hasSum, Cond.instanceMethod yX0_hasSum, Cond.selects RX0 yX0_hasSum yX0_hasSum]
def wsX1_nextRow_r3 : List Cond := [Cond.code yX0_hasSum cX0_hasSum 5 (some .boolean), Cond.methodLink RX1 52 yX1_readRowByte, Cond.instanceMethod yX1_readRowByte, Cond.selects RX1 yX1_readRowByte yX1_readRowByte, Cond.code yX1_readRowByte cX1_readRowByte 5 (some .int), Cond.methodLink RX1 131 yX1_fileOfRow, Cond.static yX1_fileOfRow, Cond.code yX1_fileOfRow cX1_fileOfRow 1 (some .int), Cond.methodLink RX1 134 yX1_othersAreGood, Cond.instanceMethod yX1_othersAreGood, Cond.selects RX1 yX1_othersAreGood yX1_othersAreGood, Cond.code yX1_othersAreGood cX1_othersAreGood 3 (some .boolean), Cond.methodLink RX1 137 yX1_byteOfOthers, Cond.instanceMethod yX1_byteOfOthers, Cond.selects RX1 yX1_byteOfOthers yX1_byteOfOthers, Cond.code yX1_byteOfOthers cX1_byteOfOthers 5 (some .int)]
def wsX1_nextRow : List Cond := .code yX1_nextRow cX1_nextRow 2 (some .int) :: ((wsX1_nextRow_r1 ++ (wsX1_nextRow_r2 ++ wsX1_nextRow_r3)) ++ wsX10 ++ wsX00)
def wsX1_writeRow_r1 : List Cond := [Cond.fieldLink RX1 15 "ThreeFiles" "files" "[LThreeFiles$StoredFile;", Cond.fieldLink RX1 22 "ThreeFiles" "fed" "[I", Cond.methodLink RX1 131 yX1_fileOfRow, Cond.static yX1_fileOfRow, Cond.initialized RX1, Cond.code yX1_fileOfRow cX1_fileOfRow 1 (some .int), Cond.instanceMethod yX0_reach, Cond.initialized RX0, Cond.selects RX0 yX0_reach yX0_reach, Cond.code yX0_reach cX0_reach 2 none, Cond.fieldLink RX0 22 "ThreeFiles$StoredFile" "length" "I", Cond.methodLink RX0 38 yX0_setLength, Cond.instanceMethod yX0_setLength, Cond.selects RX0 yX0_setLength yX0_setLength, Cond.code yX0_setLength cX0_setLength 4 none, Cond.fieldLink RX0 15 "ThreeFiles$StoredFile" "bytes" "[I", Cond.methodLink RX0 29 Lib.Math.min.name, Cond.static Lib.Math.min.name, Cond.initialized "java/lang/Math", Cond.code Lib.Math.min.name Lib.Math.min.code 2 (some .int), Cond.methodLink RX0 35 Lib.Math.max.name, Cond.static Lib.Math.max.name, Cond.code Lib.Math.max.name Lib.Math.max.code 2 (some .int), Cond.instanceMethod yX0_set]
def wsX1_writeRow_r2 : List Cond := [Cond.selects RX0 yX0_set yX0_set, Cond.code yX0_set cX0_set 3 none, Cond.methodLink RX0 25 yX0_has, Cond.instanceMethod yX0_has, Cond.selects RX0 yX0_has yX0_has, Cond.code yX0_has cX0_has 2 (some .boolean), Cond.instanceMethod yX0_seal, Cond.selects RX0 yX0_seal yX0_seal, Cond.code yX0_seal cX0_seal 5 none, Cond.methodLink RX0 46 yX0_lowByte, Cond.static yX0_lowByte, Cond.code yX0_lowByte cX0_lowByte 1 (some .int), Cond.methodLink RX0 56 yX0_set, Cond.methodLink RX0 49 yX0_sum, Cond.instanceMethod yX0_sum, Cond.selects RX0 yX0_sum yX0_sum, Cond.code yX0_sum cX0_sum 4 (some .int), Cond.constant RX0 60 (-1640531535), Cond.fieldLink RX0 9 "ThreeFiles$StoredFile" "number" "I", Cond.constant RX0 61 (374761393), Cond.methodLink RX0 42 yX0_get, Cond.instanceMethod yX0_get, Cond.selects RX0 yX0_get yX0_get, Cond.code yX0_get cX0_get 2 (some .int)]
def wsX1_writeRow : List Cond := .code yX1_writeRow cX1_writeRow 8 none :: ((wsX1_writeRow_r1 ++ wsX1_writeRow_r2) ++ wsX10 ++ wsX00)
def wsX1_sumFile : List Cond := .code yX1_sumFile cX1_sumFile 1 (some .int) :: ([])
def wsX1_makeFromOthers_r1 : List Cond := [Cond.fieldLink RX1 15 "ThreeFiles" "files" "[LThreeFiles$StoredFile;", Cond.instanceMethod yX0_reach, Cond.initialized RX0, Cond.selects RX0 yX0_reach yX0_reach, Cond.code yX0_reach cX0_reach 2 none, Cond.fieldLink RX0 22 "ThreeFiles$StoredFile" "length" "I", Cond.methodLink RX0 38 yX0_setLength, Cond.instanceMethod yX0_setLength, Cond.selects RX0 yX0_setLength yX0_setLength, Cond.code yX0_setLength cX0_setLength 4 none, Cond.fieldLink RX0 15 "ThreeFiles$StoredFile" "bytes" "[I", Cond.methodLink RX0 29 Lib.Math.min.name, Cond.static Lib.Math.min.name, Cond.initialized "java/lang/Math", Cond.code Lib.Math.min.name Lib.Math.min.code 2 (some .int), Cond.methodLink RX0 35 Lib.Math.max.name, Cond.static Lib.Math.max.name, Cond.code Lib.Math.max.name Lib.Math.max.code 2 (some .int), Cond.methodLink RX1 137 yX1_byteOfOthers, Cond.instanceMethod yX1_byteOfOthers, Cond.selects RX1 yX1_byteOfOthers yX1_byteOfOthers, Cond.initialized RX1, Cond.code yX1_byteOfOthers cX1_byteOfOthers 5 (some .int), Cond.instanceMethod yX0_get]
def wsX1_makeFromOthers_r2 : List Cond := [Cond.selects RX0 yX0_get yX0_get, Cond.code yX0_get cX0_get 2 (some .int), Cond.instanceMethod yX0_set, Cond.selects RX0 yX0_set yX0_set, Cond.code yX0_set cX0_set 3 none, Cond.methodLink RX0 25 yX0_has, Cond.instanceMethod yX0_has, Cond.selects RX0 yX0_has yX0_has, Cond.code yX0_has cX0_has 2 (some .boolean), Cond.instanceMethod yX0_seal, Cond.selects RX0 yX0_seal yX0_seal, Cond.code yX0_seal cX0_seal 5 none, Cond.methodLink RX0 46 yX0_lowByte, Cond.static yX0_lowByte, Cond.code yX0_lowByte cX0_lowByte 1 (some .int), Cond.methodLink RX0 56 yX0_set, Cond.methodLink RX0 49 yX0_sum, Cond.instanceMethod yX0_sum, Cond.selects RX0 yX0_sum yX0_sum, Cond.code yX0_sum cX0_sum 4 (some .int), Cond.constant RX0 60 (-1640531535), Cond.fieldLink RX0 9 "ThreeFiles$StoredFile" "number" "I", Cond.constant RX0 61 (374761393), Cond.methodLink RX0 42 yX0_get]
def wsX1_makeFromOthers : List Cond := .code yX1_makeFromOthers cX1_makeFromOthers 5 none :: ((wsX1_makeFromOthers_r1 ++ wsX1_makeFromOthers_r2) ++ wsX10 ++ wsX00)
def wsX1_row_r1 : List Cond := [Cond.fieldLink RX1 29 "ThreeFiles" "closed" "Z", Cond.fieldLink RX1 26 "ThreeFiles" "fedCount" "I", Cond.fieldLink RX1 9 "ThreeFiles" "pieces" "I", Cond.methodLink RX1 33 yX1_isYear, Cond.static yX1_isYear, Cond.initialized RX1, Cond.code yX1_isYear cX1_isYear 1 (some .boolean), Cond.methodLink RX1 37 yX1_nextRow, Cond.instanceMethod yX1_nextRow, Cond.selects RX1 yX1_nextRow yX1_nextRow, Cond.code yX1_nextRow cX1_nextRow 2 (some .int), Cond.methodLink RX1 56 yX1_stripeCount, Cond.instanceMethod yX1_stripeCount, Cond.selects RX1 yX1_stripeCount yX1_stripeCount, Cond.code yX1_stripeCount cX1_stripeCount 3 (some .int), Cond.fieldLink RX1 15 "ThreeFiles" "files" "[LThreeFiles$StoredFile;", Cond.methodLink RX1 125 Lib.Math.max.name, Cond.static Lib.Math.max.name, Cond.initialized "java/lang/Math", Cond.code Lib.Math.max.name Lib.Math.max.code 2 (some .int), Cond.instanceMethod yX0_length, Cond.initialized RX0, Cond.selects RX0 yX0_length yX0_length, Cond.code yX0_length cX0_length 1 (some .int)]
def wsX1_row_r2 : List Cond := [Cond.fieldLink RX0 22 "ThreeFiles$StoredFile" "length" "I", Cond.methodLink RX1 141 yX1_isFree, Cond.instanceMethod yX1_isFree, Cond.selects RX1 yX1_isFree yX1_isFree, Cond.code yX1_isFree cX1_isFree 2 (some .boolean), Cond.methodLink RX1 108 yX1_goodPieces, Cond.instanceMethod yX1_goodPieces, Cond.selects RX1 yX1_goodPieces yX1_goodPieces, Cond.code yX1_goodPieces cX1_goodPieces 4 (some .int), Cond.instanceMethod yX0_isGood, Cond.selects RX0 yX0_isGood yX0_isGood, Cond.code yX0_isGood cX0_isGood 3 (some .boolean), Cond.methodLink RX0 25 yX0_has, Cond.instanceMethod yX0_has, Cond.selects RX0 yX0_has yX0_has, Cond.code yX0_has cX0_has 2 (some .boolean), Cond.methodLink RX0 42 yX0_get, Cond.instanceMethod yX0_get, Cond.selects RX0 yX0_get yX0_get, Cond.code yX0_get cX0_get 2 (some .int), Cond.fieldLink RX0 15 "ThreeFiles$StoredFile" "bytes" "[I", Cond.methodLink RX0 46 yX0_lowByte, Cond.static yX0_lowByte, Cond.code yX0_lowByte cX0_lowByte 1 (some .int)]
def wsX1_row_r3 : List Cond := [Cond.methodLink RX0 49 yX0_sum, Cond.instanceMethod yX0_sum, Cond.selects RX0 yX0_sum yX0_sum, Cond.code yX0_sum cX0_sum 4 (some .int), Cond.constant RX0 60 (-1640531535), Cond.fieldLink RX0 9 "ThreeFiles$StoredFile" "number" "I", Cond.constant RX0 61 (374761393), Cond.methodLink RX0 52 yX0_hasSum, Cond.instanceMethod yX0_hasSum, Cond.selects RX0 yX0_hasSum yX0_hasSum, Cond.code yX0_hasSum cX0_hasSum 5 (some .boolean), Cond.methodLink RX1 52 yX1_readRowByte, Cond.instanceMethod yX1_readRowByte, Cond.selects RX1 yX1_readRowByte yX1_readRowByte, Cond.code yX1_readRowByte cX1_readRowByte 5 (some .int), Cond.methodLink RX1 131 yX1_fileOfRow, Cond.static yX1_fileOfRow, Cond.code yX1_fileOfRow cX1_fileOfRow 1 (some .int), Cond.methodLink RX1 134 yX1_othersAreGood, Cond.instanceMethod yX1_othersAreGood, Cond.selects RX1 yX1_othersAreGood yX1_othersAreGood, Cond.code yX1_othersAreGood cX1_othersAreGood 3 (some .boolean), Cond.methodLink RX1 137 yX1_byteOfOthers, Cond.instanceMethod yX1_byteOfOthers]
def wsX1_row_r4 : List Cond := [Cond.selects RX1 yX1_byteOfOthers yX1_byteOfOthers, Cond.code yX1_byteOfOthers cX1_byteOfOthers 5 (some .int), Cond.methodLink RX1 41 yX1_writeRow, Cond.instanceMethod yX1_writeRow, Cond.selects RX1 yX1_writeRow yX1_writeRow, Cond.code yX1_writeRow cX1_writeRow 8 none, Cond.fieldLink RX1 22 "ThreeFiles" "fed" "[I", Cond.instanceMethod yX0_reach, Cond.selects RX0 yX0_reach yX0_reach, Cond.code yX0_reach cX0_reach 2 none, Cond.methodLink RX0 38 yX0_setLength, Cond.instanceMethod yX0_setLength, Cond.selects RX0 yX0_setLength yX0_setLength, Cond.code yX0_setLength cX0_setLength 4 none, Cond.methodLink RX0 29 Lib.Math.min.name, Cond.static Lib.Math.min.name, Cond.code Lib.Math.min.name Lib.Math.min.code 2 (some .int), Cond.methodLink RX0 35 Lib.Math.max.name, Cond.instanceMethod yX0_set, Cond.selects RX0 yX0_set yX0_set, Cond.code yX0_set cX0_set 3 none, Cond.instanceMethod yX0_seal, Cond.selects RX0 yX0_seal yX0_seal, Cond.code yX0_seal cX0_seal 5 none]
def wsX1_row_r5 : List Cond := [Cond.methodLink RX0 56 yX0_set, Cond.methodLink RX1 45 yX1_sumFile, Cond.static yX1_sumFile, Cond.code yX1_sumFile cX1_sumFile 1 (some .int), Cond.methodLink RX1 49 yX1_makeFromOthers, Cond.instanceMethod yX1_makeFromOthers, Cond.selects RX1 yX1_makeFromOthers yX1_makeFromOthers, Cond.code yX1_makeFromOthers cX1_makeFromOthers 5 none]
def wsX1_row : List Cond := .code yX1_row cX1_row 4 (some .int) :: ((wsX1_row_r1 ++ (wsX1_row_r2 ++ (wsX1_row_r3 ++ (wsX1_row_r4 ++ wsX1_row_r5)))) ++ wsX10 ++ wsX00)
def wsX1_find_r1 : List Cond := [Cond.methodLink RX1 52 yX1_readRowByte, Cond.instanceMethod yX1_readRowByte, Cond.selects RX1 yX1_readRowByte yX1_readRowByte, Cond.initialized RX1, Cond.code yX1_readRowByte cX1_readRowByte 5 (some .int), Cond.fieldLink RX1 15 "ThreeFiles" "files" "[LThreeFiles$StoredFile;", Cond.methodLink RX1 56 yX1_stripeCount, Cond.instanceMethod yX1_stripeCount, Cond.selects RX1 yX1_stripeCount yX1_stripeCount, Cond.code yX1_stripeCount cX1_stripeCount 3 (some .int), Cond.methodLink RX1 125 Lib.Math.max.name, Cond.static Lib.Math.max.name, Cond.initialized "java/lang/Math", Cond.code Lib.Math.max.name Lib.Math.max.code 2 (some .int), Cond.instanceMethod yX0_length, Cond.initialized RX0, Cond.selects RX0 yX0_length yX0_length, Cond.code yX0_length cX0_length 1 (some .int), Cond.fieldLink RX0 22 "ThreeFiles$StoredFile" "length" "I", Cond.methodLink RX1 131 yX1_fileOfRow, Cond.static yX1_fileOfRow, Cond.code yX1_fileOfRow cX1_fileOfRow 1 (some .int), Cond.instanceMethod yX0_isGood, Cond.selects RX0 yX0_isGood yX0_isGood]
def wsX1_find_r2 : List Cond := [Cond.code yX0_isGood cX0_isGood 3 (some .boolean), Cond.methodLink RX0 25 yX0_has, Cond.instanceMethod yX0_has, Cond.selects RX0 yX0_has yX0_has, Cond.code yX0_has cX0_has 2 (some .boolean), Cond.methodLink RX0 42 yX0_get, Cond.instanceMethod yX0_get, Cond.selects RX0 yX0_get yX0_get, Cond.code yX0_get cX0_get 2 (some .int), Cond.fieldLink RX0 15 "ThreeFiles$StoredFile" "bytes" "[I", Cond.methodLink RX0 46 yX0_lowByte, Cond.static yX0_lowByte, Cond.code yX0_lowByte cX0_lowByte 1 (some .int), Cond.methodLink RX0 49 yX0_sum, Cond.instanceMethod yX0_sum, Cond.selects RX0 yX0_sum yX0_sum, Cond.code yX0_sum cX0_sum 4 (some .int), Cond.constant RX0 60 (-1640531535), Cond.fieldLink RX0 9 "ThreeFiles$StoredFile" "number" "I", Cond.constant RX0 61 (374761393), Cond.methodLink RX0 52 yX0_hasSum, Cond.instanceMethod yX0_hasSum, Cond.selects RX0 yX0_hasSum yX0_hasSum, Cond.code yX0_hasSum cX0_hasSum 5 (some .boolean)]
def wsX1_find_r3 : List Cond := [Cond.methodLink RX1 134 yX1_othersAreGood, Cond.instanceMethod yX1_othersAreGood, Cond.selects RX1 yX1_othersAreGood yX1_othersAreGood, Cond.code yX1_othersAreGood cX1_othersAreGood 3 (some .boolean), Cond.methodLink RX1 137 yX1_byteOfOthers, Cond.instanceMethod yX1_byteOfOthers, Cond.selects RX1 yX1_byteOfOthers yX1_byteOfOthers, Cond.code yX1_byteOfOthers cX1_byteOfOthers 5 (some .int)]
def wsX1_find : List Cond := .code yX1_find cX1_find 3 (some .int) :: ((wsX1_find_r1 ++ (wsX1_find_r2 ++ wsX1_find_r3)) ++ wsX10 ++ wsX00)
def wsX1_rows_r1 : List Cond := [Cond.methodLink RX1 33 yX1_isYear, Cond.static yX1_isYear, Cond.initialized RX1, Cond.code yX1_isYear cX1_isYear 1 (some .boolean), Cond.methodLink RX1 56 yX1_stripeCount, Cond.instanceMethod yX1_stripeCount, Cond.selects RX1 yX1_stripeCount yX1_stripeCount, Cond.code yX1_stripeCount cX1_stripeCount 3 (some .int), Cond.fieldLink RX1 15 "ThreeFiles" "files" "[LThreeFiles$StoredFile;", Cond.methodLink RX1 125 Lib.Math.max.name, Cond.static Lib.Math.max.name, Cond.initialized "java/lang/Math", Cond.code Lib.Math.max.name Lib.Math.max.code 2 (some .int), Cond.instanceMethod yX0_length, Cond.initialized RX0, Cond.selects RX0 yX0_length yX0_length, Cond.code yX0_length cX0_length 1 (some .int), Cond.fieldLink RX0 22 "ThreeFiles$StoredFile" "length" "I", Cond.methodLink RX1 52 yX1_readRowByte, Cond.instanceMethod yX1_readRowByte, Cond.selects RX1 yX1_readRowByte yX1_readRowByte, Cond.code yX1_readRowByte cX1_readRowByte 5 (some .int), Cond.methodLink RX1 131 yX1_fileOfRow, Cond.static yX1_fileOfRow]
def wsX1_rows_r2 : List Cond := [Cond.code yX1_fileOfRow cX1_fileOfRow 1 (some .int), Cond.instanceMethod yX0_isGood, Cond.selects RX0 yX0_isGood yX0_isGood, Cond.code yX0_isGood cX0_isGood 3 (some .boolean), Cond.methodLink RX0 25 yX0_has, Cond.instanceMethod yX0_has, Cond.selects RX0 yX0_has yX0_has, Cond.code yX0_has cX0_has 2 (some .boolean), Cond.methodLink RX0 42 yX0_get, Cond.instanceMethod yX0_get, Cond.selects RX0 yX0_get yX0_get, Cond.code yX0_get cX0_get 2 (some .int), Cond.fieldLink RX0 15 "ThreeFiles$StoredFile" "bytes" "[I", Cond.methodLink RX0 46 yX0_lowByte, Cond.static yX0_lowByte, Cond.code yX0_lowByte cX0_lowByte 1 (some .int), Cond.methodLink RX0 49 yX0_sum, Cond.instanceMethod yX0_sum, Cond.selects RX0 yX0_sum yX0_sum, Cond.code yX0_sum cX0_sum 4 (some .int), Cond.constant RX0 60 (-1640531535), Cond.fieldLink RX0 9 "ThreeFiles$StoredFile" "number" "I", Cond.constant RX0 61 (374761393), Cond.methodLink RX0 52 yX0_hasSum]
def wsX1_rows_r3 : List Cond := [Cond.instanceMethod yX0_hasSum, Cond.selects RX0 yX0_hasSum yX0_hasSum, Cond.code yX0_hasSum cX0_hasSum 5 (some .boolean), Cond.methodLink RX1 134 yX1_othersAreGood, Cond.instanceMethod yX1_othersAreGood, Cond.selects RX1 yX1_othersAreGood yX1_othersAreGood, Cond.code yX1_othersAreGood cX1_othersAreGood 3 (some .boolean), Cond.methodLink RX1 137 yX1_byteOfOthers, Cond.instanceMethod yX1_byteOfOthers, Cond.selects RX1 yX1_byteOfOthers yX1_byteOfOthers, Cond.code yX1_byteOfOthers cX1_byteOfOthers 5 (some .int)]
def wsX1_rows : List Cond := .code yX1_rows cX1_rows 5 (some .int) :: ((wsX1_rows_r1 ++ (wsX1_rows_r2 ++ wsX1_rows_r3)) ++ wsX10 ++ wsX00)
def wsX1_dropRow_r1 : List Cond := [Cond.fieldLink RX1 15 "ThreeFiles" "files" "[LThreeFiles$StoredFile;", Cond.methodLink RX1 131 yX1_fileOfRow, Cond.static yX1_fileOfRow, Cond.initialized RX1, Cond.code yX1_fileOfRow cX1_fileOfRow 1 (some .int), Cond.instanceMethod yX0_isGood, Cond.initialized RX0, Cond.selects RX0 yX0_isGood yX0_isGood, Cond.code yX0_isGood cX0_isGood 3 (some .boolean), Cond.methodLink RX0 25 yX0_has, Cond.instanceMethod yX0_has, Cond.selects RX0 yX0_has yX0_has, Cond.code yX0_has cX0_has 2 (some .boolean), Cond.fieldLink RX0 22 "ThreeFiles$StoredFile" "length" "I", Cond.methodLink RX0 42 yX0_get, Cond.instanceMethod yX0_get, Cond.selects RX0 yX0_get yX0_get, Cond.code yX0_get cX0_get 2 (some .int), Cond.fieldLink RX0 15 "ThreeFiles$StoredFile" "bytes" "[I", Cond.methodLink RX0 46 yX0_lowByte, Cond.static yX0_lowByte, Cond.code yX0_lowByte cX0_lowByte 1 (some .int), Cond.methodLink RX0 49 yX0_sum, Cond.instanceMethod yX0_sum]
def wsX1_dropRow_r2 : List Cond := [Cond.selects RX0 yX0_sum yX0_sum, Cond.code yX0_sum cX0_sum 4 (some .int), Cond.constant RX0 60 (-1640531535), Cond.fieldLink RX0 9 "ThreeFiles$StoredFile" "number" "I", Cond.constant RX0 61 (374761393), Cond.methodLink RX0 52 yX0_hasSum, Cond.instanceMethod yX0_hasSum, Cond.selects RX0 yX0_hasSum yX0_hasSum, Cond.code yX0_hasSum cX0_hasSum 5 (some .boolean), Cond.methodLink RX1 41 yX1_writeRow, Cond.instanceMethod yX1_writeRow, Cond.selects RX1 yX1_writeRow yX1_writeRow, Cond.code yX1_writeRow cX1_writeRow 8 none, Cond.fieldLink RX1 22 "ThreeFiles" "fed" "[I", Cond.instanceMethod yX0_reach, Cond.selects RX0 yX0_reach yX0_reach, Cond.code yX0_reach cX0_reach 2 none, Cond.methodLink RX0 38 yX0_setLength, Cond.instanceMethod yX0_setLength, Cond.selects RX0 yX0_setLength yX0_setLength, Cond.code yX0_setLength cX0_setLength 4 none, Cond.methodLink RX0 29 Lib.Math.min.name, Cond.static Lib.Math.min.name, Cond.initialized "java/lang/Math"]
def wsX1_dropRow_r3 : List Cond := [Cond.code Lib.Math.min.name Lib.Math.min.code 2 (some .int), Cond.methodLink RX0 35 Lib.Math.max.name, Cond.static Lib.Math.max.name, Cond.code Lib.Math.max.name Lib.Math.max.code 2 (some .int), Cond.instanceMethod yX0_set, Cond.selects RX0 yX0_set yX0_set, Cond.code yX0_set cX0_set 3 none, Cond.instanceMethod yX0_seal, Cond.selects RX0 yX0_seal yX0_seal, Cond.code yX0_seal cX0_seal 5 none, Cond.methodLink RX0 56 yX0_set]
def wsX1_dropRow : List Cond := .code yX1_dropRow cX1_dropRow 5 (some .boolean) :: ((wsX1_dropRow_r1 ++ (wsX1_dropRow_r2 ++ wsX1_dropRow_r3)) ++ wsX10 ++ wsX00)
def wsX1_dropInStripe_r1 : List Cond := [Cond.methodLink RX1 150 yX1_dropRow, Cond.instanceMethod yX1_dropRow, Cond.selects RX1 yX1_dropRow yX1_dropRow, Cond.initialized RX1, Cond.code yX1_dropRow cX1_dropRow 5 (some .boolean), Cond.fieldLink RX1 15 "ThreeFiles" "files" "[LThreeFiles$StoredFile;", Cond.methodLink RX1 131 yX1_fileOfRow, Cond.static yX1_fileOfRow, Cond.code yX1_fileOfRow cX1_fileOfRow 1 (some .int), Cond.instanceMethod yX0_isGood, Cond.initialized RX0, Cond.selects RX0 yX0_isGood yX0_isGood, Cond.code yX0_isGood cX0_isGood 3 (some .boolean), Cond.methodLink RX0 25 yX0_has, Cond.instanceMethod yX0_has, Cond.selects RX0 yX0_has yX0_has, Cond.code yX0_has cX0_has 2 (some .boolean), Cond.fieldLink RX0 22 "ThreeFiles$StoredFile" "length" "I", Cond.methodLink RX0 42 yX0_get, Cond.instanceMethod yX0_get, Cond.selects RX0 yX0_get yX0_get, Cond.code yX0_get cX0_get 2 (some .int), Cond.fieldLink RX0 15 "ThreeFiles$StoredFile" "bytes" "[I", Cond.methodLink RX0 46 yX0_lowByte]
def wsX1_dropInStripe_r2 : List Cond := [Cond.static yX0_lowByte, Cond.code yX0_lowByte cX0_lowByte 1 (some .int), Cond.methodLink RX0 49 yX0_sum, Cond.instanceMethod yX0_sum, Cond.selects RX0 yX0_sum yX0_sum, Cond.code yX0_sum cX0_sum 4 (some .int), Cond.constant RX0 60 (-1640531535), Cond.fieldLink RX0 9 "ThreeFiles$StoredFile" "number" "I", Cond.constant RX0 61 (374761393), Cond.methodLink RX0 52 yX0_hasSum, Cond.instanceMethod yX0_hasSum, Cond.selects RX0 yX0_hasSum yX0_hasSum, Cond.code yX0_hasSum cX0_hasSum 5 (some .boolean), Cond.methodLink RX1 41 yX1_writeRow, Cond.instanceMethod yX1_writeRow, Cond.selects RX1 yX1_writeRow yX1_writeRow, Cond.code yX1_writeRow cX1_writeRow 8 none, Cond.fieldLink RX1 22 "ThreeFiles" "fed" "[I", Cond.instanceMethod yX0_reach, Cond.selects RX0 yX0_reach yX0_reach, Cond.code yX0_reach cX0_reach 2 none, Cond.methodLink RX0 38 yX0_setLength, Cond.instanceMethod yX0_setLength, Cond.selects RX0 yX0_setLength yX0_setLength]
def wsX1_dropInStripe_r3 : List Cond := [Cond.code yX0_setLength cX0_setLength 4 none, Cond.methodLink RX0 29 Lib.Math.min.name, Cond.static Lib.Math.min.name, Cond.initialized "java/lang/Math", Cond.code Lib.Math.min.name Lib.Math.min.code 2 (some .int), Cond.methodLink RX0 35 Lib.Math.max.name, Cond.static Lib.Math.max.name, Cond.code Lib.Math.max.name Lib.Math.max.code 2 (some .int), Cond.instanceMethod yX0_set, Cond.selects RX0 yX0_set yX0_set, Cond.code yX0_set cX0_set 3 none, Cond.instanceMethod yX0_seal, Cond.selects RX0 yX0_seal yX0_seal, Cond.code yX0_seal cX0_seal 5 none, Cond.methodLink RX0 56 yX0_set, Cond.methodLink RX1 108 yX1_goodPieces, Cond.instanceMethod yX1_goodPieces, Cond.selects RX1 yX1_goodPieces yX1_goodPieces, Cond.code yX1_goodPieces cX1_goodPieces 4 (some .int), Cond.methodLink RX1 45 yX1_sumFile, Cond.static yX1_sumFile, Cond.code yX1_sumFile cX1_sumFile 1 (some .int), Cond.methodLink RX1 49 yX1_makeFromOthers, Cond.instanceMethod yX1_makeFromOthers]
def wsX1_dropInStripe_r4 : List Cond := [Cond.selects RX1 yX1_makeFromOthers yX1_makeFromOthers, Cond.code yX1_makeFromOthers cX1_makeFromOthers 5 none, Cond.methodLink RX1 137 yX1_byteOfOthers, Cond.instanceMethod yX1_byteOfOthers, Cond.selects RX1 yX1_byteOfOthers yX1_byteOfOthers, Cond.code yX1_byteOfOthers cX1_byteOfOthers 5 (some .int)]
def wsX1_dropInStripe : List Cond := .code yX1_dropInStripe cX1_dropInStripe 6 (some .boolean) :: ((wsX1_dropInStripe_r1 ++ (wsX1_dropInStripe_r2 ++ (wsX1_dropInStripe_r3 ++ wsX1_dropInStripe_r4))) ++ wsX10 ++ wsX00)
def wsX1_drop_r1 : List Cond := [Cond.fieldLink RX1 29 "ThreeFiles" "closed" "Z", Cond.methodLink RX1 33 yX1_isYear, Cond.static yX1_isYear, Cond.initialized RX1, Cond.code yX1_isYear cX1_isYear 1 (some .boolean), Cond.methodLink RX1 56 yX1_stripeCount, Cond.instanceMethod yX1_stripeCount, Cond.selects RX1 yX1_stripeCount yX1_stripeCount, Cond.code yX1_stripeCount cX1_stripeCount 3 (some .int), Cond.fieldLink RX1 15 "ThreeFiles" "files" "[LThreeFiles$StoredFile;", Cond.methodLink RX1 125 Lib.Math.max.name, Cond.static Lib.Math.max.name, Cond.initialized "java/lang/Math", Cond.code Lib.Math.max.name Lib.Math.max.code 2 (some .int), Cond.instanceMethod yX0_length, Cond.initialized RX0, Cond.selects RX0 yX0_length yX0_length, Cond.code yX0_length cX0_length 1 (some .int), Cond.fieldLink RX0 22 "ThreeFiles$StoredFile" "length" "I", Cond.methodLink RX1 59 yX1_dropInStripe, Cond.instanceMethod yX1_dropInStripe, Cond.selects RX1 yX1_dropInStripe yX1_dropInStripe, Cond.code yX1_dropInStripe cX1_dropInStripe 6 (some .boolean), Cond.methodLink RX1 150 yX1_dropRow]
def wsX1_drop_r2 : List Cond := [Cond.instanceMethod yX1_dropRow, Cond.selects RX1 yX1_dropRow yX1_dropRow, Cond.code yX1_dropRow cX1_dropRow 5 (some .boolean), Cond.methodLink RX1 131 yX1_fileOfRow, Cond.static yX1_fileOfRow, Cond.code yX1_fileOfRow cX1_fileOfRow 1 (some .int), Cond.instanceMethod yX0_isGood, Cond.selects RX0 yX0_isGood yX0_isGood, Cond.code yX0_isGood cX0_isGood 3 (some .boolean), Cond.methodLink RX0 25 yX0_has, Cond.instanceMethod yX0_has, Cond.selects RX0 yX0_has yX0_has, Cond.code yX0_has cX0_has 2 (some .boolean), Cond.methodLink RX0 42 yX0_get, Cond.instanceMethod yX0_get, Cond.selects RX0 yX0_get yX0_get, Cond.code yX0_get cX0_get 2 (some .int), Cond.fieldLink RX0 15 "ThreeFiles$StoredFile" "bytes" "[I", Cond.methodLink RX0 46 yX0_lowByte, Cond.static yX0_lowByte, Cond.code yX0_lowByte cX0_lowByte 1 (some .int), Cond.methodLink RX0 49 yX0_sum, Cond.instanceMethod yX0_sum, Cond.selects RX0 yX0_sum yX0_sum]
def wsX1_drop_r3 : List Cond := [Cond.code yX0_sum cX0_sum 4 (some .int), Cond.constant RX0 60 (-1640531535), Cond.fieldLink RX0 9 "ThreeFiles$StoredFile" "number" "I", Cond.constant RX0 61 (374761393), Cond.methodLink RX0 52 yX0_hasSum, Cond.instanceMethod yX0_hasSum, Cond.selects RX0 yX0_hasSum yX0_hasSum, Cond.code yX0_hasSum cX0_hasSum 5 (some .boolean), Cond.methodLink RX1 41 yX1_writeRow, Cond.instanceMethod yX1_writeRow, Cond.selects RX1 yX1_writeRow yX1_writeRow, Cond.code yX1_writeRow cX1_writeRow 8 none, Cond.fieldLink RX1 22 "ThreeFiles" "fed" "[I", Cond.instanceMethod yX0_reach, Cond.selects RX0 yX0_reach yX0_reach, Cond.code yX0_reach cX0_reach 2 none, Cond.methodLink RX0 38 yX0_setLength, Cond.instanceMethod yX0_setLength, Cond.selects RX0 yX0_setLength yX0_setLength, Cond.code yX0_setLength cX0_setLength 4 none, Cond.methodLink RX0 29 Lib.Math.min.name, Cond.static Lib.Math.min.name, Cond.code Lib.Math.min.name Lib.Math.min.code 2 (some .int), Cond.methodLink RX0 35 Lib.Math.max.name]
def wsX1_drop_r4 : List Cond := [Cond.instanceMethod yX0_set, Cond.selects RX0 yX0_set yX0_set, Cond.code yX0_set cX0_set 3 none, Cond.instanceMethod yX0_seal, Cond.selects RX0 yX0_seal yX0_seal, Cond.code yX0_seal cX0_seal 5 none, Cond.methodLink RX0 56 yX0_set, Cond.methodLink RX1 108 yX1_goodPieces, Cond.instanceMethod yX1_goodPieces, Cond.selects RX1 yX1_goodPieces yX1_goodPieces, Cond.code yX1_goodPieces cX1_goodPieces 4 (some .int), Cond.methodLink RX1 45 yX1_sumFile, Cond.static yX1_sumFile, Cond.code yX1_sumFile cX1_sumFile 1 (some .int), Cond.methodLink RX1 49 yX1_makeFromOthers, Cond.instanceMethod yX1_makeFromOthers, Cond.selects RX1 yX1_makeFromOthers yX1_makeFromOthers, Cond.code yX1_makeFromOthers cX1_makeFromOthers 5 none, Cond.methodLink RX1 137 yX1_byteOfOthers, Cond.instanceMethod yX1_byteOfOthers, Cond.selects RX1 yX1_byteOfOthers yX1_byteOfOthers, Cond.code yX1_byteOfOthers cX1_byteOfOthers 5 (some .int)]
def wsX1_drop : List Cond := .code yX1_drop cX1_drop 5 (some .boolean) :: ((wsX1_drop_r1 ++ (wsX1_drop_r2 ++ (wsX1_drop_r3 ++ wsX1_drop_r4))) ++ wsX10 ++ wsX00)
def wsX1_isFile : List Cond := .code yX1_isFile cX1_isFile 1 (some .boolean) :: ([])
def wsX1_shut : List Cond := .code yX1_shut cX1_shut 2 none :: ([.fieldLink RX1 29 "ThreeFiles" "closed" "Z", .fieldLink RX1 15 "ThreeFiles" "files" "[LThreeFiles$StoredFile;", .fieldLink RX1 118 "ThreeFiles" "everClosed" "Z", .instanceMethod yX0_remember, .initialized RX0, .selects RX0 yX0_remember yX0_remember, .code yX0_remember cX0_remember 2 none, .fieldLink RX0 15 "ThreeFiles$StoredFile" "bytes" "[I", .fieldLink RX0 19 "ThreeFiles$StoredFile" "remembered" "[I", .fieldLink RX0 22 "ThreeFiles$StoredFile" "length" "I", .fieldLink RX0 62 "ThreeFiles$StoredFile" "rememberedLength" "I"] ++ wsX10 ++ wsX00)
def wsX1_crash_r1 : List Cond := [Cond.fieldLink RX1 15 "ThreeFiles" "files" "[LThreeFiles$StoredFile;", Cond.methodLink RX1 63 yX1_isFile, Cond.static yX1_isFile, Cond.initialized RX1, Cond.code yX1_isFile cX1_isFile 1 (some .boolean), Cond.instanceMethod yX0_length, Cond.initialized RX0, Cond.selects RX0 yX0_length yX0_length, Cond.code yX0_length cX0_length 1 (some .int), Cond.fieldLink RX0 22 "ThreeFiles$StoredFile" "length" "I", Cond.methodLink RX1 69 yX1_shut, Cond.instanceMethod yX1_shut, Cond.selects RX1 yX1_shut yX1_shut, Cond.code yX1_shut cX1_shut 2 none, Cond.fieldLink RX1 29 "ThreeFiles" "closed" "Z", Cond.fieldLink RX1 118 "ThreeFiles" "everClosed" "Z", Cond.instanceMethod yX0_remember, Cond.selects RX0 yX0_remember yX0_remember, Cond.code yX0_remember cX0_remember 2 none, Cond.fieldLink RX0 15 "ThreeFiles$StoredFile" "bytes" "[I", Cond.fieldLink RX0 19 "ThreeFiles$StoredFile" "remembered" "[I", Cond.fieldLink RX0 62 "ThreeFiles$StoredFile" "rememberedLength" "I", Cond.instanceMethod yX0_setLength, Cond.selects RX0 yX0_setLength yX0_setLength]
def wsX1_crash_r2 : List Cond := [Cond.code yX0_setLength cX0_setLength 4 none, Cond.methodLink RX0 29 Lib.Math.min.name, Cond.static Lib.Math.min.name, Cond.initialized "java/lang/Math", Cond.code Lib.Math.min.name Lib.Math.min.code 2 (some .int), Cond.methodLink RX0 35 Lib.Math.max.name, Cond.static Lib.Math.max.name, Cond.code Lib.Math.max.name Lib.Math.max.code 2 (some .int)]
def wsX1_crash : List Cond := .code yX1_crash cX1_crash 3 (some .boolean) :: ((wsX1_crash_r1 ++ wsX1_crash_r2) ++ wsX10 ++ wsX00)
def wsX1_lose_r1 : List Cond := [Cond.methodLink RX1 76 yX1_crash, Cond.instanceMethod yX1_crash, Cond.selects RX1 yX1_crash yX1_crash, Cond.initialized RX1, Cond.code yX1_crash cX1_crash 3 (some .boolean), Cond.fieldLink RX1 15 "ThreeFiles" "files" "[LThreeFiles$StoredFile;", Cond.methodLink RX1 63 yX1_isFile, Cond.static yX1_isFile, Cond.code yX1_isFile cX1_isFile 1 (some .boolean), Cond.instanceMethod yX0_length, Cond.initialized RX0, Cond.selects RX0 yX0_length yX0_length, Cond.code yX0_length cX0_length 1 (some .int), Cond.fieldLink RX0 22 "ThreeFiles$StoredFile" "length" "I", Cond.methodLink RX1 69 yX1_shut, Cond.instanceMethod yX1_shut, Cond.selects RX1 yX1_shut yX1_shut, Cond.code yX1_shut cX1_shut 2 none, Cond.fieldLink RX1 29 "ThreeFiles" "closed" "Z", Cond.fieldLink RX1 118 "ThreeFiles" "everClosed" "Z", Cond.instanceMethod yX0_remember, Cond.selects RX0 yX0_remember yX0_remember, Cond.code yX0_remember cX0_remember 2 none, Cond.fieldLink RX0 15 "ThreeFiles$StoredFile" "bytes" "[I"]
def wsX1_lose_r2 : List Cond := [Cond.fieldLink RX0 19 "ThreeFiles$StoredFile" "remembered" "[I", Cond.fieldLink RX0 62 "ThreeFiles$StoredFile" "rememberedLength" "I", Cond.instanceMethod yX0_setLength, Cond.selects RX0 yX0_setLength yX0_setLength, Cond.code yX0_setLength cX0_setLength 4 none, Cond.methodLink RX0 29 Lib.Math.min.name, Cond.static Lib.Math.min.name, Cond.initialized "java/lang/Math", Cond.code Lib.Math.min.name Lib.Math.min.code 2 (some .int), Cond.methodLink RX0 35 Lib.Math.max.name, Cond.static Lib.Math.max.name, Cond.code Lib.Math.max.name Lib.Math.max.code 2 (some .int)]
def wsX1_lose : List Cond := .code yX1_lose cX1_lose 2 (some .boolean) :: ((wsX1_lose_r1 ++ wsX1_lose_r2) ++ wsX10 ++ wsX00)
def wsX1_poke_r1 : List Cond := [Cond.fieldLink RX1 15 "ThreeFiles" "files" "[LThreeFiles$StoredFile;", Cond.methodLink RX1 63 yX1_isFile, Cond.static yX1_isFile, Cond.initialized RX1, Cond.code yX1_isFile cX1_isFile 1 (some .boolean), Cond.instanceMethod yX0_has, Cond.initialized RX0, Cond.selects RX0 yX0_has yX0_has, Cond.code yX0_has cX0_has 2 (some .boolean), Cond.fieldLink RX0 22 "ThreeFiles$StoredFile" "length" "I", Cond.methodLink RX1 69 yX1_shut, Cond.instanceMethod yX1_shut, Cond.selects RX1 yX1_shut yX1_shut, Cond.code yX1_shut cX1_shut 2 none, Cond.fieldLink RX1 29 "ThreeFiles" "closed" "Z", Cond.fieldLink RX1 118 "ThreeFiles" "everClosed" "Z", Cond.instanceMethod yX0_remember, Cond.selects RX0 yX0_remember yX0_remember, Cond.code yX0_remember cX0_remember 2 none, Cond.fieldLink RX0 15 "ThreeFiles$StoredFile" "bytes" "[I", Cond.fieldLink RX0 19 "ThreeFiles$StoredFile" "remembered" "[I", Cond.fieldLink RX0 62 "ThreeFiles$StoredFile" "rememberedLength" "I", Cond.instanceMethod yX0_get, Cond.selects RX0 yX0_get yX0_get]
def wsX1_poke_r2 : List Cond := [Cond.code yX0_get cX0_get 2 (some .int), Cond.instanceMethod yX0_set, Cond.selects RX0 yX0_set yX0_set, Cond.code yX0_set cX0_set 3 none, Cond.methodLink RX0 25 yX0_has]
def wsX1_poke : List Cond := .code yX1_poke cX1_poke 4 (some .boolean) :: ((wsX1_poke_r1 ++ wsX1_poke_r2) ++ wsX10 ++ wsX00)
def wsX1_mend_r1 : List Cond := [Cond.fieldLink RX1 15 "ThreeFiles" "files" "[LThreeFiles$StoredFile;", Cond.fieldLink RX1 105 "ThreeFiles" "mendedCount" "I", Cond.instanceMethod yX0_isGood, Cond.initialized RX0, Cond.selects RX0 yX0_isGood yX0_isGood, Cond.code yX0_isGood cX0_isGood 3 (some .boolean), Cond.methodLink RX0 25 yX0_has, Cond.instanceMethod yX0_has, Cond.selects RX0 yX0_has yX0_has, Cond.code yX0_has cX0_has 2 (some .boolean), Cond.fieldLink RX0 22 "ThreeFiles$StoredFile" "length" "I", Cond.methodLink RX0 42 yX0_get, Cond.instanceMethod yX0_get, Cond.selects RX0 yX0_get yX0_get, Cond.code yX0_get cX0_get 2 (some .int), Cond.fieldLink RX0 15 "ThreeFiles$StoredFile" "bytes" "[I", Cond.methodLink RX0 46 yX0_lowByte, Cond.static yX0_lowByte, Cond.code yX0_lowByte cX0_lowByte 1 (some .int), Cond.methodLink RX0 49 yX0_sum, Cond.instanceMethod yX0_sum, Cond.selects RX0 yX0_sum yX0_sum, Cond.code yX0_sum cX0_sum 4 (some .int), Cond.constant RX0 60 (-1640531535)]
def wsX1_mend_r2 : List Cond := [Cond.fieldLink RX0 9 "ThreeFiles$StoredFile" "number" "I", Cond.constant RX0 61 (374761393), Cond.methodLink RX0 52 yX0_hasSum, Cond.instanceMethod yX0_hasSum, Cond.selects RX0 yX0_hasSum yX0_hasSum, Cond.code yX0_hasSum cX0_hasSum 5 (some .boolean), Cond.methodLink RX1 134 yX1_othersAreGood, Cond.instanceMethod yX1_othersAreGood, Cond.selects RX1 yX1_othersAreGood yX1_othersAreGood, Cond.initialized RX1, Cond.code yX1_othersAreGood cX1_othersAreGood 3 (some .boolean), Cond.methodLink RX1 49 yX1_makeFromOthers, Cond.instanceMethod yX1_makeFromOthers, Cond.selects RX1 yX1_makeFromOthers yX1_makeFromOthers, Cond.code yX1_makeFromOthers cX1_makeFromOthers 5 none, Cond.instanceMethod yX0_reach, Cond.selects RX0 yX0_reach yX0_reach, Cond.code yX0_reach cX0_reach 2 none, Cond.methodLink RX0 38 yX0_setLength, Cond.instanceMethod yX0_setLength, Cond.selects RX0 yX0_setLength yX0_setLength, Cond.code yX0_setLength cX0_setLength 4 none, Cond.methodLink RX0 29 Lib.Math.min.name, Cond.static Lib.Math.min.name]
def wsX1_mend_r3 : List Cond := [Cond.initialized "java/lang/Math", Cond.code Lib.Math.min.name Lib.Math.min.code 2 (some .int), Cond.methodLink RX0 35 Lib.Math.max.name, Cond.static Lib.Math.max.name, Cond.code Lib.Math.max.name Lib.Math.max.code 2 (some .int), Cond.methodLink RX1 137 yX1_byteOfOthers, Cond.instanceMethod yX1_byteOfOthers, Cond.selects RX1 yX1_byteOfOthers yX1_byteOfOthers, Cond.code yX1_byteOfOthers cX1_byteOfOthers 5 (some .int), Cond.instanceMethod yX0_set, Cond.selects RX0 yX0_set yX0_set, Cond.code yX0_set cX0_set 3 none, Cond.instanceMethod yX0_seal, Cond.selects RX0 yX0_seal yX0_seal, Cond.code yX0_seal cX0_seal 5 none, Cond.methodLink RX0 56 yX0_set]
def wsX1_mend : List Cond := .code yX1_mend cX1_mend 3 none :: ((wsX1_mend_r1 ++ (wsX1_mend_r2 ++ wsX1_mend_r3)) ++ wsX10 ++ wsX00)
def wsX1_readableRowsWithContents_r1 : List Cond := [Cond.methodLink RX1 56 yX1_stripeCount, Cond.instanceMethod yX1_stripeCount, Cond.selects RX1 yX1_stripeCount yX1_stripeCount, Cond.initialized RX1, Cond.code yX1_stripeCount cX1_stripeCount 3 (some .int), Cond.fieldLink RX1 15 "ThreeFiles" "files" "[LThreeFiles$StoredFile;", Cond.methodLink RX1 125 Lib.Math.max.name, Cond.static Lib.Math.max.name, Cond.initialized "java/lang/Math", Cond.code Lib.Math.max.name Lib.Math.max.code 2 (some .int), Cond.instanceMethod yX0_length, Cond.initialized RX0, Cond.selects RX0 yX0_length yX0_length, Cond.code yX0_length cX0_length 1 (some .int), Cond.fieldLink RX0 22 "ThreeFiles$StoredFile" "length" "I", Cond.methodLink RX1 52 yX1_readRowByte, Cond.instanceMethod yX1_readRowByte, Cond.selects RX1 yX1_readRowByte yX1_readRowByte, Cond.code yX1_readRowByte cX1_readRowByte 5 (some .int), Cond.methodLink RX1 131 yX1_fileOfRow, Cond.static yX1_fileOfRow, Cond.code yX1_fileOfRow cX1_fileOfRow 1 (some .int), Cond.instanceMethod yX0_isGood, Cond.selects RX0 yX0_isGood yX0_isGood]
def wsX1_readableRowsWithContents_r2 : List Cond := [Cond.code yX0_isGood cX0_isGood 3 (some .boolean), Cond.methodLink RX0 25 yX0_has, Cond.instanceMethod yX0_has, Cond.selects RX0 yX0_has yX0_has, Cond.code yX0_has cX0_has 2 (some .boolean), Cond.methodLink RX0 42 yX0_get, Cond.instanceMethod yX0_get, Cond.selects RX0 yX0_get yX0_get, Cond.code yX0_get cX0_get 2 (some .int), Cond.fieldLink RX0 15 "ThreeFiles$StoredFile" "bytes" "[I", Cond.methodLink RX0 46 yX0_lowByte, Cond.static yX0_lowByte, Cond.code yX0_lowByte cX0_lowByte 1 (some .int), Cond.methodLink RX0 49 yX0_sum, Cond.instanceMethod yX0_sum, Cond.selects RX0 yX0_sum yX0_sum, Cond.code yX0_sum cX0_sum 4 (some .int), Cond.constant RX0 60 (-1640531535), Cond.fieldLink RX0 9 "ThreeFiles$StoredFile" "number" "I", Cond.constant RX0 61 (374761393), Cond.methodLink RX0 52 yX0_hasSum, Cond.instanceMethod yX0_hasSum, Cond.selects RX0 yX0_hasSum yX0_hasSum, Cond.code yX0_hasSum cX0_hasSum 5 (some .boolean)]
def wsX1_readableRowsWithContents_r3 : List Cond := [Cond.methodLink RX1 134 yX1_othersAreGood, Cond.instanceMethod yX1_othersAreGood, Cond.selects RX1 yX1_othersAreGood yX1_othersAreGood, Cond.code yX1_othersAreGood cX1_othersAreGood 3 (some .boolean), Cond.methodLink RX1 137 yX1_byteOfOthers, Cond.instanceMethod yX1_byteOfOthers, Cond.selects RX1 yX1_byteOfOthers yX1_byteOfOthers, Cond.code yX1_byteOfOthers cX1_byteOfOthers 5 (some .int)]
def wsX1_readableRowsWithContents : List Cond := .code yX1_readableRowsWithContents cX1_readableRowsWithContents 4 (some .int) :: ((wsX1_readableRowsWithContents_r1 ++ (wsX1_readableRowsWithContents_r2 ++ wsX1_readableRowsWithContents_r3)) ++ wsX10 ++ wsX00)
def wsX1_reopen_r1 : List Cond := [Cond.fieldLink RX1 15 "ThreeFiles" "files" "[LThreeFiles$StoredFile;", Cond.fieldLink RX1 29 "ThreeFiles" "closed" "Z", Cond.methodLink RX1 56 yX1_stripeCount, Cond.instanceMethod yX1_stripeCount, Cond.selects RX1 yX1_stripeCount yX1_stripeCount, Cond.initialized RX1, Cond.code yX1_stripeCount cX1_stripeCount 3 (some .int), Cond.methodLink RX1 125 Lib.Math.max.name, Cond.static Lib.Math.max.name, Cond.initialized "java/lang/Math", Cond.code Lib.Math.max.name Lib.Math.max.code 2 (some .int), Cond.instanceMethod yX0_length, Cond.initialized RX0, Cond.selects RX0 yX0_length yX0_length, Cond.code yX0_length cX0_length 1 (some .int), Cond.fieldLink RX0 22 "ThreeFiles$StoredFile" "length" "I", Cond.methodLink RX1 88 yX1_mend, Cond.instanceMethod yX1_mend, Cond.selects RX1 yX1_mend yX1_mend, Cond.code yX1_mend cX1_mend 3 none, Cond.fieldLink RX1 105 "ThreeFiles" "mendedCount" "I", Cond.instanceMethod yX0_isGood, Cond.selects RX0 yX0_isGood yX0_isGood, Cond.code yX0_isGood cX0_isGood 3 (some .boolean)]
def wsX1_reopen_r2 : List Cond := [Cond.methodLink RX0 25 yX0_has, Cond.instanceMethod yX0_has, Cond.selects RX0 yX0_has yX0_has, Cond.code yX0_has cX0_has 2 (some .boolean), Cond.methodLink RX0 42 yX0_get, Cond.instanceMethod yX0_get, Cond.selects RX0 yX0_get yX0_get, Cond.code yX0_get cX0_get 2 (some .int), Cond.fieldLink RX0 15 "ThreeFiles$StoredFile" "bytes" "[I", Cond.methodLink RX0 46 yX0_lowByte, Cond.static yX0_lowByte, Cond.code yX0_lowByte cX0_lowByte 1 (some .int), Cond.methodLink RX0 49 yX0_sum, Cond.instanceMethod yX0_sum, Cond.selects RX0 yX0_sum yX0_sum, Cond.code yX0_sum cX0_sum 4 (some .int), Cond.constant RX0 60 (-1640531535), Cond.fieldLink RX0 9 "ThreeFiles$StoredFile" "number" "I", Cond.constant RX0 61 (374761393), Cond.methodLink RX0 52 yX0_hasSum, Cond.instanceMethod yX0_hasSum, Cond.selects RX0 yX0_hasSum yX0_hasSum, Cond.code yX0_hasSum cX0_hasSum 5 (some .boolean), Cond.methodLink RX1 134 yX1_othersAreGood]
def wsX1_reopen_r3 : List Cond := [Cond.instanceMethod yX1_othersAreGood, Cond.selects RX1 yX1_othersAreGood yX1_othersAreGood, Cond.code yX1_othersAreGood cX1_othersAreGood 3 (some .boolean), Cond.methodLink RX1 49 yX1_makeFromOthers, Cond.instanceMethod yX1_makeFromOthers, Cond.selects RX1 yX1_makeFromOthers yX1_makeFromOthers, Cond.code yX1_makeFromOthers cX1_makeFromOthers 5 none, Cond.instanceMethod yX0_reach, Cond.selects RX0 yX0_reach yX0_reach, Cond.code yX0_reach cX0_reach 2 none, Cond.methodLink RX0 38 yX0_setLength, Cond.instanceMethod yX0_setLength, Cond.selects RX0 yX0_setLength yX0_setLength, Cond.code yX0_setLength cX0_setLength 4 none, Cond.methodLink RX0 29 Lib.Math.min.name, Cond.static Lib.Math.min.name, Cond.code Lib.Math.min.name Lib.Math.min.code 2 (some .int), Cond.methodLink RX0 35 Lib.Math.max.name, Cond.methodLink RX1 137 yX1_byteOfOthers, Cond.instanceMethod yX1_byteOfOthers, Cond.selects RX1 yX1_byteOfOthers yX1_byteOfOthers, Cond.code yX1_byteOfOthers cX1_byteOfOthers 5 (some .int), Cond.instanceMethod yX0_set, Cond.selects RX0 yX0_set yX0_set]
def wsX1_reopen_r4 : List Cond := [Cond.code yX0_set cX0_set 3 none, Cond.instanceMethod yX0_seal, Cond.selects RX0 yX0_seal yX0_seal, Cond.code yX0_seal cX0_seal 5 none, Cond.methodLink RX0 56 yX0_set, Cond.methodLink RX1 91 yX1_readableRowsWithContents, Cond.instanceMethod yX1_readableRowsWithContents, Cond.selects RX1 yX1_readableRowsWithContents yX1_readableRowsWithContents, Cond.code yX1_readableRowsWithContents cX1_readableRowsWithContents 4 (some .int), Cond.methodLink RX1 52 yX1_readRowByte, Cond.instanceMethod yX1_readRowByte, Cond.selects RX1 yX1_readRowByte yX1_readRowByte, Cond.code yX1_readRowByte cX1_readRowByte 5 (some .int), Cond.methodLink RX1 131 yX1_fileOfRow, Cond.static yX1_fileOfRow, Cond.code yX1_fileOfRow cX1_fileOfRow 1 (some .int)]
def wsX1_reopen : List Cond := .code yX1_reopen cX1_reopen 4 (some .int) :: ((wsX1_reopen_r1 ++ (wsX1_reopen_r2 ++ (wsX1_reopen_r3 ++ wsX1_reopen_r4))) ++ wsX10 ++ wsX00)
def wsX1_allFilesReach : List Cond := .code yX1_allFilesReach cX1_allFilesReach 3 (some .boolean) :: ([.fieldLink RX1 15 "ThreeFiles" "files" "[LThreeFiles$StoredFile;", .instanceMethod yX0_length, .initialized RX0, .selects RX0 yX0_length yX0_length, .code yX0_length cX0_length 1 (some .int), .fieldLink RX0 22 "ThreeFiles$StoredFile" "length" "I"] ++ wsX10 ++ wsX00)
def wsX1_scrub_r1 : List Cond := [Cond.fieldLink RX1 97 "ThreeFiles" "scrubAt" "I", Cond.methodLink RX1 100 Lib.Math.min.name, Cond.static Lib.Math.min.name, Cond.initialized "java/lang/Math", Cond.code Lib.Math.min.name Lib.Math.min.code 2 (some .int), Cond.methodLink RX1 56 yX1_stripeCount, Cond.instanceMethod yX1_stripeCount, Cond.selects RX1 yX1_stripeCount yX1_stripeCount, Cond.initialized RX1, Cond.code yX1_stripeCount cX1_stripeCount 3 (some .int), Cond.fieldLink RX1 15 "ThreeFiles" "files" "[LThreeFiles$StoredFile;", Cond.methodLink RX1 125 Lib.Math.max.name, Cond.static Lib.Math.max.name, Cond.code Lib.Math.max.name Lib.Math.max.code 2 (some .int), Cond.instanceMethod yX0_length, Cond.initialized RX0, Cond.selects RX0 yX0_length yX0_length, Cond.code yX0_length cX0_length 1 (some .int), Cond.fieldLink RX0 22 "ThreeFiles$StoredFile" "length" "I", Cond.methodLink RX1 94 yX1_allFilesReach, Cond.instanceMethod yX1_allFilesReach, Cond.selects RX1 yX1_allFilesReach yX1_allFilesReach, Cond.code yX1_allFilesReach cX1_allFilesReach 3 (some .boolean), Cond.methodLink RX1 88 yX1_mend]
def wsX1_scrub_r2 : List Cond := [Cond.instanceMethod yX1_mend, Cond.selects RX1 yX1_mend yX1_mend, Cond.code yX1_mend cX1_mend 3 none, Cond.fieldLink RX1 105 "ThreeFiles" "mendedCount" "I", Cond.instanceMethod yX0_isGood, Cond.selects RX0 yX0_isGood yX0_isGood, Cond.code yX0_isGood cX0_isGood 3 (some .boolean), Cond.methodLink RX0 25 yX0_has, Cond.instanceMethod yX0_has, Cond.selects RX0 yX0_has yX0_has, Cond.code yX0_has cX0_has 2 (some .boolean), Cond.methodLink RX0 42 yX0_get, Cond.instanceMethod yX0_get, Cond.selects RX0 yX0_get yX0_get, Cond.code yX0_get cX0_get 2 (some .int), Cond.fieldLink RX0 15 "ThreeFiles$StoredFile" "bytes" "[I", Cond.methodLink RX0 46 yX0_lowByte, Cond.static yX0_lowByte, Cond.code yX0_lowByte cX0_lowByte 1 (some .int), Cond.methodLink RX0 49 yX0_sum, Cond.instanceMethod yX0_sum, Cond.selects RX0 yX0_sum yX0_sum, Cond.code yX0_sum cX0_sum 4 (some .int), Cond.constant RX0 60 (-1640531535)]
def wsX1_scrub_r3 : List Cond := [Cond.fieldLink RX0 9 "ThreeFiles$StoredFile" "number" "I", Cond.constant RX0 61 (374761393), Cond.methodLink RX0 52 yX0_hasSum, Cond.instanceMethod yX0_hasSum, Cond.selects RX0 yX0_hasSum yX0_hasSum, Cond.code yX0_hasSum cX0_hasSum 5 (some .boolean), Cond.methodLink RX1 134 yX1_othersAreGood, Cond.instanceMethod yX1_othersAreGood, Cond.selects RX1 yX1_othersAreGood yX1_othersAreGood, Cond.code yX1_othersAreGood cX1_othersAreGood 3 (some .boolean), Cond.methodLink RX1 49 yX1_makeFromOthers, Cond.instanceMethod yX1_makeFromOthers, Cond.selects RX1 yX1_makeFromOthers yX1_makeFromOthers, Cond.code yX1_makeFromOthers cX1_makeFromOthers 5 none, Cond.instanceMethod yX0_reach, Cond.selects RX0 yX0_reach yX0_reach, Cond.code yX0_reach cX0_reach 2 none, Cond.methodLink RX0 38 yX0_setLength, Cond.instanceMethod yX0_setLength, Cond.selects RX0 yX0_setLength yX0_setLength, Cond.code yX0_setLength cX0_setLength 4 none, Cond.methodLink RX0 29 Lib.Math.min.name, Cond.methodLink RX0 35 Lib.Math.max.name, Cond.methodLink RX1 137 yX1_byteOfOthers]
def wsX1_scrub_r4 : List Cond := [Cond.instanceMethod yX1_byteOfOthers, Cond.selects RX1 yX1_byteOfOthers yX1_byteOfOthers, Cond.code yX1_byteOfOthers cX1_byteOfOthers 5 (some .int), Cond.instanceMethod yX0_set, Cond.selects RX0 yX0_set yX0_set, Cond.code yX0_set cX0_set 3 none, Cond.instanceMethod yX0_seal, Cond.selects RX0 yX0_seal yX0_seal, Cond.code yX0_seal cX0_seal 5 none, Cond.methodLink RX0 56 yX0_set]
def wsX1_scrub : List Cond := .code yX1_scrub cX1_scrub 8 (some .int) :: ((wsX1_scrub_r1 ++ (wsX1_scrub_r2 ++ (wsX1_scrub_r3 ++ wsX1_scrub_r4))) ++ wsX10 ++ wsX00)
def wsX1_mended : List Cond := .code yX1_mended cX1_mended 1 (some .int) :: ([.fieldLink RX1 105 "ThreeFiles" "mendedCount" "I"] ++ wsX10)
def wsX1_badAt_r1 : List Cond := [Cond.methodLink RX1 56 yX1_stripeCount, Cond.instanceMethod yX1_stripeCount, Cond.selects RX1 yX1_stripeCount yX1_stripeCount, Cond.initialized RX1, Cond.code yX1_stripeCount cX1_stripeCount 3 (some .int), Cond.fieldLink RX1 15 "ThreeFiles" "files" "[LThreeFiles$StoredFile;", Cond.methodLink RX1 125 Lib.Math.max.name, Cond.static Lib.Math.max.name, Cond.initialized "java/lang/Math", Cond.code Lib.Math.max.name Lib.Math.max.code 2 (some .int), Cond.instanceMethod yX0_length, Cond.initialized RX0, Cond.selects RX0 yX0_length yX0_length, Cond.code yX0_length cX0_length 1 (some .int), Cond.fieldLink RX0 22 "ThreeFiles$StoredFile" "length" "I", Cond.methodLink RX1 108 yX1_goodPieces, Cond.instanceMethod yX1_goodPieces, Cond.selects RX1 yX1_goodPieces yX1_goodPieces, Cond.code yX1_goodPieces cX1_goodPieces 4 (some .int), Cond.instanceMethod yX0_isGood, Cond.selects RX0 yX0_isGood yX0_isGood, Cond.code yX0_isGood cX0_isGood 3 (some .boolean), Cond.methodLink RX0 25 yX0_has, Cond.instanceMethod yX0_has]
def wsX1_badAt_r2 : List Cond := [Cond.selects RX0 yX0_has yX0_has, Cond.code yX0_has cX0_has 2 (some .boolean), Cond.methodLink RX0 42 yX0_get, Cond.instanceMethod yX0_get, Cond.selects RX0 yX0_get yX0_get, Cond.code yX0_get cX0_get 2 (some .int), Cond.fieldLink RX0 15 "ThreeFiles$StoredFile" "bytes" "[I", Cond.methodLink RX0 46 yX0_lowByte, Cond.static yX0_lowByte, Cond.code yX0_lowByte cX0_lowByte 1 (some .int), Cond.methodLink RX0 49 yX0_sum, Cond.instanceMethod yX0_sum, Cond.selects RX0 yX0_sum yX0_sum, Cond.code yX0_sum cX0_sum 4 (some .int), Cond.constant RX0 60 (-1640531535), Cond.fieldLink RX0 9 "ThreeFiles$StoredFile" "number" "I", Cond.constant RX0 61 (374761393), Cond.methodLink RX0 52 yX0_hasSum, Cond.instanceMethod yX0_hasSum, Cond.selects RX0 yX0_hasSum yX0_hasSum, Cond.code yX0_hasSum cX0_hasSum 5 (some .boolean)]
def wsX1_badAt : List Cond := .code yX1_badAt cX1_badAt 3 (some .int) :: ((wsX1_badAt_r1 ++ wsX1_badAt_r2) ++ wsX10 ++ wsX00)
def wsX1_byteAt : List Cond := .code yX1_byteAt cX1_byteAt 4 (some .int) :: ([.fieldLink RX1 9 "ThreeFiles" "pieces" "I", .classLink RX1 111 RJx00060, .instantiable RJx00060 6, .initialized RJx00060, .fieldLink RX1 15 "ThreeFiles" "files" "[LThreeFiles$StoredFile;", .methodLink RX1 63 yX1_isFile, .static yX1_isFile, .initialized RX1, .code yX1_isFile cX1_isFile 1 (some .boolean), .instanceMethod yX0_get, .initialized RX0, .selects RX0 yX0_get yX0_get, .code yX0_get cX0_get 2 (some .int), .fieldLink RX0 22 "ThreeFiles$StoredFile" "length" "I", .fieldLink RX0 15 "ThreeFiles$StoredFile" "bytes" "[I"] ++ wsX10 ++ wsJx000600 ++ wsX00)
def wsX1_same : List Cond := .code yX1_same cX1_same 2 (some .boolean) :: ([.fieldLink RX1 118 "ThreeFiles" "everClosed" "Z", .fieldLink RX1 15 "ThreeFiles" "files" "[LThreeFiles$StoredFile;", .methodLink RX1 63 yX1_isFile, .static yX1_isFile, .initialized RX1, .code yX1_isFile cX1_isFile 1 (some .boolean), .instanceMethod yX0_isAsRemembered, .initialized RX0, .selects RX0 yX0_isAsRemembered yX0_isAsRemembered, .code yX0_isAsRemembered cX0_isAsRemembered 2 (some .boolean), .fieldLink RX0 22 "ThreeFiles$StoredFile" "length" "I", .fieldLink RX0 62 "ThreeFiles$StoredFile" "rememberedLength" "I", .fieldLink RX0 15 "ThreeFiles$StoredFile" "bytes" "[I", .fieldLink RX0 19 "ThreeFiles$StoredFile" "remembered" "[I"] ++ wsX10 ++ wsX00)
def wsX1_odd : List Cond := .code yX1_odd cX1_odd 2 (some .int) :: ([.methodLink RX1 56 yX1_stripeCount, .instanceMethod yX1_stripeCount, .selects RX1 yX1_stripeCount yX1_stripeCount, .initialized RX1, .code yX1_stripeCount cX1_stripeCount 3 (some .int), .fieldLink RX1 15 "ThreeFiles" "files" "[LThreeFiles$StoredFile;", .methodLink RX1 125 Lib.Math.max.name, .static Lib.Math.max.name, .initialized "java/lang/Math", .code Lib.Math.max.name Lib.Math.max.code 2 (some .int), .instanceMethod yX0_length, .initialized RX0, .selects RX0 yX0_length yX0_length, .code yX0_length cX0_length 1 (some .int), .fieldLink RX0 22 "ThreeFiles$StoredFile" "length" "I", .methodLink RX1 45 yX1_sumFile, .static yX1_sumFile, .code yX1_sumFile cX1_sumFile 1 (some .int)] ++ wsX10 ++ wsX00)
def wsX1_size : List Cond := .code yX1_size cX1_size 2 (some .int) :: ([.fieldLink RX1 15 "ThreeFiles" "files" "[LThreeFiles$StoredFile;", .methodLink RX1 63 yX1_isFile, .static yX1_isFile, .initialized RX1, .code yX1_isFile cX1_isFile 1 (some .boolean), .instanceMethod yX0_length, .initialized RX0, .selects RX0 yX0_length yX0_length, .code yX0_length cX0_length 1 (some .int), .fieldLink RX0 22 "ThreeFiles$StoredFile" "length" "I"] ++ wsX10 ++ wsX00)
def wsX2_init : List Cond := .code yX2_init cX2_init 2 none :: ([.methodLink RX2 1 objectInit, .instanceMethod objectInit, .code objectInit ⟨#[0xb1]⟩ 1 none, .arrayClass .int, .fieldLink RX2 7 "ThreeFilesModel" "bytes" "[I", .fieldLink RX2 13 "ThreeFilesModel" "sizes" "[I", .fieldLink RX2 16 "ThreeFilesModel" "oldBytes" "[I", .fieldLink RX2 19 "ThreeFilesModel" "oldSizes" "[I", .fieldLink RX2 22 "ThreeFilesModel" "feeds" "[I", .fieldLink RX2 25 "ThreeFilesModel" "made" "[I", .fieldLink RX2 28 "ThreeFilesModel" "pieces" "I"] ++ wsX20)
def wsX2_thrown : List Cond := .code yX2_thrown cX2_thrown 1 (some .int) :: ([.fieldLink RX2 32 "ThreeFilesModel" "thrown" "I"] ++ wsX20)
def wsX2_in : List Cond := .code yX2_in cX2_in 3 (some .boolean) :: ([])
def wsX2_stripes : List Cond := .code yX2_stripes cX2_stripes 3 (some .int) :: ([.fieldLink RX2 13 "ThreeFilesModel" "sizes" "[I"] ++ wsX20)
def wsX2_turned : List Cond := .code yX2_turned cX2_turned 3 (some .int) :: ([.constant RX2 35 (374761393)])
def wsX2_isGood : List Cond := .code yX2_isGood cX2_isGood 6 (some .boolean) :: ([.fieldLink RX2 13 "ThreeFilesModel" "sizes" "[I", .fieldLink RX2 7 "ThreeFilesModel" "bytes" "[I", .constant RX2 36 (-1640531535), .methodLink RX2 37 yX2_turned, .static yX2_turned, .initialized RX2, .code yX2_turned cX2_turned 3 (some .int), .constant RX2 35 (374761393)] ++ wsX20)
def wsX2_othersGood : List Cond := .code yX2_othersGood cX2_othersGood 3 (some .boolean) :: ([.methodLink RX2 41 yX2_isGood, .instanceMethod yX2_isGood, .selects RX2 yX2_isGood yX2_isGood, .initialized RX2, .code yX2_isGood cX2_isGood 6 (some .boolean), .fieldLink RX2 13 "ThreeFilesModel" "sizes" "[I", .fieldLink RX2 7 "ThreeFilesModel" "bytes" "[I", .constant RX2 36 (-1640531535), .methodLink RX2 37 yX2_turned, .static yX2_turned, .code yX2_turned cX2_turned 3 (some .int), .constant RX2 35 (374761393)] ++ wsX20)
def wsX2_finish : List Cond := .code yX2_finish cX2_finish 5 none :: ([.fieldLink RX2 25 "ThreeFilesModel" "made" "[I", .constant RX2 36 (-1640531535), .methodLink RX2 37 yX2_turned, .static yX2_turned, .initialized RX2, .code yX2_turned cX2_turned 3 (some .int), .constant RX2 35 (374761393)] ++ wsX20)
def wsX2_makeByOthers : List Cond := .code yX2_makeByOthers cX2_makeByOthers 6 none :: ([.fieldLink RX2 25 "ThreeFilesModel" "made" "[I", .fieldLink RX2 7 "ThreeFilesModel" "bytes" "[I", .methodLink RX2 45 yX2_finish, .instanceMethod yX2_finish, .selects RX2 yX2_finish yX2_finish, .initialized RX2, .code yX2_finish cX2_finish 5 none, .constant RX2 36 (-1640531535), .methodLink RX2 37 yX2_turned, .static yX2_turned, .code yX2_turned cX2_turned 3 (some .int), .constant RX2 35 (374761393)] ++ wsX20)
def wsX2_write : List Cond := .code yX2_write cX2_write 5 none :: ([.fieldLink RX2 13 "ThreeFilesModel" "sizes" "[I", .fieldLink RX2 7 "ThreeFilesModel" "bytes" "[I", .fieldLink RX2 25 "ThreeFilesModel" "made" "[I"] ++ wsX20)
def wsX2_writePlain : List Cond := .code yX2_writePlain cX2_writePlain 5 none :: ([.fieldLink RX2 25 "ThreeFilesModel" "made" "[I", .methodLink RX2 45 yX2_finish, .instanceMethod yX2_finish, .selects RX2 yX2_finish yX2_finish, .initialized RX2, .code yX2_finish cX2_finish 5 none, .constant RX2 36 (-1640531535), .methodLink RX2 37 yX2_turned, .static yX2_turned, .code yX2_turned cX2_turned 3 (some .int), .constant RX2 35 (374761393), .methodLink RX2 49 yX2_write, .instanceMethod yX2_write, .selects RX2 yX2_write yX2_write, .code yX2_write cX2_write 5 none, .fieldLink RX2 13 "ThreeFilesModel" "sizes" "[I", .fieldLink RX2 7 "ThreeFilesModel" "bytes" "[I"] ++ wsX20)
def wsX2_writeSum : List Cond := .code yX2_writeSum cX2_writeSum 2 none :: ([.methodLink RX2 52 yX2_makeByOthers, .instanceMethod yX2_makeByOthers, .selects RX2 yX2_makeByOthers yX2_makeByOthers, .initialized RX2, .code yX2_makeByOthers cX2_makeByOthers 6 none, .fieldLink RX2 25 "ThreeFilesModel" "made" "[I", .fieldLink RX2 7 "ThreeFilesModel" "bytes" "[I", .methodLink RX2 45 yX2_finish, .instanceMethod yX2_finish, .selects RX2 yX2_finish yX2_finish, .code yX2_finish cX2_finish 5 none, .constant RX2 36 (-1640531535), .methodLink RX2 37 yX2_turned, .static yX2_turned, .code yX2_turned cX2_turned 3 (some .int), .constant RX2 35 (374761393), .methodLink RX2 49 yX2_write, .instanceMethod yX2_write, .selects RX2 yX2_write yX2_write, .code yX2_write cX2_write 5 none, .fieldLink RX2 13 "ThreeFilesModel" "sizes" "[I"] ++ wsX20)
def wsX2_read_r1 : List Cond := [Cond.fieldLink RX2 25 "ThreeFilesModel" "made" "[I", Cond.fieldLink RX2 7 "ThreeFilesModel" "bytes" "[I", Cond.methodLink RX2 41 yX2_isGood, Cond.instanceMethod yX2_isGood, Cond.selects RX2 yX2_isGood yX2_isGood, Cond.initialized RX2, Cond.code yX2_isGood cX2_isGood 6 (some .boolean), Cond.fieldLink RX2 13 "ThreeFilesModel" "sizes" "[I", Cond.constant RX2 36 (-1640531535), Cond.methodLink RX2 37 yX2_turned, Cond.static yX2_turned, Cond.code yX2_turned cX2_turned 3 (some .int), Cond.constant RX2 35 (374761393), Cond.methodLink RX2 55 yX2_othersGood, Cond.instanceMethod yX2_othersGood, Cond.selects RX2 yX2_othersGood yX2_othersGood, Cond.code yX2_othersGood cX2_othersGood 3 (some .boolean), Cond.methodLink RX2 52 yX2_makeByOthers, Cond.instanceMethod yX2_makeByOthers, Cond.selects RX2 yX2_makeByOthers yX2_makeByOthers, Cond.code yX2_makeByOthers cX2_makeByOthers 6 none, Cond.methodLink RX2 45 yX2_finish, Cond.instanceMethod yX2_finish, Cond.selects RX2 yX2_finish yX2_finish]
def wsX2_read_r2 : List Cond := [Cond.code yX2_finish cX2_finish 5 none]
def wsX2_read : List Cond := .code yX2_read cX2_read 4 (some .boolean) :: ((wsX2_read_r1 ++ wsX2_read_r2) ++ wsX20)
def wsX2_fileOf : List Cond := .code yX2_fileOf cX2_fileOf 1 (some .int) :: ([])
def wsX2_mend_r1 : List Cond := [Cond.fieldLink RX2 58 "ThreeFilesModel" "mended" "I", Cond.methodLink RX2 41 yX2_isGood, Cond.instanceMethod yX2_isGood, Cond.selects RX2 yX2_isGood yX2_isGood, Cond.initialized RX2, Cond.code yX2_isGood cX2_isGood 6 (some .boolean), Cond.fieldLink RX2 13 "ThreeFilesModel" "sizes" "[I", Cond.fieldLink RX2 7 "ThreeFilesModel" "bytes" "[I", Cond.constant RX2 36 (-1640531535), Cond.methodLink RX2 37 yX2_turned, Cond.static yX2_turned, Cond.code yX2_turned cX2_turned 3 (some .int), Cond.constant RX2 35 (374761393), Cond.methodLink RX2 55 yX2_othersGood, Cond.instanceMethod yX2_othersGood, Cond.selects RX2 yX2_othersGood yX2_othersGood, Cond.code yX2_othersGood cX2_othersGood 3 (some .boolean), Cond.methodLink RX2 52 yX2_makeByOthers, Cond.instanceMethod yX2_makeByOthers, Cond.selects RX2 yX2_makeByOthers yX2_makeByOthers, Cond.code yX2_makeByOthers cX2_makeByOthers 6 none, Cond.fieldLink RX2 25 "ThreeFilesModel" "made" "[I", Cond.methodLink RX2 45 yX2_finish, Cond.instanceMethod yX2_finish]
def wsX2_mend_r2 : List Cond := [Cond.selects RX2 yX2_finish yX2_finish, Cond.code yX2_finish cX2_finish 5 none, Cond.methodLink RX2 49 yX2_write, Cond.instanceMethod yX2_write, Cond.selects RX2 yX2_write yX2_write, Cond.code yX2_write cX2_write 5 none]
def wsX2_mend : List Cond := .code yX2_mend cX2_mend 4 (some .boolean) :: ((wsX2_mend_r1 ++ wsX2_mend_r2) ++ wsX20)
def wsX2_feed : List Cond := .code yX2_feed cX2_feed 2 (some .boolean) :: ([.fieldLink RX2 32 "ThreeFilesModel" "thrown" "I", .fieldLink RX2 65 "ThreeFilesModel" "fed" "I", .fieldLink RX2 22 "ThreeFilesModel" "feeds" "[I", .methodLink RX2 61 yX2_in, .static yX2_in, .initialized RX2, .code yX2_in cX2_in 3 (some .boolean)] ++ wsX20)
def wsX2_writeRow : List Cond := .code yX2_writeRow cX2_writeRow 4 none :: ([.fieldLink RX2 25 "ThreeFilesModel" "made" "[I", .fieldLink RX2 65 "ThreeFilesModel" "fed" "I", .fieldLink RX2 22 "ThreeFilesModel" "feeds" "[I", .methodLink RX2 68 yX2_fileOf, .static yX2_fileOf, .initialized RX2, .code yX2_fileOf cX2_fileOf 1 (some .int), .methodLink RX2 45 yX2_finish, .instanceMethod yX2_finish, .selects RX2 yX2_finish yX2_finish, .code yX2_finish cX2_finish 5 none, .constant RX2 36 (-1640531535), .methodLink RX2 37 yX2_turned, .static yX2_turned, .code yX2_turned cX2_turned 3 (some .int), .constant RX2 35 (374761393), .methodLink RX2 49 yX2_write, .instanceMethod yX2_write, .selects RX2 yX2_write yX2_write, .code yX2_write cX2_write 5 none, .fieldLink RX2 13 "ThreeFilesModel" "sizes" "[I", .fieldLink RX2 7 "ThreeFilesModel" "bytes" "[I"] ++ wsX20)
def wsX2_row_r1 : List Cond := [Cond.fieldLink RX2 32 "ThreeFilesModel" "thrown" "I", Cond.fieldLink RX2 72 "ThreeFilesModel" "closed" "Z", Cond.fieldLink RX2 65 "ThreeFilesModel" "fed" "I", Cond.fieldLink RX2 7 "ThreeFilesModel" "bytes" "[I", Cond.fieldLink RX2 28 "ThreeFilesModel" "pieces" "I", Cond.methodLink RX2 61 yX2_in, Cond.static yX2_in, Cond.initialized RX2, Cond.code yX2_in cX2_in 3 (some .boolean), Cond.methodLink RX2 76 yX2_stripes, Cond.instanceMethod yX2_stripes, Cond.selects RX2 yX2_stripes yX2_stripes, Cond.code yX2_stripes cX2_stripes 3 (some .int), Cond.fieldLink RX2 13 "ThreeFilesModel" "sizes" "[I", Cond.methodLink RX2 68 yX2_fileOf, Cond.static yX2_fileOf, Cond.code yX2_fileOf cX2_fileOf 1 (some .int), Cond.methodLink RX2 41 yX2_isGood, Cond.instanceMethod yX2_isGood, Cond.selects RX2 yX2_isGood yX2_isGood, Cond.code yX2_isGood cX2_isGood 6 (some .boolean), Cond.constant RX2 36 (-1640531535), Cond.methodLink RX2 37 yX2_turned, Cond.static yX2_turned]
def wsX2_row_r2 : List Cond := [Cond.code yX2_turned cX2_turned 3 (some .int), Cond.constant RX2 35 (374761393), Cond.methodLink RX2 80 yX2_writeRow, Cond.instanceMethod yX2_writeRow, Cond.selects RX2 yX2_writeRow yX2_writeRow, Cond.code yX2_writeRow cX2_writeRow 4 none, Cond.fieldLink RX2 25 "ThreeFilesModel" "made" "[I", Cond.fieldLink RX2 22 "ThreeFilesModel" "feeds" "[I", Cond.methodLink RX2 45 yX2_finish, Cond.instanceMethod yX2_finish, Cond.selects RX2 yX2_finish yX2_finish, Cond.code yX2_finish cX2_finish 5 none, Cond.methodLink RX2 49 yX2_write, Cond.instanceMethod yX2_write, Cond.selects RX2 yX2_write yX2_write, Cond.code yX2_write cX2_write 5 none, Cond.methodLink RX2 83 yX2_writePlain, Cond.instanceMethod yX2_writePlain, Cond.selects RX2 yX2_writePlain yX2_writePlain, Cond.code yX2_writePlain cX2_writePlain 5 none, Cond.methodLink RX2 87 yX2_writeSum, Cond.instanceMethod yX2_writeSum, Cond.selects RX2 yX2_writeSum yX2_writeSum, Cond.code yX2_writeSum cX2_writeSum 2 none]
def wsX2_row_r3 : List Cond := [Cond.methodLink RX2 52 yX2_makeByOthers, Cond.instanceMethod yX2_makeByOthers, Cond.selects RX2 yX2_makeByOthers yX2_makeByOthers, Cond.code yX2_makeByOthers cX2_makeByOthers 6 none]
def wsX2_row : List Cond := .code yX2_row cX2_row 6 (some .int) :: ((wsX2_row_r1 ++ (wsX2_row_r2 ++ wsX2_row_r3)) ++ wsX20)
def wsX2_find_r1 : List Cond := [Cond.fieldLink RX2 32 "ThreeFilesModel" "thrown" "I", Cond.fieldLink RX2 25 "ThreeFilesModel" "made" "[I", Cond.methodLink RX2 76 yX2_stripes, Cond.instanceMethod yX2_stripes, Cond.selects RX2 yX2_stripes yX2_stripes, Cond.initialized RX2, Cond.code yX2_stripes cX2_stripes 3 (some .int), Cond.fieldLink RX2 13 "ThreeFilesModel" "sizes" "[I", Cond.methodLink RX2 61 yX2_in, Cond.static yX2_in, Cond.code yX2_in cX2_in 3 (some .boolean), Cond.methodLink RX2 68 yX2_fileOf, Cond.static yX2_fileOf, Cond.code yX2_fileOf cX2_fileOf 1 (some .int), Cond.methodLink RX2 91 yX2_read, Cond.instanceMethod yX2_read, Cond.selects RX2 yX2_read yX2_read, Cond.code yX2_read cX2_read 4 (some .boolean), Cond.fieldLink RX2 7 "ThreeFilesModel" "bytes" "[I", Cond.methodLink RX2 41 yX2_isGood, Cond.instanceMethod yX2_isGood, Cond.selects RX2 yX2_isGood yX2_isGood, Cond.code yX2_isGood cX2_isGood 6 (some .boolean), Cond.constant RX2 36 (-1640531535)]
def wsX2_find_r2 : List Cond := [Cond.methodLink RX2 37 yX2_turned, Cond.static yX2_turned, Cond.code yX2_turned cX2_turned 3 (some .int), Cond.constant RX2 35 (374761393), Cond.methodLink RX2 55 yX2_othersGood, Cond.instanceMethod yX2_othersGood, Cond.selects RX2 yX2_othersGood yX2_othersGood, Cond.code yX2_othersGood cX2_othersGood 3 (some .boolean), Cond.methodLink RX2 52 yX2_makeByOthers, Cond.instanceMethod yX2_makeByOthers, Cond.selects RX2 yX2_makeByOthers yX2_makeByOthers, Cond.code yX2_makeByOthers cX2_makeByOthers 6 none, Cond.methodLink RX2 45 yX2_finish, Cond.instanceMethod yX2_finish, Cond.selects RX2 yX2_finish yX2_finish, Cond.code yX2_finish cX2_finish 5 none]
def wsX2_find : List Cond := .code yX2_find cX2_find 3 (some .int) :: ((wsX2_find_r1 ++ wsX2_find_r2) ++ wsX20)
def wsX2_rows_r1 : List Cond := [Cond.fieldLink RX2 32 "ThreeFilesModel" "thrown" "I", Cond.fieldLink RX2 25 "ThreeFilesModel" "made" "[I", Cond.methodLink RX2 76 yX2_stripes, Cond.instanceMethod yX2_stripes, Cond.selects RX2 yX2_stripes yX2_stripes, Cond.initialized RX2, Cond.code yX2_stripes cX2_stripes 3 (some .int), Cond.fieldLink RX2 13 "ThreeFilesModel" "sizes" "[I", Cond.methodLink RX2 61 yX2_in, Cond.static yX2_in, Cond.code yX2_in cX2_in 3 (some .boolean), Cond.methodLink RX2 68 yX2_fileOf, Cond.static yX2_fileOf, Cond.code yX2_fileOf cX2_fileOf 1 (some .int), Cond.methodLink RX2 91 yX2_read, Cond.instanceMethod yX2_read, Cond.selects RX2 yX2_read yX2_read, Cond.code yX2_read cX2_read 4 (some .boolean), Cond.fieldLink RX2 7 "ThreeFilesModel" "bytes" "[I", Cond.methodLink RX2 41 yX2_isGood, Cond.instanceMethod yX2_isGood, Cond.selects RX2 yX2_isGood yX2_isGood, Cond.code yX2_isGood cX2_isGood 6 (some .boolean), Cond.constant RX2 36 (-1640531535)]
def wsX2_rows_r2 : List Cond := [Cond.methodLink RX2 37 yX2_turned, Cond.static yX2_turned, Cond.code yX2_turned cX2_turned 3 (some .int), Cond.constant RX2 35 (374761393), Cond.methodLink RX2 55 yX2_othersGood, Cond.instanceMethod yX2_othersGood, Cond.selects RX2 yX2_othersGood yX2_othersGood, Cond.code yX2_othersGood cX2_othersGood 3 (some .boolean), Cond.methodLink RX2 52 yX2_makeByOthers, Cond.instanceMethod yX2_makeByOthers, Cond.selects RX2 yX2_makeByOthers yX2_makeByOthers, Cond.code yX2_makeByOthers cX2_makeByOthers 6 none, Cond.methodLink RX2 45 yX2_finish, Cond.instanceMethod yX2_finish, Cond.selects RX2 yX2_finish yX2_finish, Cond.code yX2_finish cX2_finish 5 none]
def wsX2_rows : List Cond := .code yX2_rows cX2_rows 4 (some .int) :: ((wsX2_rows_r1 ++ wsX2_rows_r2) ++ wsX20)
def wsX2_drop_r1 : List Cond := [Cond.fieldLink RX2 32 "ThreeFilesModel" "thrown" "I", Cond.fieldLink RX2 72 "ThreeFilesModel" "closed" "Z", Cond.fieldLink RX2 7 "ThreeFilesModel" "bytes" "[I", Cond.methodLink RX2 61 yX2_in, Cond.static yX2_in, Cond.initialized RX2, Cond.code yX2_in cX2_in 3 (some .boolean), Cond.methodLink RX2 76 yX2_stripes, Cond.instanceMethod yX2_stripes, Cond.selects RX2 yX2_stripes yX2_stripes, Cond.code yX2_stripes cX2_stripes 3 (some .int), Cond.fieldLink RX2 13 "ThreeFilesModel" "sizes" "[I", Cond.methodLink RX2 68 yX2_fileOf, Cond.static yX2_fileOf, Cond.code yX2_fileOf cX2_fileOf 1 (some .int), Cond.methodLink RX2 41 yX2_isGood, Cond.instanceMethod yX2_isGood, Cond.selects RX2 yX2_isGood yX2_isGood, Cond.code yX2_isGood cX2_isGood 6 (some .boolean), Cond.constant RX2 36 (-1640531535), Cond.methodLink RX2 37 yX2_turned, Cond.static yX2_turned, Cond.code yX2_turned cX2_turned 3 (some .int), Cond.constant RX2 35 (374761393)]
def wsX2_drop_r2 : List Cond := [Cond.methodLink RX2 83 yX2_writePlain, Cond.instanceMethod yX2_writePlain, Cond.selects RX2 yX2_writePlain yX2_writePlain, Cond.code yX2_writePlain cX2_writePlain 5 none, Cond.fieldLink RX2 25 "ThreeFilesModel" "made" "[I", Cond.methodLink RX2 45 yX2_finish, Cond.instanceMethod yX2_finish, Cond.selects RX2 yX2_finish yX2_finish, Cond.code yX2_finish cX2_finish 5 none, Cond.methodLink RX2 49 yX2_write, Cond.instanceMethod yX2_write, Cond.selects RX2 yX2_write yX2_write, Cond.code yX2_write cX2_write 5 none, Cond.methodLink RX2 87 yX2_writeSum, Cond.instanceMethod yX2_writeSum, Cond.selects RX2 yX2_writeSum yX2_writeSum, Cond.code yX2_writeSum cX2_writeSum 2 none, Cond.methodLink RX2 52 yX2_makeByOthers, Cond.instanceMethod yX2_makeByOthers, Cond.selects RX2 yX2_makeByOthers yX2_makeByOthers, Cond.code yX2_makeByOthers cX2_makeByOthers 6 none]
def wsX2_drop : List Cond := .code yX2_drop cX2_drop 7 (some .boolean) :: ((wsX2_drop_r1 ++ wsX2_drop_r2) ++ wsX20)
def wsX2_close : List Cond := .code yX2_close cX2_close 2 none :: ([.fieldLink RX2 72 "ThreeFilesModel" "closed" "Z", .fieldLink RX2 16 "ThreeFilesModel" "oldBytes" "[I", .fieldLink RX2 7 "ThreeFilesModel" "bytes" "[I", .fieldLink RX2 19 "ThreeFilesModel" "oldSizes" "[I", .fieldLink RX2 13 "ThreeFilesModel" "sizes" "[I", .fieldLink RX2 94 "ThreeFilesModel" "wasClosed" "Z"] ++ wsX20)
def wsX2_crash : List Cond := .code yX2_crash cX2_crash 3 (some .boolean) :: ([.fieldLink RX2 32 "ThreeFilesModel" "thrown" "I", .fieldLink RX2 13 "ThreeFilesModel" "sizes" "[I", .methodLink RX2 61 yX2_in, .static yX2_in, .initialized RX2, .code yX2_in cX2_in 3 (some .boolean), .methodLink RX2 97 yX2_close, .instanceMethod yX2_close, .selects RX2 yX2_close yX2_close, .code yX2_close cX2_close 2 none, .fieldLink RX2 72 "ThreeFilesModel" "closed" "Z", .fieldLink RX2 16 "ThreeFilesModel" "oldBytes" "[I", .fieldLink RX2 7 "ThreeFilesModel" "bytes" "[I", .fieldLink RX2 19 "ThreeFilesModel" "oldSizes" "[I", .fieldLink RX2 94 "ThreeFilesModel" "wasClosed" "Z"] ++ wsX20)
def wsX2_lose : List Cond := .code yX2_lose cX2_lose 2 (some .boolean) :: ([.fieldLink RX2 32 "ThreeFilesModel" "thrown" "I", .fieldLink RX2 13 "ThreeFilesModel" "sizes" "[I", .methodLink RX2 61 yX2_in, .static yX2_in, .initialized RX2, .code yX2_in cX2_in 3 (some .boolean), .methodLink RX2 97 yX2_close, .instanceMethod yX2_close, .selects RX2 yX2_close yX2_close, .code yX2_close cX2_close 2 none, .fieldLink RX2 72 "ThreeFilesModel" "closed" "Z", .fieldLink RX2 16 "ThreeFilesModel" "oldBytes" "[I", .fieldLink RX2 7 "ThreeFilesModel" "bytes" "[I", .fieldLink RX2 19 "ThreeFilesModel" "oldSizes" "[I", .fieldLink RX2 94 "ThreeFilesModel" "wasClosed" "Z"] ++ wsX20)
def wsX2_poke : List Cond := .code yX2_poke cX2_poke 4 (some .boolean) :: ([.fieldLink RX2 32 "ThreeFilesModel" "thrown" "I", .fieldLink RX2 13 "ThreeFilesModel" "sizes" "[I", .fieldLink RX2 7 "ThreeFilesModel" "bytes" "[I", .methodLink RX2 61 yX2_in, .static yX2_in, .initialized RX2, .code yX2_in cX2_in 3 (some .boolean), .methodLink RX2 97 yX2_close, .instanceMethod yX2_close, .selects RX2 yX2_close yX2_close, .code yX2_close cX2_close 2 none, .fieldLink RX2 72 "ThreeFilesModel" "closed" "Z", .fieldLink RX2 16 "ThreeFilesModel" "oldBytes" "[I", .fieldLink RX2 19 "ThreeFilesModel" "oldSizes" "[I", .fieldLink RX2 94 "ThreeFilesModel" "wasClosed" "Z"] ++ wsX20)
def wsX2_reopen_r1 : List Cond := [Cond.fieldLink RX2 32 "ThreeFilesModel" "thrown" "I", Cond.fieldLink RX2 13 "ThreeFilesModel" "sizes" "[I", Cond.fieldLink RX2 7 "ThreeFilesModel" "bytes" "[I", Cond.fieldLink RX2 72 "ThreeFilesModel" "closed" "Z", Cond.fieldLink RX2 25 "ThreeFilesModel" "made" "[I", Cond.methodLink RX2 76 yX2_stripes, Cond.instanceMethod yX2_stripes, Cond.selects RX2 yX2_stripes yX2_stripes, Cond.initialized RX2, Cond.code yX2_stripes cX2_stripes 3 (some .int), Cond.methodLink RX2 100 yX2_mend, Cond.instanceMethod yX2_mend, Cond.selects RX2 yX2_mend yX2_mend, Cond.code yX2_mend cX2_mend 4 (some .boolean), Cond.fieldLink RX2 58 "ThreeFilesModel" "mended" "I", Cond.methodLink RX2 41 yX2_isGood, Cond.instanceMethod yX2_isGood, Cond.selects RX2 yX2_isGood yX2_isGood, Cond.code yX2_isGood cX2_isGood 6 (some .boolean), Cond.constant RX2 36 (-1640531535), Cond.methodLink RX2 37 yX2_turned, Cond.static yX2_turned, Cond.code yX2_turned cX2_turned 3 (some .int), Cond.constant RX2 35 (374761393)]
def wsX2_reopen_r2 : List Cond := [Cond.methodLink RX2 55 yX2_othersGood, Cond.instanceMethod yX2_othersGood, Cond.selects RX2 yX2_othersGood yX2_othersGood, Cond.code yX2_othersGood cX2_othersGood 3 (some .boolean), Cond.methodLink RX2 52 yX2_makeByOthers, Cond.instanceMethod yX2_makeByOthers, Cond.selects RX2 yX2_makeByOthers yX2_makeByOthers, Cond.code yX2_makeByOthers cX2_makeByOthers 6 none, Cond.methodLink RX2 45 yX2_finish, Cond.instanceMethod yX2_finish, Cond.selects RX2 yX2_finish yX2_finish, Cond.code yX2_finish cX2_finish 5 none, Cond.methodLink RX2 49 yX2_write, Cond.instanceMethod yX2_write, Cond.selects RX2 yX2_write yX2_write, Cond.code yX2_write cX2_write 5 none, Cond.methodLink RX2 68 yX2_fileOf, Cond.static yX2_fileOf, Cond.code yX2_fileOf cX2_fileOf 1 (some .int), Cond.methodLink RX2 91 yX2_read, Cond.instanceMethod yX2_read, Cond.selects RX2 yX2_read yX2_read, Cond.code yX2_read cX2_read 4 (some .boolean)]
def wsX2_reopen : List Cond := .code yX2_reopen cX2_reopen 5 (some .int) :: ((wsX2_reopen_r1 ++ wsX2_reopen_r2) ++ wsX20)
def wsX2_scrub_r1 : List Cond := [Cond.fieldLink RX2 32 "ThreeFilesModel" "thrown" "I", Cond.fieldLink RX2 13 "ThreeFilesModel" "sizes" "[I", Cond.fieldLink RX2 103 "ThreeFilesModel" "scrubbed" "I", Cond.methodLink RX2 76 yX2_stripes, Cond.instanceMethod yX2_stripes, Cond.selects RX2 yX2_stripes yX2_stripes, Cond.initialized RX2, Cond.code yX2_stripes cX2_stripes 3 (some .int), Cond.methodLink RX2 100 yX2_mend, Cond.instanceMethod yX2_mend, Cond.selects RX2 yX2_mend yX2_mend, Cond.code yX2_mend cX2_mend 4 (some .boolean), Cond.fieldLink RX2 58 "ThreeFilesModel" "mended" "I", Cond.methodLink RX2 41 yX2_isGood, Cond.instanceMethod yX2_isGood, Cond.selects RX2 yX2_isGood yX2_isGood, Cond.code yX2_isGood cX2_isGood 6 (some .boolean), Cond.fieldLink RX2 7 "ThreeFilesModel" "bytes" "[I", Cond.constant RX2 36 (-1640531535), Cond.methodLink RX2 37 yX2_turned, Cond.static yX2_turned, Cond.code yX2_turned cX2_turned 3 (some .int), Cond.constant RX2 35 (374761393), Cond.methodLink RX2 55 yX2_othersGood]
def wsX2_scrub_r2 : List Cond := [Cond.instanceMethod yX2_othersGood, Cond.selects RX2 yX2_othersGood yX2_othersGood, Cond.code yX2_othersGood cX2_othersGood 3 (some .boolean), Cond.methodLink RX2 52 yX2_makeByOthers, Cond.instanceMethod yX2_makeByOthers, Cond.selects RX2 yX2_makeByOthers yX2_makeByOthers, Cond.code yX2_makeByOthers cX2_makeByOthers 6 none, Cond.fieldLink RX2 25 "ThreeFilesModel" "made" "[I", Cond.methodLink RX2 45 yX2_finish, Cond.instanceMethod yX2_finish, Cond.selects RX2 yX2_finish yX2_finish, Cond.code yX2_finish cX2_finish 5 none, Cond.methodLink RX2 49 yX2_write, Cond.instanceMethod yX2_write, Cond.selects RX2 yX2_write yX2_write, Cond.code yX2_write cX2_write 5 none]
def wsX2_scrub : List Cond := .code yX2_scrub cX2_scrub 7 (some .int) :: ((wsX2_scrub_r1 ++ wsX2_scrub_r2) ++ wsX20)
def wsX2_mended : List Cond := .code yX2_mended cX2_mended 1 (some .int) :: ([.fieldLink RX2 32 "ThreeFilesModel" "thrown" "I", .fieldLink RX2 58 "ThreeFilesModel" "mended" "I"] ++ wsX20)
def wsX2_badAt : List Cond := .code yX2_badAt cX2_badAt 5 (some .int) :: ([.fieldLink RX2 32 "ThreeFilesModel" "thrown" "I", .methodLink RX2 76 yX2_stripes, .instanceMethod yX2_stripes, .selects RX2 yX2_stripes yX2_stripes, .initialized RX2, .code yX2_stripes cX2_stripes 3 (some .int), .fieldLink RX2 13 "ThreeFilesModel" "sizes" "[I", .methodLink RX2 41 yX2_isGood, .instanceMethod yX2_isGood, .selects RX2 yX2_isGood yX2_isGood, .code yX2_isGood cX2_isGood 6 (some .boolean), .fieldLink RX2 7 "ThreeFilesModel" "bytes" "[I", .constant RX2 36 (-1640531535), .methodLink RX2 37 yX2_turned, .static yX2_turned, .code yX2_turned cX2_turned 3 (some .int), .constant RX2 35 (374761393)] ++ wsX20)
def wsX2_byteAt : List Cond := .code yX2_byteAt cX2_byteAt 4 (some .int) :: ([.fieldLink RX2 28 "ThreeFilesModel" "pieces" "I", .fieldLink RX2 32 "ThreeFilesModel" "thrown" "I", .fieldLink RX2 13 "ThreeFilesModel" "sizes" "[I", .fieldLink RX2 7 "ThreeFilesModel" "bytes" "[I", .methodLink RX2 61 yX2_in, .static yX2_in, .initialized RX2, .code yX2_in cX2_in 3 (some .boolean)] ++ wsX20)
def wsX2_same : List Cond := .code yX2_same cX2_same 4 (some .boolean) :: ([.fieldLink RX2 32 "ThreeFilesModel" "thrown" "I", .fieldLink RX2 94 "ThreeFilesModel" "wasClosed" "Z", .fieldLink RX2 13 "ThreeFilesModel" "sizes" "[I", .fieldLink RX2 19 "ThreeFilesModel" "oldSizes" "[I", .fieldLink RX2 7 "ThreeFilesModel" "bytes" "[I", .fieldLink RX2 16 "ThreeFilesModel" "oldBytes" "[I", .methodLink RX2 61 yX2_in, .static yX2_in, .initialized RX2, .code yX2_in cX2_in 3 (some .boolean)] ++ wsX20)
def wsX2_odd : List Cond := .code yX2_odd cX2_odd 2 (some .int) :: ([.fieldLink RX2 32 "ThreeFilesModel" "thrown" "I", .methodLink RX2 76 yX2_stripes, .instanceMethod yX2_stripes, .selects RX2 yX2_stripes yX2_stripes, .initialized RX2, .code yX2_stripes cX2_stripes 3 (some .int), .fieldLink RX2 13 "ThreeFilesModel" "sizes" "[I", .methodLink RX2 61 yX2_in, .static yX2_in, .code yX2_in cX2_in 3 (some .boolean)] ++ wsX20)
def wsX2_size : List Cond := .code yX2_size cX2_size 2 (some .int) :: ([.fieldLink RX2 32 "ThreeFilesModel" "thrown" "I", .fieldLink RX2 13 "ThreeFilesModel" "sizes" "[I", .methodLink RX2 61 yX2_in, .static yX2_in, .initialized RX2, .code yX2_in cX2_in 3 (some .boolean)] ++ wsX20)
def wsJx00060_init_a7421 : List Cond := .code yJx00060_init_a7421 cJx00060_init_a7421 2 none :: ([])
def wsJ9_max_7cf53 : List Cond := .code yJ9_max_7cf53 cJ9_max_7cf53 2 (some .int) :: ([])
def wsJ9_min_7cf53 : List Cond := .code yJ9_min_7cf53 cJ9_min_7cf53 2 (some .int) :: ([])
def wsL_cell : List Cond := .code yL_cell cL_cell 2 (some .int) :: ([])
def wsL_byteAt : List Cond := .codeWith yL_byteAt cL_byteAt 6 (some .int) [(0, 12, 15, 13)] :: ([.methodLink RL 7 yX1_byteAt, .instanceMethod yX1_byteAt, .selects RX1 yX1_byteAt yX1_byteAt, .initialized RX1, .code yX1_byteAt cX1_byteAt 4 (some .int), .fieldLink RX1 9 "ThreeFiles" "pieces" "I", .classLink RX1 111 RJx00060, .instantiable RJx00060 6, .initialized RJx00060, .fieldLink RX1 15 "ThreeFiles" "files" "[LThreeFiles$StoredFile;", .methodLink RX1 63 yX1_isFile, .static yX1_isFile, .code yX1_isFile cX1_isFile 1 (some .boolean), .instanceMethod yX0_get, .initialized RX0, .selects RX0 yX0_get yX0_get, .code yX0_get cX0_get 2 (some .int), .fieldLink RX0 22 "ThreeFiles$StoredFile" "length" "I", .fieldLink RX0 15 "ThreeFiles$StoredFile" "bytes" "[I"] ++ wsX10 ++ wsJx000600 ++ wsX00)
def wsL_law_r1 : List Cond := [Cond.classLink RL 8 RX1, Cond.instantiable RX1 8, Cond.initialized RX1, Cond.classLink RL 24 RX2, Cond.instantiable RX2 13, Cond.initialized RX2, Cond.arrayClass .long, Cond.methodLink RL 15 yL_cell, Cond.static yL_cell, Cond.initialized RL, Cond.code yL_cell cL_cell 2 (some .int), Cond.methodLink RL 21 yX1_init, Cond.instanceMethod yX1_init, Cond.code yX1_init cX1_init 3 none, Cond.methodLink RX1 1 objectInit, Cond.instanceMethod objectInit, Cond.code objectInit ⟨#[0xb1]⟩ 1 none, Cond.fieldLink RX1 9 "ThreeFiles" "pieces" "I", Cond.classLink RX1 13 RX0, Cond.fieldLink RX1 15 "ThreeFiles" "files" "[LThreeFiles$StoredFile;", Cond.instantiable RX0 5, Cond.initialized RX0, Cond.arrayClass .int, Cond.fieldLink RX1 22 "ThreeFiles" "fed" "[I"]
def wsL_law_r2 : List Cond := [Cond.instanceMethod yX0_init, Cond.code yX0_init cX0_init 3 none, Cond.methodLink RX0 3 objectInit, Cond.fieldLink RX0 9 "ThreeFiles$StoredFile" "number" "I", Cond.fieldLink RX0 15 "ThreeFiles$StoredFile" "bytes" "[I", Cond.fieldLink RX0 19 "ThreeFiles$StoredFile" "remembered" "[I", Cond.methodLink RL 26 yX2_init, Cond.instanceMethod yX2_init, Cond.code yX2_init cX2_init 2 none, Cond.methodLink RX2 1 objectInit, Cond.fieldLink RX2 7 "ThreeFilesModel" "bytes" "[I", Cond.fieldLink RX2 13 "ThreeFilesModel" "sizes" "[I", Cond.fieldLink RX2 16 "ThreeFilesModel" "oldBytes" "[I", Cond.fieldLink RX2 19 "ThreeFilesModel" "oldSizes" "[I", Cond.fieldLink RX2 22 "ThreeFilesModel" "feeds" "[I", Cond.fieldLink RX2 25 "ThreeFilesModel" "made" "[I", Cond.fieldLink RX2 28 "ThreeFilesModel" "pieces" "I", Cond.methodLink RL 27 yX1_feed, Cond.instanceMethod yX1_feed, Cond.selects RX1 yX1_feed yX1_feed, Cond.code yX1_feed cX1_feed 2 (some .boolean), Cond.fieldLink RX1 26 "ThreeFiles" "fedCount" "I", Cond.methodLink RL 31 yX2_feed, Cond.instanceMethod yX2_feed]
def wsL_law_r3 : List Cond := [Cond.selects RX2 yX2_feed yX2_feed, Cond.code yX2_feed cX2_feed 2 (some .boolean), Cond.fieldLink RX2 32 "ThreeFilesModel" "thrown" "I", Cond.fieldLink RX2 65 "ThreeFilesModel" "fed" "I", Cond.methodLink RX2 61 yX2_in, Cond.static yX2_in, Cond.code yX2_in cX2_in 3 (some .boolean), Cond.methodLink RL 32 yX1_row, Cond.instanceMethod yX1_row, Cond.selects RX1 yX1_row yX1_row, Cond.code yX1_row cX1_row 4 (some .int), Cond.fieldLink RX1 29 "ThreeFiles" "closed" "Z", Cond.methodLink RX1 33 yX1_isYear, Cond.static yX1_isYear, Cond.code yX1_isYear cX1_isYear 1 (some .boolean), Cond.methodLink RX1 37 yX1_nextRow, Cond.instanceMethod yX1_nextRow, Cond.selects RX1 yX1_nextRow yX1_nextRow, Cond.code yX1_nextRow cX1_nextRow 2 (some .int), Cond.methodLink RX1 56 yX1_stripeCount, Cond.instanceMethod yX1_stripeCount, Cond.selects RX1 yX1_stripeCount yX1_stripeCount, Cond.code yX1_stripeCount cX1_stripeCount 3 (some .int), Cond.methodLink RX1 125 Lib.Math.max.name]
def wsL_law_r4 : List Cond := [Cond.static Lib.Math.max.name, Cond.initialized "java/lang/Math", Cond.code Lib.Math.max.name Lib.Math.max.code 2 (some .int), Cond.instanceMethod yX0_length, Cond.selects RX0 yX0_length yX0_length, Cond.code yX0_length cX0_length 1 (some .int), Cond.fieldLink RX0 22 "ThreeFiles$StoredFile" "length" "I", Cond.methodLink RX1 141 yX1_isFree, Cond.instanceMethod yX1_isFree, Cond.selects RX1 yX1_isFree yX1_isFree, Cond.code yX1_isFree cX1_isFree 2 (some .boolean), Cond.methodLink RX1 108 yX1_goodPieces, Cond.instanceMethod yX1_goodPieces, Cond.selects RX1 yX1_goodPieces yX1_goodPieces, Cond.code yX1_goodPieces cX1_goodPieces 4 (some .int), Cond.instanceMethod yX0_isGood, Cond.selects RX0 yX0_isGood yX0_isGood, Cond.code yX0_isGood cX0_isGood 3 (some .boolean), Cond.methodLink RX0 25 yX0_has, Cond.instanceMethod yX0_has, Cond.selects RX0 yX0_has yX0_has, Cond.code yX0_has cX0_has 2 (some .boolean), Cond.methodLink RX0 42 yX0_get, Cond.instanceMethod yX0_get]
def wsL_law_r5 : List Cond := [Cond.selects RX0 yX0_get yX0_get, Cond.code yX0_get cX0_get 2 (some .int), Cond.methodLink RX0 46 yX0_lowByte, Cond.static yX0_lowByte, Cond.code yX0_lowByte cX0_lowByte 1 (some .int), Cond.methodLink RX0 49 yX0_sum, Cond.instanceMethod yX0_sum, Cond.selects RX0 yX0_sum yX0_sum, Cond.code yX0_sum cX0_sum 4 (some .int), Cond.constant RX0 60 (-1640531535), Cond.constant RX0 61 (374761393), Cond.methodLink RX0 52 yX0_hasSum, Cond.instanceMethod yX0_hasSum, Cond.selects RX0 yX0_hasSum yX0_hasSum, Cond.code yX0_hasSum cX0_hasSum 5 (some .boolean), Cond.methodLink RX1 52 yX1_readRowByte, Cond.instanceMethod yX1_readRowByte, Cond.selects RX1 yX1_readRowByte yX1_readRowByte, Cond.code yX1_readRowByte cX1_readRowByte 5 (some .int), Cond.methodLink RX1 131 yX1_fileOfRow, Cond.static yX1_fileOfRow, Cond.code yX1_fileOfRow cX1_fileOfRow 1 (some .int), Cond.methodLink RX1 134 yX1_othersAreGood, Cond.instanceMethod yX1_othersAreGood]
def wsL_law_r6 : List Cond := [Cond.selects RX1 yX1_othersAreGood yX1_othersAreGood, Cond.code yX1_othersAreGood cX1_othersAreGood 3 (some .boolean), Cond.methodLink RX1 137 yX1_byteOfOthers, Cond.instanceMethod yX1_byteOfOthers, Cond.selects RX1 yX1_byteOfOthers yX1_byteOfOthers, Cond.code yX1_byteOfOthers cX1_byteOfOthers 5 (some .int), Cond.methodLink RX1 41 yX1_writeRow, Cond.instanceMethod yX1_writeRow, Cond.selects RX1 yX1_writeRow yX1_writeRow, Cond.code yX1_writeRow cX1_writeRow 8 none, Cond.instanceMethod yX0_reach, Cond.selects RX0 yX0_reach yX0_reach, Cond.code yX0_reach cX0_reach 2 none, Cond.methodLink RX0 38 yX0_setLength, Cond.instanceMethod yX0_setLength, Cond.selects RX0 yX0_setLength yX0_setLength, Cond.code yX0_setLength cX0_setLength 4 none, Cond.methodLink RX0 29 Lib.Math.min.name, Cond.static Lib.Math.min.name, Cond.code Lib.Math.min.name Lib.Math.min.code 2 (some .int), Cond.methodLink RX0 35 Lib.Math.max.name, Cond.instanceMethod yX0_set, Cond.selects RX0 yX0_set yX0_set, Cond.code yX0_set cX0_set 3 none]
def wsL_law_r7 : List Cond := [Cond.instanceMethod yX0_seal, Cond.selects RX0 yX0_seal yX0_seal, Cond.code yX0_seal cX0_seal 5 none, Cond.methodLink RX0 56 yX0_set, Cond.methodLink RX1 45 yX1_sumFile, Cond.static yX1_sumFile, Cond.code yX1_sumFile cX1_sumFile 1 (some .int), Cond.methodLink RX1 49 yX1_makeFromOthers, Cond.instanceMethod yX1_makeFromOthers, Cond.selects RX1 yX1_makeFromOthers yX1_makeFromOthers, Cond.code yX1_makeFromOthers cX1_makeFromOthers 5 none, Cond.methodLink RL 36 yX2_row, Cond.instanceMethod yX2_row, Cond.selects RX2 yX2_row yX2_row, Cond.code yX2_row cX2_row 6 (some .int), Cond.fieldLink RX2 72 "ThreeFilesModel" "closed" "Z", Cond.methodLink RX2 76 yX2_stripes, Cond.instanceMethod yX2_stripes, Cond.selects RX2 yX2_stripes yX2_stripes, Cond.code yX2_stripes cX2_stripes 3 (some .int), Cond.methodLink RX2 68 yX2_fileOf, Cond.static yX2_fileOf, Cond.code yX2_fileOf cX2_fileOf 1 (some .int), Cond.methodLink RX2 41 yX2_isGood]
def wsL_law_r8 : List Cond := [Cond.instanceMethod yX2_isGood, Cond.selects RX2 yX2_isGood yX2_isGood, Cond.code yX2_isGood cX2_isGood 6 (some .boolean), Cond.constant RX2 36 (-1640531535), Cond.methodLink RX2 37 yX2_turned, Cond.static yX2_turned, Cond.code yX2_turned cX2_turned 3 (some .int), Cond.constant RX2 35 (374761393), Cond.methodLink RX2 80 yX2_writeRow, Cond.instanceMethod yX2_writeRow, Cond.selects RX2 yX2_writeRow yX2_writeRow, Cond.code yX2_writeRow cX2_writeRow 4 none, Cond.methodLink RX2 45 yX2_finish, Cond.instanceMethod yX2_finish, Cond.selects RX2 yX2_finish yX2_finish, Cond.code yX2_finish cX2_finish 5 none, Cond.methodLink RX2 49 yX2_write, Cond.instanceMethod yX2_write, Cond.selects RX2 yX2_write yX2_write, Cond.code yX2_write cX2_write 5 none, Cond.methodLink RX2 83 yX2_writePlain, Cond.instanceMethod yX2_writePlain, Cond.selects RX2 yX2_writePlain yX2_writePlain, Cond.code yX2_writePlain cX2_writePlain 5 none]
def wsL_law_r9 : List Cond := [Cond.methodLink RX2 87 yX2_writeSum, Cond.instanceMethod yX2_writeSum, Cond.selects RX2 yX2_writeSum yX2_writeSum, Cond.code yX2_writeSum cX2_writeSum 2 none, Cond.methodLink RX2 52 yX2_makeByOthers, Cond.instanceMethod yX2_makeByOthers, Cond.selects RX2 yX2_makeByOthers yX2_makeByOthers, Cond.code yX2_makeByOthers cX2_makeByOthers 6 none, Cond.methodLink RL 37 yX1_find, Cond.instanceMethod yX1_find, Cond.selects RX1 yX1_find yX1_find, Cond.code yX1_find cX1_find 3 (some .int), Cond.methodLink RL 41 yX2_find, Cond.instanceMethod yX2_find, Cond.selects RX2 yX2_find yX2_find, Cond.code yX2_find cX2_find 3 (some .int), Cond.methodLink RX2 91 yX2_read, Cond.instanceMethod yX2_read, Cond.selects RX2 yX2_read yX2_read, Cond.code yX2_read cX2_read 4 (some .boolean), Cond.methodLink RX2 55 yX2_othersGood, Cond.instanceMethod yX2_othersGood, Cond.selects RX2 yX2_othersGood yX2_othersGood, Cond.code yX2_othersGood cX2_othersGood 3 (some .boolean)]
def wsL_law_r10 : List Cond := [Cond.methodLink RL 42 yX1_rows, Cond.instanceMethod yX1_rows, Cond.selects RX1 yX1_rows yX1_rows, Cond.code yX1_rows cX1_rows 5 (some .int), Cond.methodLink RL 45 yX2_rows, Cond.instanceMethod yX2_rows, Cond.selects RX2 yX2_rows yX2_rows, Cond.code yX2_rows cX2_rows 4 (some .int), Cond.methodLink RL 46 yX1_drop, Cond.instanceMethod yX1_drop, Cond.selects RX1 yX1_drop yX1_drop, Cond.code yX1_drop cX1_drop 5 (some .boolean), Cond.methodLink RX1 59 yX1_dropInStripe, Cond.instanceMethod yX1_dropInStripe, Cond.selects RX1 yX1_dropInStripe yX1_dropInStripe, Cond.code yX1_dropInStripe cX1_dropInStripe 6 (some .boolean), Cond.methodLink RX1 150 yX1_dropRow, Cond.instanceMethod yX1_dropRow, Cond.selects RX1 yX1_dropRow yX1_dropRow, Cond.code yX1_dropRow cX1_dropRow 5 (some .boolean), Cond.methodLink RL 49 yX2_drop, Cond.instanceMethod yX2_drop, Cond.selects RX2 yX2_drop yX2_drop, Cond.code yX2_drop cX2_drop 7 (some .boolean)]
def wsL_law_r11 : List Cond := [Cond.methodLink RL 50 yX1_crash, Cond.instanceMethod yX1_crash, Cond.selects RX1 yX1_crash yX1_crash, Cond.code yX1_crash cX1_crash 3 (some .boolean), Cond.methodLink RX1 63 yX1_isFile, Cond.static yX1_isFile, Cond.code yX1_isFile cX1_isFile 1 (some .boolean), Cond.methodLink RX1 69 yX1_shut, Cond.instanceMethod yX1_shut, Cond.selects RX1 yX1_shut yX1_shut, Cond.code yX1_shut cX1_shut 2 none, Cond.fieldLink RX1 118 "ThreeFiles" "everClosed" "Z", Cond.instanceMethod yX0_remember, Cond.selects RX0 yX0_remember yX0_remember, Cond.code yX0_remember cX0_remember 2 none, Cond.fieldLink RX0 62 "ThreeFiles$StoredFile" "rememberedLength" "I", Cond.methodLink RL 54 yX2_crash, Cond.instanceMethod yX2_crash, Cond.selects RX2 yX2_crash yX2_crash, Cond.code yX2_crash cX2_crash 3 (some .boolean), Cond.methodLink RX2 97 yX2_close, Cond.instanceMethod yX2_close, Cond.selects RX2 yX2_close yX2_close, Cond.code yX2_close cX2_close 2 none]
def wsL_law_r12 : List Cond := [Cond.fieldLink RX2 94 "ThreeFilesModel" "wasClosed" "Z", Cond.methodLink RL 55 yX1_lose, Cond.instanceMethod yX1_lose, Cond.selects RX1 yX1_lose yX1_lose, Cond.code yX1_lose cX1_lose 2 (some .boolean), Cond.methodLink RX1 76 yX1_crash, Cond.methodLink RL 58 yX2_lose, Cond.instanceMethod yX2_lose, Cond.selects RX2 yX2_lose yX2_lose, Cond.code yX2_lose cX2_lose 2 (some .boolean), Cond.methodLink RL 59 yX1_poke, Cond.instanceMethod yX1_poke, Cond.selects RX1 yX1_poke yX1_poke, Cond.code yX1_poke cX1_poke 4 (some .boolean), Cond.methodLink RL 63 yX2_poke, Cond.instanceMethod yX2_poke, Cond.selects RX2 yX2_poke yX2_poke, Cond.code yX2_poke cX2_poke 4 (some .boolean), Cond.methodLink RL 64 yX1_reopen, Cond.instanceMethod yX1_reopen, Cond.selects RX1 yX1_reopen yX1_reopen, Cond.code yX1_reopen cX1_reopen 4 (some .int), Cond.methodLink RX1 88 yX1_mend, Cond.instanceMethod yX1_mend]
def wsL_law_r13 : List Cond := [Cond.selects RX1 yX1_mend yX1_mend, Cond.code yX1_mend cX1_mend 3 none, Cond.fieldLink RX1 105 "ThreeFiles" "mendedCount" "I", Cond.methodLink RX1 91 yX1_readableRowsWithContents, Cond.instanceMethod yX1_readableRowsWithContents, Cond.selects RX1 yX1_readableRowsWithContents yX1_readableRowsWithContents, Cond.code yX1_readableRowsWithContents cX1_readableRowsWithContents 4 (some .int), Cond.methodLink RL 68 yX2_reopen, Cond.instanceMethod yX2_reopen, Cond.selects RX2 yX2_reopen yX2_reopen, Cond.code yX2_reopen cX2_reopen 5 (some .int), Cond.methodLink RX2 100 yX2_mend, Cond.instanceMethod yX2_mend, Cond.selects RX2 yX2_mend yX2_mend, Cond.code yX2_mend cX2_mend 4 (some .boolean), Cond.fieldLink RX2 58 "ThreeFilesModel" "mended" "I", Cond.methodLink RL 69 yX1_scrub, Cond.instanceMethod yX1_scrub, Cond.selects RX1 yX1_scrub yX1_scrub, Cond.code yX1_scrub cX1_scrub 8 (some .int), Cond.fieldLink RX1 97 "ThreeFiles" "scrubAt" "I", Cond.methodLink RX1 100 Lib.Math.min.name, Cond.methodLink RX1 94 yX1_allFilesReach, Cond.instanceMethod yX1_allFilesReach]
def wsL_law_r14 : List Cond := [Cond.selects RX1 yX1_allFilesReach yX1_allFilesReach, Cond.code yX1_allFilesReach cX1_allFilesReach 3 (some .boolean), Cond.methodLink RL 72 yX2_scrub, Cond.instanceMethod yX2_scrub, Cond.selects RX2 yX2_scrub yX2_scrub, Cond.code yX2_scrub cX2_scrub 7 (some .int), Cond.fieldLink RX2 103 "ThreeFilesModel" "scrubbed" "I", Cond.methodLink RL 73 yX1_mended, Cond.instanceMethod yX1_mended, Cond.selects RX1 yX1_mended yX1_mended, Cond.code yX1_mended cX1_mended 1 (some .int), Cond.methodLink RL 76 yX2_mended, Cond.instanceMethod yX2_mended, Cond.selects RX2 yX2_mended yX2_mended, Cond.code yX2_mended cX2_mended 1 (some .int), Cond.methodLink RL 77 yX1_badAt, Cond.instanceMethod yX1_badAt, Cond.selects RX1 yX1_badAt yX1_badAt, Cond.code yX1_badAt cX1_badAt 3 (some .int), Cond.methodLink RL 80 yX2_badAt, Cond.instanceMethod yX2_badAt, Cond.selects RX2 yX2_badAt yX2_badAt, Cond.code yX2_badAt cX2_badAt 5 (some .int), Cond.methodLink RL 81 yL_byteAt]
def wsL_law_r15 : List Cond := [Cond.static yL_byteAt, Cond.codeWith yL_byteAt cL_byteAt 6 (some .int) [(0, 12, 15, 13)], Cond.methodLink RL 7 yX1_byteAt, Cond.instanceMethod yX1_byteAt, Cond.selects RX1 yX1_byteAt yX1_byteAt, Cond.code yX1_byteAt cX1_byteAt 4 (some .int), Cond.classLink RX1 111 RJx00060, Cond.instantiable RJx00060 6, Cond.initialized RJx00060, Cond.methodLink RL 84 yX2_byteAt, Cond.instanceMethod yX2_byteAt, Cond.selects RX2 yX2_byteAt yX2_byteAt, Cond.code yX2_byteAt cX2_byteAt 4 (some .int), Cond.methodLink RL 85 yX2_thrown, Cond.instanceMethod yX2_thrown, Cond.selects RX2 yX2_thrown yX2_thrown, Cond.code yX2_thrown cX2_thrown 1 (some .int), Cond.methodLink RL 88 yX1_same, Cond.instanceMethod yX1_same, Cond.selects RX1 yX1_same yX1_same, Cond.code yX1_same cX1_same 2 (some .boolean), Cond.instanceMethod yX0_isAsRemembered, Cond.selects RX0 yX0_isAsRemembered yX0_isAsRemembered, Cond.code yX0_isAsRemembered cX0_isAsRemembered 2 (some .boolean)]
def wsL_law_r16 : List Cond := [Cond.methodLink RL 91 yX2_same, Cond.instanceMethod yX2_same, Cond.selects RX2 yX2_same yX2_same, Cond.code yX2_same cX2_same 4 (some .boolean), Cond.methodLink RL 92 yX1_odd, Cond.instanceMethod yX1_odd, Cond.selects RX1 yX1_odd yX1_odd, Cond.code yX1_odd cX1_odd 2 (some .int), Cond.methodLink RL 95 yX2_odd, Cond.instanceMethod yX2_odd, Cond.selects RX2 yX2_odd yX2_odd, Cond.code yX2_odd cX2_odd 2 (some .int), Cond.methodLink RL 96 yX1_size, Cond.instanceMethod yX1_size, Cond.selects RX1 yX1_size yX1_size, Cond.code yX1_size cX1_size 2 (some .int), Cond.methodLink RL 99 yX2_size, Cond.instanceMethod yX2_size, Cond.selects RX2 yX2_size yX2_size, Cond.code yX2_size cX2_size 2 (some .int)]
def wsL_law : List Cond := (wsL_law_r1 ++ (wsL_law_r2 ++ (wsL_law_r3 ++ (wsL_law_r4 ++ (wsL_law_r5 ++ (wsL_law_r6 ++ (wsL_law_r7 ++ (wsL_law_r8 ++ (wsL_law_r9 ++ (wsL_law_r10 ++ (wsL_law_r11 ++ (wsL_law_r12 ++ (wsL_law_r13 ++ (wsL_law_r14 ++ (wsL_law_r15 ++ wsL_law_r16))))))))))))))) ++ wsX10 ++ wsX20 ++ wsX00 ++ wsJx000600 ++ ([] : List Cond)
set_option maxRecDepth 20000 in
theorem wsL_law_in : ∀ w ∈ wsL_law, w ∈ lw_tbl := fun w h => (goodIn_p wsL_law [307, 54, 57, 63, 391, 110, 440, 443, 114, 117, 121, 125, 132, 129, 136, 140, 144, 148, 152, 155, 159, 165, 169, 172, 177, 181, 185, 189, 193, 196, 201, 205, 209, 213, 447, 451, 454, 458, 462, 467, 471, 475, 479, 483, 487, 217, 491, 495, 499, 221, 503, 225, 229, 233, 507, 237, 240, 244, 248, 511, 515, 253, 519, 258, 523, 263, 267, 271, 527, 531, 275, 279, 535, 284, 539, 288, 543, 315, 547, 436, 292, 296, 551, 300, 555, 304, 559] (by decide +kernel) (by decide +kernel) w h).1
theorem inlX0 : ∀ w ∈ wsX00, w ∈ wsL_law := fun _ h => List.mem_append_left _ (List.mem_append_left _ (List.mem_append_right _ h))
theorem inX0 : ∀ w ∈ wsX00, w ∈ lw_tbl := fun w h => wsL_law_in w (inlX0 w h)
theorem inlX1 : ∀ w ∈ wsX10, w ∈ wsL_law := fun _ h => List.mem_append_left _ (List.mem_append_left _ (List.mem_append_left _ (List.mem_append_left _ (List.mem_append_right _ h))))
theorem inX1 : ∀ w ∈ wsX10, w ∈ lw_tbl := fun w h => wsL_law_in w (inlX1 w h)
theorem inlX2 : ∀ w ∈ wsX20, w ∈ wsL_law := fun _ h => List.mem_append_left _ (List.mem_append_left _ (List.mem_append_left _ (List.mem_append_right _ h)))
theorem inX2 : ∀ w ∈ wsX20, w ∈ lw_tbl := fun w h => wsL_law_in w (inlX2 w h)
theorem inlJx00060 : ∀ w ∈ wsJx000600, w ∈ wsL_law := fun _ h => List.mem_append_left _ (List.mem_append_right _ h)
theorem inJx00060 : ∀ w ∈ wsJx000600, w ∈ lw_tbl := fun w h => wsL_law_in w (inlJx00060 w h)
theorem inJ9 : ∀ w ∈ wsJ90, w ∈ lw_tbl := by decide +kernel
theorem inJ0 : ∀ w ∈ wsJ00, w ∈ lw_tbl := by decide +kernel
theorem dX0_init_0 : decode cX0_init 0 = .ok (.aload_n 0, 1) := by decide +kernel
theorem dX0_init_1 : decode cX0_init 1 = .ok (.invokespecial 3, 3) := by decide +kernel
theorem dX0_init_4 : decode cX0_init 4 = .ok (.aload_n 0, 1) := by decide +kernel
theorem dX0_init_5 : decode cX0_init 5 = .ok (.iload_n 1, 1) := by decide +kernel
theorem dX0_init_6 : decode cX0_init 6 = .ok (.putfield 9, 3) := by decide +kernel
theorem dX0_init_9 : decode cX0_init 9 = .ok (.aload_n 0, 1) := by decide +kernel
theorem dX0_init_10 : decode cX0_init 10 = .ok (.iload_n 2, 1) := by decide +kernel
theorem dX0_init_11 : decode cX0_init 11 = .ok (.newarray .int, 2) := by decide +kernel
theorem dX0_init_13 : decode cX0_init 13 = .ok (.putfield 15, 3) := by decide +kernel
theorem dX0_init_16 : decode cX0_init 16 = .ok (.aload_n 0, 1) := by decide +kernel
theorem dX0_init_17 : decode cX0_init 17 = .ok (.iload_n 2, 1) := by decide +kernel
theorem dX0_init_18 : decode cX0_init 18 = .ok (.newarray .int, 2) := by decide +kernel
theorem dX0_init_20 : decode cX0_init 20 = .ok (.putfield 19, 3) := by decide +kernel
theorem dX0_init_23 : decode cX0_init 23 = .ok (.return_, 1) := by decide +kernel
theorem dX0_length_0 : decode cX0_length 0 = .ok (.aload_n 0, 1) := by decide +kernel
theorem dX0_length_1 : decode cX0_length 1 = .ok (.getfield 22, 3) := by decide +kernel
theorem dX0_length_4 : decode cX0_length 4 = .ok (.ireturn, 1) := by decide +kernel
theorem dX0_has_0 : decode cX0_has 0 = .ok (.iload_n 1, 1) := by decide +kernel
theorem dX0_has_1 : decode cX0_has 1 = .ok (.ifCond .lt 15, 3) := by decide +kernel
theorem dX0_has_4 : decode cX0_has 4 = .ok (.iload_n 1, 1) := by decide +kernel
theorem dX0_has_5 : decode cX0_has 5 = .ok (.aload_n 0, 1) := by decide +kernel
theorem dX0_has_6 : decode cX0_has 6 = .ok (.getfield 22, 3) := by decide +kernel
theorem dX0_has_9 : decode cX0_has 9 = .ok (.if_icmp .ge 7, 3) := by decide +kernel
theorem dX0_has_12 : decode cX0_has 12 = .ok (.iconst 1, 1) := by decide +kernel
theorem dX0_has_13 : decode cX0_has 13 = .ok (.goto 4, 3) := by decide +kernel
theorem dX0_has_16 : decode cX0_has 16 = .ok (.iconst 0, 1) := by decide +kernel
theorem dX0_has_17 : decode cX0_has 17 = .ok (.ireturn, 1) := by decide +kernel
theorem dX0_get_0 : decode cX0_get 0 = .ok (.iload_n 1, 1) := by decide +kernel
theorem dX0_get_1 : decode cX0_get 1 = .ok (.ifCond .lt 20, 3) := by decide +kernel
theorem dX0_get_4 : decode cX0_get 4 = .ok (.iload_n 1, 1) := by decide +kernel
theorem dX0_get_5 : decode cX0_get 5 = .ok (.aload_n 0, 1) := by decide +kernel
theorem dX0_get_6 : decode cX0_get 6 = .ok (.getfield 22, 3) := by decide +kernel
theorem dX0_get_9 : decode cX0_get 9 = .ok (.if_icmp .ge 12, 3) := by decide +kernel
theorem dX0_get_12 : decode cX0_get 12 = .ok (.aload_n 0, 1) := by decide +kernel
theorem dX0_get_13 : decode cX0_get 13 = .ok (.getfield 15, 3) := by decide +kernel
theorem dX0_get_16 : decode cX0_get 16 = .ok (.iload_n 1, 1) := by decide +kernel
theorem dX0_get_17 : decode cX0_get 17 = .ok (.iaload, 1) := by decide +kernel
theorem dX0_get_18 : decode cX0_get 18 = .ok (.goto 4, 3) := by decide +kernel
theorem dX0_get_21 : decode cX0_get 21 = .ok (.iconst 0, 1) := by decide +kernel
theorem dX0_get_22 : decode cX0_get 22 = .ok (.ireturn, 1) := by decide +kernel
set_option maxRecDepth 20000 in
theorem ggX0_set_X0_has : GoodIn wsX0_set wsX0_has := goodIn_r _ [6, 7, 8, 9, 10, 11, 12] (by decide +kernel) (by decide +kernel)
set_option maxRecDepth 20000 in
theorem gX0_set_X0_has : GoodIn wsX0_set (wsV RX0 25 RX0 yX0_has wsX0_has) := goodIn_app (goodIn_of _ (by decide +kernel)) ggX0_set_X0_has
theorem dX0_set_0 : decode cX0_set 0 = .ok (.aload_n 0, 1) := by decide +kernel
theorem dX0_set_1 : decode cX0_set 1 = .ok (.iload_n 1, 1) := by decide +kernel
theorem dX0_set_2 : decode cX0_set 2 = .ok (.invokevirtual 25, 3) := by decide +kernel
theorem dX0_set_5 : decode cX0_set 5 = .ok (.ifCond .eq 14, 3) := by decide +kernel
theorem dX0_set_8 : decode cX0_set 8 = .ok (.aload_n 0, 1) := by decide +kernel
theorem dX0_set_9 : decode cX0_set 9 = .ok (.getfield 15, 3) := by decide +kernel
theorem dX0_set_12 : decode cX0_set 12 = .ok (.iload_n 1, 1) := by decide +kernel
theorem dX0_set_13 : decode cX0_set 13 = .ok (.iload_n 2, 1) := by decide +kernel
theorem dX0_set_14 : decode cX0_set 14 = .ok (.sipush 255, 3) := by decide +kernel
theorem dX0_set_17 : decode cX0_set 17 = .ok (.iand, 1) := by decide +kernel
theorem dX0_set_18 : decode cX0_set 18 = .ok (.iastore, 1) := by decide +kernel
theorem dX0_set_19 : decode cX0_set 19 = .ok (.return_, 1) := by decide +kernel
theorem dX0_setLength_0 : decode cX0_setLength 0 = .ok (.iconst 0, 1) := by decide +kernel
theorem dX0_setLength_1 : decode cX0_setLength 1 = .ok (.iload_n 1, 1) := by decide +kernel
theorem dX0_setLength_2 : decode cX0_setLength 2 = .ok (.aload_n 0, 1) := by decide +kernel
theorem dX0_setLength_3 : decode cX0_setLength 3 = .ok (.getfield 15, 3) := by decide +kernel
theorem dX0_setLength_6 : decode cX0_setLength 6 = .ok (.arraylength, 1) := by decide +kernel
theorem dX0_setLength_7 : decode cX0_setLength 7 = .ok (.invokestatic 29, 3) := by decide +kernel
theorem dX0_setLength_10 : decode cX0_setLength 10 = .ok (.invokestatic 35, 3) := by decide +kernel
theorem dX0_setLength_13 : decode cX0_setLength 13 = .ok (.istore_n 2, 1) := by decide +kernel
theorem dX0_setLength_14 : decode cX0_setLength 14 = .ok (.iload_n 2, 1) := by decide +kernel
theorem dX0_setLength_15 : decode cX0_setLength 15 = .ok (.istore_n 3, 1) := by decide +kernel
theorem dX0_setLength_16 : decode cX0_setLength 16 = .ok (.iload_n 3, 1) := by decide +kernel
theorem dX0_setLength_17 : decode cX0_setLength 17 = .ok (.aload_n 0, 1) := by decide +kernel
theorem dX0_setLength_18 : decode cX0_setLength 18 = .ok (.getfield 22, 3) := by decide +kernel
theorem dX0_setLength_21 : decode cX0_setLength 21 = .ok (.if_icmp .ge 16, 3) := by decide +kernel
theorem dX0_setLength_24 : decode cX0_setLength 24 = .ok (.aload_n 0, 1) := by decide +kernel
theorem dX0_setLength_25 : decode cX0_setLength 25 = .ok (.getfield 15, 3) := by decide +kernel
theorem dX0_setLength_28 : decode cX0_setLength 28 = .ok (.iload_n 3, 1) := by decide +kernel
theorem dX0_setLength_29 : decode cX0_setLength 29 = .ok (.iconst 0, 1) := by decide +kernel
theorem dX0_setLength_30 : decode cX0_setLength 30 = .ok (.iastore, 1) := by decide +kernel
theorem dX0_setLength_31 : decode cX0_setLength 31 = .ok (.iinc 3 1, 3) := by decide +kernel
theorem dX0_setLength_34 : decode cX0_setLength 34 = .ok (.goto (-18), 3) := by decide +kernel
theorem dX0_setLength_37 : decode cX0_setLength 37 = .ok (.aload_n 0, 1) := by decide +kernel
theorem dX0_setLength_38 : decode cX0_setLength 38 = .ok (.iload_n 2, 1) := by decide +kernel
theorem dX0_setLength_39 : decode cX0_setLength 39 = .ok (.putfield 22, 3) := by decide +kernel
theorem dX0_setLength_42 : decode cX0_setLength 42 = .ok (.return_, 1) := by decide +kernel
set_option maxRecDepth 20000 in
theorem ggX0_reach_X0_setLength : GoodIn wsX0_reach wsX0_setLength := goodIn_r _ [6, 7, 8, 9, 10, 11, 12, 13, 14, 1, 15, 16, 17, 18, 19] (by decide +kernel) (by decide +kernel)
set_option maxRecDepth 20000 in
theorem gX0_reach_X0_setLength : GoodIn wsX0_reach (wsV RX0 38 RX0 yX0_setLength wsX0_setLength) := goodIn_app (goodIn_of _ (by decide +kernel)) ggX0_reach_X0_setLength
theorem dX0_reach_0 : decode cX0_reach 0 = .ok (.aload_n 0, 1) := by decide +kernel
theorem dX0_reach_1 : decode cX0_reach 1 = .ok (.getfield 22, 3) := by decide +kernel
theorem dX0_reach_4 : decode cX0_reach 4 = .ok (.iload_n 1, 1) := by decide +kernel
theorem dX0_reach_5 : decode cX0_reach 5 = .ok (.if_icmp .ge 8, 3) := by decide +kernel
theorem dX0_reach_8 : decode cX0_reach 8 = .ok (.aload_n 0, 1) := by decide +kernel
theorem dX0_reach_9 : decode cX0_reach 9 = .ok (.iload_n 1, 1) := by decide +kernel
theorem dX0_reach_10 : decode cX0_reach 10 = .ok (.invokevirtual 38, 3) := by decide +kernel
theorem dX0_reach_13 : decode cX0_reach 13 = .ok (.return_, 1) := by decide +kernel
set_option maxRecDepth 20000 in
theorem ggX0_isGood_X0_has : GoodIn wsX0_isGood wsX0_has := goodIn_r _ [5, 6, 26, 27, 28, 29, 30] (by decide +kernel) (by decide +kernel)
set_option maxRecDepth 20000 in
theorem gX0_isGood_X0_has : GoodIn wsX0_isGood (wsV RX0 25 RX0 yX0_has wsX0_has) := goodIn_app (goodIn_of _ (by decide +kernel)) ggX0_isGood_X0_has
set_option maxRecDepth 20000 in
theorem ggX0_isGood_X0_get : GoodIn wsX0_isGood wsX0_get := goodIn_r _ [10, 6, 11, 26, 27, 28, 29, 30] (by decide +kernel) (by decide +kernel)
set_option maxRecDepth 20000 in
theorem gX0_isGood_X0_get : GoodIn wsX0_isGood (wsV RX0 42 RX0 yX0_get wsX0_get) := goodIn_app (goodIn_of _ (by decide +kernel)) ggX0_isGood_X0_get
set_option maxRecDepth 20000 in
theorem ggX0_isGood_X0_lowByte : GoodIn wsX0_isGood wsX0_lowByte := goodIn_r _ [14] (by decide +kernel) (by decide +kernel)
set_option maxRecDepth 20000 in
theorem gX0_isGood_X0_lowByte : GoodIn wsX0_isGood (va_wsS RX0 46 yX0_lowByte wsX0_lowByte) := goodIn_app (goodIn_of _ (by decide +kernel)) ggX0_isGood_X0_lowByte
set_option maxRecDepth 20000 in
theorem ggX0_isGood_X0_sum : GoodIn wsX0_isGood wsX0_sum := goodIn_r _ [18, 19, 20, 21, 7, 8, 9, 4, 10, 6, 11, 26, 27, 28, 29, 30] (by decide +kernel) (by decide +kernel)
set_option maxRecDepth 20000 in
theorem gX0_isGood_X0_sum : GoodIn wsX0_isGood (wsV RX0 49 RX0 yX0_sum wsX0_sum) := goodIn_app (goodIn_of _ (by decide +kernel)) ggX0_isGood_X0_sum
set_option maxRecDepth 20000 in
theorem ggX0_isGood_X0_hasSum : GoodIn wsX0_isGood wsX0_hasSum := goodIn_r _ [25, 7, 8, 9, 4, 10, 6, 11, 12, 13, 14, 26, 27, 28, 29, 30] (by decide +kernel) (by decide +kernel)
set_option maxRecDepth 20000 in
theorem gX0_isGood_X0_hasSum : GoodIn wsX0_isGood (wsV RX0 52 RX0 yX0_hasSum wsX0_hasSum) := goodIn_app (goodIn_of _ (by decide +kernel)) ggX0_isGood_X0_hasSum
theorem dX0_isGood_0 : decode cX0_isGood 0 = .ok (.iload_n 1, 1) := by decide +kernel
theorem dX0_isGood_1 : decode cX0_isGood 1 = .ok (.bipush 24, 2) := by decide +kernel
theorem dX0_isGood_3 : decode cX0_isGood 3 = .ok (.imul, 1) := by decide +kernel
theorem dX0_isGood_4 : decode cX0_isGood 4 = .ok (.istore_n 2, 1) := by decide +kernel
theorem dX0_isGood_5 : decode cX0_isGood 5 = .ok (.aload_n 0, 1) := by decide +kernel
theorem dX0_isGood_6 : decode cX0_isGood 6 = .ok (.iload_n 2, 1) := by decide +kernel
theorem dX0_isGood_7 : decode cX0_isGood 7 = .ok (.invokevirtual 25, 3) := by decide +kernel
theorem dX0_isGood_10 : decode cX0_isGood 10 = .ok (.ifCond .eq 62, 3) := by decide +kernel
theorem dX0_isGood_13 : decode cX0_isGood 13 = .ok (.aload_n 0, 1) := by decide +kernel
theorem dX0_isGood_14 : decode cX0_isGood 14 = .ok (.iload_n 2, 1) := by decide +kernel
theorem dX0_isGood_15 : decode cX0_isGood 15 = .ok (.bipush 24, 2) := by decide +kernel
theorem dX0_isGood_17 : decode cX0_isGood 17 = .ok (.iadd, 1) := by decide +kernel
theorem dX0_isGood_18 : decode cX0_isGood 18 = .ok (.iconst 1, 1) := by decide +kernel
theorem dX0_isGood_19 : decode cX0_isGood 19 = .ok (.isub, 1) := by decide +kernel
theorem dX0_isGood_20 : decode cX0_isGood 20 = .ok (.invokevirtual 25, 3) := by decide +kernel
theorem dX0_isGood_23 : decode cX0_isGood 23 = .ok (.ifCond .eq 49, 3) := by decide +kernel
theorem dX0_isGood_26 : decode cX0_isGood 26 = .ok (.aload_n 0, 1) := by decide +kernel
theorem dX0_isGood_27 : decode cX0_isGood 27 = .ok (.iload_n 2, 1) := by decide +kernel
theorem dX0_isGood_28 : decode cX0_isGood 28 = .ok (.invokevirtual 42, 3) := by decide +kernel
theorem dX0_isGood_31 : decode cX0_isGood 31 = .ok (.iload_n 1, 1) := by decide +kernel
theorem dX0_isGood_32 : decode cX0_isGood 32 = .ok (.invokestatic 46, 3) := by decide +kernel
theorem dX0_isGood_35 : decode cX0_isGood 35 = .ok (.if_icmp .ne 37, 3) := by decide +kernel
theorem dX0_isGood_38 : decode cX0_isGood 38 = .ok (.aload_n 0, 1) := by decide +kernel
theorem dX0_isGood_39 : decode cX0_isGood 39 = .ok (.iload_n 2, 1) := by decide +kernel
theorem dX0_isGood_40 : decode cX0_isGood 40 = .ok (.iconst 1, 1) := by decide +kernel
theorem dX0_isGood_41 : decode cX0_isGood 41 = .ok (.iadd, 1) := by decide +kernel
theorem dX0_isGood_42 : decode cX0_isGood 42 = .ok (.invokevirtual 42, 3) := by decide +kernel
theorem dX0_isGood_45 : decode cX0_isGood 45 = .ok (.iload_n 1, 1) := by decide +kernel
theorem dX0_isGood_46 : decode cX0_isGood 46 = .ok (.bipush 8, 2) := by decide +kernel
theorem dX0_isGood_48 : decode cX0_isGood 48 = .ok (.iushr, 1) := by decide +kernel
theorem dX0_isGood_49 : decode cX0_isGood 49 = .ok (.invokestatic 46, 3) := by decide +kernel
theorem dX0_isGood_52 : decode cX0_isGood 52 = .ok (.if_icmp .ne 20, 3) := by decide +kernel
theorem dX0_isGood_55 : decode cX0_isGood 55 = .ok (.aload_n 0, 1) := by decide +kernel
theorem dX0_isGood_56 : decode cX0_isGood 56 = .ok (.iload_n 2, 1) := by decide +kernel
theorem dX0_isGood_57 : decode cX0_isGood 57 = .ok (.aload_n 0, 1) := by decide +kernel
theorem dX0_isGood_58 : decode cX0_isGood 58 = .ok (.iload_n 2, 1) := by decide +kernel
theorem dX0_isGood_59 : decode cX0_isGood 59 = .ok (.invokevirtual 49, 3) := by decide +kernel
theorem dX0_isGood_62 : decode cX0_isGood 62 = .ok (.invokevirtual 52, 3) := by decide +kernel
theorem dX0_isGood_65 : decode cX0_isGood 65 = .ok (.ifCond .eq 7, 3) := by decide +kernel
theorem dX0_isGood_68 : decode cX0_isGood 68 = .ok (.iconst 1, 1) := by decide +kernel
theorem dX0_isGood_69 : decode cX0_isGood 69 = .ok (.goto 4, 3) := by decide +kernel
theorem dX0_isGood_72 : decode cX0_isGood 72 = .ok (.iconst 0, 1) := by decide +kernel
theorem dX0_isGood_73 : decode cX0_isGood 73 = .ok (.ireturn, 1) := by decide +kernel
set_option maxRecDepth 20000 in
theorem ggX0_seal_X0_lowByte : GoodIn wsX0_seal wsX0_lowByte := goodIn_r _ [4] (by decide +kernel) (by decide +kernel)
set_option maxRecDepth 20000 in
theorem gX0_seal_X0_lowByte : GoodIn wsX0_seal (va_wsS RX0 46 yX0_lowByte wsX0_lowByte) := goodIn_app (goodIn_of _ (by decide +kernel)) ggX0_seal_X0_lowByte
set_option maxRecDepth 20000 in
theorem ggX0_seal_X0_set : GoodIn wsX0_seal wsX0_set := goodIn_r _ [8, 9, 10, 11, 12, 3, 13, 14, 26, 27, 28, 29, 30] (by decide +kernel) (by decide +kernel)
set_option maxRecDepth 20000 in
theorem gX0_seal_X0_set : GoodIn wsX0_seal (wsV RX0 56 RX0 yX0_set wsX0_set) := goodIn_app (goodIn_of _ (by decide +kernel)) ggX0_seal_X0_set
set_option maxRecDepth 20000 in
theorem ggX0_seal_X0_sum : GoodIn wsX0_seal wsX0_sum := goodIn_r _ [18, 19, 20, 21, 22, 23, 24, 3, 25, 14, 9, 26, 27, 28, 29, 30] (by decide +kernel) (by decide +kernel)
set_option maxRecDepth 20000 in
theorem gX0_seal_X0_sum : GoodIn wsX0_seal (wsV RX0 49 RX0 yX0_sum wsX0_sum) := goodIn_app (goodIn_of _ (by decide +kernel)) ggX0_seal_X0_sum
theorem dX0_seal_0 : decode cX0_seal 0 = .ok (.iload_n 1, 1) := by decide +kernel
theorem dX0_seal_1 : decode cX0_seal 1 = .ok (.bipush 24, 2) := by decide +kernel
theorem dX0_seal_3 : decode cX0_seal 3 = .ok (.imul, 1) := by decide +kernel
theorem dX0_seal_4 : decode cX0_seal 4 = .ok (.istore_n 2, 1) := by decide +kernel
theorem dX0_seal_5 : decode cX0_seal 5 = .ok (.aload_n 0, 1) := by decide +kernel
theorem dX0_seal_6 : decode cX0_seal 6 = .ok (.iload_n 2, 1) := by decide +kernel
theorem dX0_seal_7 : decode cX0_seal 7 = .ok (.iload_n 1, 1) := by decide +kernel
theorem dX0_seal_8 : decode cX0_seal 8 = .ok (.invokestatic 46, 3) := by decide +kernel
theorem dX0_seal_11 : decode cX0_seal 11 = .ok (.invokevirtual 56, 3) := by decide +kernel
theorem dX0_seal_14 : decode cX0_seal 14 = .ok (.aload_n 0, 1) := by decide +kernel
theorem dX0_seal_15 : decode cX0_seal 15 = .ok (.iload_n 2, 1) := by decide +kernel
theorem dX0_seal_16 : decode cX0_seal 16 = .ok (.iconst 1, 1) := by decide +kernel
theorem dX0_seal_17 : decode cX0_seal 17 = .ok (.iadd, 1) := by decide +kernel
theorem dX0_seal_18 : decode cX0_seal 18 = .ok (.iload_n 1, 1) := by decide +kernel
theorem dX0_seal_19 : decode cX0_seal 19 = .ok (.bipush 8, 2) := by decide +kernel
theorem dX0_seal_21 : decode cX0_seal 21 = .ok (.iushr, 1) := by decide +kernel
theorem dX0_seal_22 : decode cX0_seal 22 = .ok (.invokestatic 46, 3) := by decide +kernel
theorem dX0_seal_25 : decode cX0_seal 25 = .ok (.invokevirtual 56, 3) := by decide +kernel
theorem dX0_seal_28 : decode cX0_seal 28 = .ok (.aload_n 0, 1) := by decide +kernel
theorem dX0_seal_29 : decode cX0_seal 29 = .ok (.iload_n 2, 1) := by decide +kernel
theorem dX0_seal_30 : decode cX0_seal 30 = .ok (.invokevirtual 49, 3) := by decide +kernel
theorem dX0_seal_33 : decode cX0_seal 33 = .ok (.istore_n 3, 1) := by decide +kernel
theorem dX0_seal_34 : decode cX0_seal 34 = .ok (.bipush 20, 2) := by decide +kernel
theorem dX0_seal_36 : decode cX0_seal 36 = .ok (.istore 4, 2) := by decide +kernel
theorem dX0_seal_38 : decode cX0_seal 38 = .ok (.iload 4, 2) := by decide +kernel
theorem dX0_seal_40 : decode cX0_seal 40 = .ok (.bipush 24, 2) := by decide +kernel
theorem dX0_seal_42 : decode cX0_seal 42 = .ok (.if_icmp .ge 26, 3) := by decide +kernel
theorem dX0_seal_45 : decode cX0_seal 45 = .ok (.aload_n 0, 1) := by decide +kernel
theorem dX0_seal_46 : decode cX0_seal 46 = .ok (.iload_n 2, 1) := by decide +kernel
theorem dX0_seal_47 : decode cX0_seal 47 = .ok (.iload 4, 2) := by decide +kernel
theorem dX0_seal_49 : decode cX0_seal 49 = .ok (.iadd, 1) := by decide +kernel
theorem dX0_seal_50 : decode cX0_seal 50 = .ok (.iload_n 3, 1) := by decide +kernel
theorem dX0_seal_51 : decode cX0_seal 51 = .ok (.invokestatic 46, 3) := by decide +kernel
theorem dX0_seal_54 : decode cX0_seal 54 = .ok (.invokevirtual 56, 3) := by decide +kernel
theorem dX0_seal_57 : decode cX0_seal 57 = .ok (.iload_n 3, 1) := by decide +kernel
theorem dX0_seal_58 : decode cX0_seal 58 = .ok (.bipush 8, 2) := by decide +kernel
theorem dX0_seal_60 : decode cX0_seal 60 = .ok (.iushr, 1) := by decide +kernel
theorem dX0_seal_61 : decode cX0_seal 61 = .ok (.istore_n 3, 1) := by decide +kernel
theorem dX0_seal_62 : decode cX0_seal 62 = .ok (.iinc 4 1, 3) := by decide +kernel
theorem dX0_seal_65 : decode cX0_seal 65 = .ok (.goto (-27), 3) := by decide +kernel
theorem dX0_seal_68 : decode cX0_seal 68 = .ok (.return_, 1) := by decide +kernel
set_option maxRecDepth 20000 in
theorem ggX0_hasSum_X0_get : GoodIn wsX0_hasSum wsX0_get := goodIn_r _ [5, 6, 7, 11, 12, 13, 14, 15] (by decide +kernel) (by decide +kernel)
set_option maxRecDepth 20000 in
theorem gX0_hasSum_X0_get : GoodIn wsX0_hasSum (wsV RX0 42 RX0 yX0_get wsX0_get) := goodIn_app (goodIn_of _ (by decide +kernel)) ggX0_hasSum_X0_get
set_option maxRecDepth 20000 in
theorem ggX0_hasSum_X0_lowByte : GoodIn wsX0_hasSum wsX0_lowByte := goodIn_r _ [10] (by decide +kernel) (by decide +kernel)
set_option maxRecDepth 20000 in
theorem gX0_hasSum_X0_lowByte : GoodIn wsX0_hasSum (va_wsS RX0 46 yX0_lowByte wsX0_lowByte) := goodIn_app (goodIn_of _ (by decide +kernel)) ggX0_hasSum_X0_lowByte
theorem dX0_hasSum_0 : decode cX0_hasSum 0 = .ok (.iload_n 2, 1) := by decide +kernel
theorem dX0_hasSum_1 : decode cX0_hasSum 1 = .ok (.istore_n 3, 1) := by decide +kernel
theorem dX0_hasSum_2 : decode cX0_hasSum 2 = .ok (.bipush 20, 2) := by decide +kernel
theorem dX0_hasSum_4 : decode cX0_hasSum 4 = .ok (.istore 4, 2) := by decide +kernel
theorem dX0_hasSum_6 : decode cX0_hasSum 6 = .ok (.iload 4, 2) := by decide +kernel
theorem dX0_hasSum_8 : decode cX0_hasSum 8 = .ok (.bipush 24, 2) := by decide +kernel
theorem dX0_hasSum_10 : decode cX0_hasSum 10 = .ok (.if_icmp .ge 31, 3) := by decide +kernel
theorem dX0_hasSum_13 : decode cX0_hasSum 13 = .ok (.aload_n 0, 1) := by decide +kernel
theorem dX0_hasSum_14 : decode cX0_hasSum 14 = .ok (.iload_n 1, 1) := by decide +kernel
theorem dX0_hasSum_15 : decode cX0_hasSum 15 = .ok (.iload 4, 2) := by decide +kernel
theorem dX0_hasSum_17 : decode cX0_hasSum 17 = .ok (.iadd, 1) := by decide +kernel
theorem dX0_hasSum_18 : decode cX0_hasSum 18 = .ok (.invokevirtual 42, 3) := by decide +kernel
theorem dX0_hasSum_21 : decode cX0_hasSum 21 = .ok (.iload_n 3, 1) := by decide +kernel
theorem dX0_hasSum_22 : decode cX0_hasSum 22 = .ok (.invokestatic 46, 3) := by decide +kernel
theorem dX0_hasSum_25 : decode cX0_hasSum 25 = .ok (.if_icmp .eq 5, 3) := by decide +kernel
theorem dX0_hasSum_28 : decode cX0_hasSum 28 = .ok (.iconst 0, 1) := by decide +kernel
theorem dX0_hasSum_29 : decode cX0_hasSum 29 = .ok (.ireturn, 1) := by decide +kernel
theorem dX0_hasSum_30 : decode cX0_hasSum 30 = .ok (.iload_n 3, 1) := by decide +kernel
theorem dX0_hasSum_31 : decode cX0_hasSum 31 = .ok (.bipush 8, 2) := by decide +kernel
theorem dX0_hasSum_33 : decode cX0_hasSum 33 = .ok (.iushr, 1) := by decide +kernel
theorem dX0_hasSum_34 : decode cX0_hasSum 34 = .ok (.istore_n 3, 1) := by decide +kernel
theorem dX0_hasSum_35 : decode cX0_hasSum 35 = .ok (.iinc 4 1, 3) := by decide +kernel
theorem dX0_hasSum_38 : decode cX0_hasSum 38 = .ok (.goto (-32), 3) := by decide +kernel
theorem dX0_hasSum_41 : decode cX0_hasSum 41 = .ok (.iconst 1, 1) := by decide +kernel
theorem dX0_hasSum_42 : decode cX0_hasSum 42 = .ok (.ireturn, 1) := by decide +kernel
set_option maxRecDepth 20000 in
theorem ggX0_sum_X0_get : GoodIn wsX0_sum wsX0_get := goodIn_r _ [8, 9, 10, 11, 12, 13, 14, 15] (by decide +kernel) (by decide +kernel)
set_option maxRecDepth 20000 in
theorem gX0_sum_X0_get : GoodIn wsX0_sum (wsV RX0 42 RX0 yX0_get wsX0_get) := goodIn_app (goodIn_of _ (by decide +kernel)) ggX0_sum_X0_get
theorem dX0_sum_0 : decode cX0_sum 0 = .ok (.ldc 60, 2) := by decide +kernel
theorem dX0_sum_2 : decode cX0_sum 2 = .ok (.aload_n 0, 1) := by decide +kernel
theorem dX0_sum_3 : decode cX0_sum 3 = .ok (.getfield 9, 3) := by decide +kernel
theorem dX0_sum_6 : decode cX0_sum 6 = .ok (.iadd, 1) := by decide +kernel
theorem dX0_sum_7 : decode cX0_sum 7 = .ok (.istore_n 2, 1) := by decide +kernel
theorem dX0_sum_8 : decode cX0_sum 8 = .ok (.iconst 0, 1) := by decide +kernel
theorem dX0_sum_9 : decode cX0_sum 9 = .ok (.istore_n 3, 1) := by decide +kernel
theorem dX0_sum_10 : decode cX0_sum 10 = .ok (.iload_n 3, 1) := by decide +kernel
theorem dX0_sum_11 : decode cX0_sum 11 = .ok (.bipush 20, 2) := by decide +kernel
theorem dX0_sum_13 : decode cX0_sum 13 = .ok (.if_icmp .ge 32, 3) := by decide +kernel
theorem dX0_sum_16 : decode cX0_sum 16 = .ok (.iload_n 2, 1) := by decide +kernel
theorem dX0_sum_17 : decode cX0_sum 17 = .ok (.aload_n 0, 1) := by decide +kernel
theorem dX0_sum_18 : decode cX0_sum 18 = .ok (.iload_n 1, 1) := by decide +kernel
theorem dX0_sum_19 : decode cX0_sum 19 = .ok (.iload_n 3, 1) := by decide +kernel
theorem dX0_sum_20 : decode cX0_sum 20 = .ok (.iadd, 1) := by decide +kernel
theorem dX0_sum_21 : decode cX0_sum 21 = .ok (.invokevirtual 42, 3) := by decide +kernel
theorem dX0_sum_24 : decode cX0_sum 24 = .ok (.ixor, 1) := by decide +kernel
theorem dX0_sum_25 : decode cX0_sum 25 = .ok (.istore_n 2, 1) := by decide +kernel
theorem dX0_sum_26 : decode cX0_sum 26 = .ok (.iload_n 2, 1) := by decide +kernel
theorem dX0_sum_27 : decode cX0_sum 27 = .ok (.bipush 19, 2) := by decide +kernel
theorem dX0_sum_29 : decode cX0_sum 29 = .ok (.ishl, 1) := by decide +kernel
theorem dX0_sum_30 : decode cX0_sum 30 = .ok (.iload_n 2, 1) := by decide +kernel
theorem dX0_sum_31 : decode cX0_sum 31 = .ok (.bipush 13, 2) := by decide +kernel
theorem dX0_sum_33 : decode cX0_sum 33 = .ok (.iushr, 1) := by decide +kernel
theorem dX0_sum_34 : decode cX0_sum 34 = .ok (.ior, 1) := by decide +kernel
theorem dX0_sum_35 : decode cX0_sum 35 = .ok (.ldc 61, 2) := by decide +kernel
theorem dX0_sum_37 : decode cX0_sum 37 = .ok (.imul, 1) := by decide +kernel
theorem dX0_sum_38 : decode cX0_sum 38 = .ok (.istore_n 2, 1) := by decide +kernel
theorem dX0_sum_39 : decode cX0_sum 39 = .ok (.iinc 3 1, 3) := by decide +kernel
theorem dX0_sum_42 : decode cX0_sum 42 = .ok (.goto (-32), 3) := by decide +kernel
theorem dX0_sum_45 : decode cX0_sum 45 = .ok (.iload_n 2, 1) := by decide +kernel
theorem dX0_sum_46 : decode cX0_sum 46 = .ok (.ireturn, 1) := by decide +kernel
theorem dX0_lowByte_0 : decode cX0_lowByte 0 = .ok (.iload_n 0, 1) := by decide +kernel
theorem dX0_lowByte_1 : decode cX0_lowByte 1 = .ok (.sipush 255, 3) := by decide +kernel
theorem dX0_lowByte_4 : decode cX0_lowByte 4 = .ok (.iand, 1) := by decide +kernel
theorem dX0_lowByte_5 : decode cX0_lowByte 5 = .ok (.ireturn, 1) := by decide +kernel
theorem dX0_remember_0 : decode cX0_remember 0 = .ok (.iconst 0, 1) := by decide +kernel
theorem dX0_remember_1 : decode cX0_remember 1 = .ok (.istore_n 1, 1) := by decide +kernel
theorem dX0_remember_2 : decode cX0_remember 2 = .ok (.iload_n 1, 1) := by decide +kernel
theorem dX0_remember_3 : decode cX0_remember 3 = .ok (.aload_n 0, 1) := by decide +kernel
theorem dX0_remember_4 : decode cX0_remember 4 = .ok (.getfield 15, 3) := by decide +kernel
theorem dX0_remember_7 : decode cX0_remember 7 = .ok (.arraylength, 1) := by decide +kernel
theorem dX0_remember_8 : decode cX0_remember 8 = .ok (.if_icmp .ge 21, 3) := by decide +kernel
theorem dX0_remember_11 : decode cX0_remember 11 = .ok (.aload_n 0, 1) := by decide +kernel
theorem dX0_remember_12 : decode cX0_remember 12 = .ok (.getfield 19, 3) := by decide +kernel
theorem dX0_remember_15 : decode cX0_remember 15 = .ok (.iload_n 1, 1) := by decide +kernel
theorem dX0_remember_16 : decode cX0_remember 16 = .ok (.aload_n 0, 1) := by decide +kernel
theorem dX0_remember_17 : decode cX0_remember 17 = .ok (.getfield 15, 3) := by decide +kernel
theorem dX0_remember_20 : decode cX0_remember 20 = .ok (.iload_n 1, 1) := by decide +kernel
theorem dX0_remember_21 : decode cX0_remember 21 = .ok (.iaload, 1) := by decide +kernel
theorem dX0_remember_22 : decode cX0_remember 22 = .ok (.iastore, 1) := by decide +kernel
theorem dX0_remember_23 : decode cX0_remember 23 = .ok (.iinc 1 1, 3) := by decide +kernel
theorem dX0_remember_26 : decode cX0_remember 26 = .ok (.goto (-24), 3) := by decide +kernel
theorem dX0_remember_29 : decode cX0_remember 29 = .ok (.aload_n 0, 1) := by decide +kernel
theorem dX0_remember_30 : decode cX0_remember 30 = .ok (.aload_n 0, 1) := by decide +kernel
theorem dX0_remember_31 : decode cX0_remember 31 = .ok (.getfield 22, 3) := by decide +kernel
theorem dX0_remember_34 : decode cX0_remember 34 = .ok (.putfield 62, 3) := by decide +kernel
theorem dX0_remember_37 : decode cX0_remember 37 = .ok (.return_, 1) := by decide +kernel
theorem dX0_isAsRemembered_0 : decode cX0_isAsRemembered 0 = .ok (.aload_n 0, 1) := by decide +kernel
theorem dX0_isAsRemembered_1 : decode cX0_isAsRemembered 1 = .ok (.getfield 22, 3) := by decide +kernel
theorem dX0_isAsRemembered_4 : decode cX0_isAsRemembered 4 = .ok (.aload_n 0, 1) := by decide +kernel
theorem dX0_isAsRemembered_5 : decode cX0_isAsRemembered 5 = .ok (.getfield 62, 3) := by decide +kernel
theorem dX0_isAsRemembered_8 : decode cX0_isAsRemembered 8 = .ok (.if_icmp .eq 5, 3) := by decide +kernel
theorem dX0_isAsRemembered_11 : decode cX0_isAsRemembered 11 = .ok (.iconst 0, 1) := by decide +kernel
theorem dX0_isAsRemembered_12 : decode cX0_isAsRemembered 12 = .ok (.ireturn, 1) := by decide +kernel
theorem dX0_isAsRemembered_13 : decode cX0_isAsRemembered 13 = .ok (.iconst 0, 1) := by decide +kernel
theorem dX0_isAsRemembered_14 : decode cX0_isAsRemembered 14 = .ok (.istore_n 1, 1) := by decide +kernel
theorem dX0_isAsRemembered_15 : decode cX0_isAsRemembered 15 = .ok (.iload_n 1, 1) := by decide +kernel
theorem dX0_isAsRemembered_16 : decode cX0_isAsRemembered 16 = .ok (.aload_n 0, 1) := by decide +kernel
theorem dX0_isAsRemembered_17 : decode cX0_isAsRemembered 17 = .ok (.getfield 22, 3) := by decide +kernel
theorem dX0_isAsRemembered_20 : decode cX0_isAsRemembered 20 = .ok (.if_icmp .ge 26, 3) := by decide +kernel
theorem dX0_isAsRemembered_23 : decode cX0_isAsRemembered 23 = .ok (.aload_n 0, 1) := by decide +kernel
theorem dX0_isAsRemembered_24 : decode cX0_isAsRemembered 24 = .ok (.getfield 15, 3) := by decide +kernel
theorem dX0_isAsRemembered_27 : decode cX0_isAsRemembered 27 = .ok (.iload_n 1, 1) := by decide +kernel
theorem dX0_isAsRemembered_28 : decode cX0_isAsRemembered 28 = .ok (.iaload, 1) := by decide +kernel
theorem dX0_isAsRemembered_29 : decode cX0_isAsRemembered 29 = .ok (.aload_n 0, 1) := by decide +kernel
theorem dX0_isAsRemembered_30 : decode cX0_isAsRemembered 30 = .ok (.getfield 19, 3) := by decide +kernel
theorem dX0_isAsRemembered_33 : decode cX0_isAsRemembered 33 = .ok (.iload_n 1, 1) := by decide +kernel
theorem dX0_isAsRemembered_34 : decode cX0_isAsRemembered 34 = .ok (.iaload, 1) := by decide +kernel
theorem dX0_isAsRemembered_35 : decode cX0_isAsRemembered 35 = .ok (.if_icmp .eq 5, 3) := by decide +kernel
theorem dX0_isAsRemembered_38 : decode cX0_isAsRemembered 38 = .ok (.iconst 0, 1) := by decide +kernel
theorem dX0_isAsRemembered_39 : decode cX0_isAsRemembered 39 = .ok (.ireturn, 1) := by decide +kernel
theorem dX0_isAsRemembered_40 : decode cX0_isAsRemembered 40 = .ok (.iinc 1 1, 3) := by decide +kernel
theorem dX0_isAsRemembered_43 : decode cX0_isAsRemembered 43 = .ok (.goto (-28), 3) := by decide +kernel
theorem dX0_isAsRemembered_46 : decode cX0_isAsRemembered 46 = .ok (.iconst 1, 1) := by decide +kernel
theorem dX0_isAsRemembered_47 : decode cX0_isAsRemembered 47 = .ok (.ireturn, 1) := by decide +kernel
set_option maxRecDepth 20000 in
theorem ggX1_init_X0_init : GoodIn wsX1_init wsX0_init := goodIn_r _ [12, 13, 2, 3, 14, 9, 15, 16, 25, 26, 27, 28, 29] (by decide +kernel) (by decide +kernel)
set_option maxRecDepth 20000 in
theorem gX1_init_X0_init_n19 : GoodIn wsX1_init (wsX0_init) := ggX1_init_X0_init
theorem dX1_init_0 : decode cX1_init 0 = .ok (.aload_n 0, 1) := by decide +kernel
theorem dX1_init_1 : decode cX1_init 1 = .ok (.invokespecial 1, 3) := by decide +kernel
theorem dX1_init_4 : decode cX1_init 4 = .ok (.aload_n 0, 1) := by decide +kernel
theorem dX1_init_5 : decode cX1_init 5 = .ok (.iload_n 1, 1) := by decide +kernel
theorem dX1_init_6 : decode cX1_init 6 = .ok (.iconst 1, 1) := by decide +kernel
theorem dX1_init_7 : decode cX1_init 7 = .ok (.if_icmp .lt 13, 3) := by decide +kernel
theorem dX1_init_10 : decode cX1_init 10 = .ok (.iload_n 1, 1) := by decide +kernel
theorem dX1_init_11 : decode cX1_init 11 = .ok (.bipush 64, 2) := by decide +kernel
theorem dX1_init_13 : decode cX1_init 13 = .ok (.if_icmp .gt 7, 3) := by decide +kernel
theorem dX1_init_16 : decode cX1_init 16 = .ok (.iload_n 1, 1) := by decide +kernel
theorem dX1_init_17 : decode cX1_init 17 = .ok (.goto 4, 3) := by decide +kernel
theorem dX1_init_20 : decode cX1_init 20 = .ok (.iconst 1, 1) := by decide +kernel
theorem dX1_init_21 : decode cX1_init 21 = .ok (.putfield 9, 3) := by decide +kernel
theorem dX1_init_24 : decode cX1_init 24 = .ok (.aload_n 0, 1) := by decide +kernel
theorem dX1_init_25 : decode cX1_init 25 = .ok (.iconst 3, 1) := by decide +kernel
theorem dX1_init_26 : decode cX1_init 26 = .ok (.anewarray 13, 3) := by decide +kernel
theorem dX1_init_29 : decode cX1_init 29 = .ok (.putfield 15, 3) := by decide +kernel
theorem dX1_init_32 : decode cX1_init 32 = .ok (.iconst 0, 1) := by decide +kernel
theorem dX1_init_33 : decode cX1_init 33 = .ok (.istore_n 2, 1) := by decide +kernel
theorem dX1_init_34 : decode cX1_init 34 = .ok (.iload_n 2, 1) := by decide +kernel
theorem dX1_init_35 : decode cX1_init 35 = .ok (.iconst 3, 1) := by decide +kernel
theorem dX1_init_36 : decode cX1_init 36 = .ok (.if_icmp .ge 30, 3) := by decide +kernel
theorem dX1_init_39 : decode cX1_init 39 = .ok (.aload_n 0, 1) := by decide +kernel
theorem dX1_init_40 : decode cX1_init 40 = .ok (.getfield 15, 3) := by decide +kernel
theorem dX1_init_43 : decode cX1_init 43 = .ok (.iload_n 2, 1) := by decide +kernel
theorem dX1_init_44 : decode cX1_init 44 = .ok (.new 13, 3) := by decide +kernel
theorem dX1_init_47 : decode cX1_init 47 = .ok (.dup, 1) := by decide +kernel
theorem dX1_init_48 : decode cX1_init 48 = .ok (.iload_n 2, 1) := by decide +kernel
theorem dX1_init_49 : decode cX1_init 49 = .ok (.aload_n 0, 1) := by decide +kernel
theorem dX1_init_50 : decode cX1_init 50 = .ok (.getfield 9, 3) := by decide +kernel
theorem dX1_init_53 : decode cX1_init 53 = .ok (.bipush 24, 2) := by decide +kernel
theorem dX1_init_55 : decode cX1_init 55 = .ok (.imul, 1) := by decide +kernel
theorem dX1_init_56 : decode cX1_init 56 = .ok (.invokespecial 19, 3) := by decide +kernel
theorem dX1_init_59 : decode cX1_init 59 = .ok (.aastore, 1) := by decide +kernel
theorem dX1_init_60 : decode cX1_init 60 = .ok (.iinc 2 1, 3) := by decide +kernel
theorem dX1_init_63 : decode cX1_init 63 = .ok (.goto (-29), 3) := by decide +kernel
theorem dX1_init_66 : decode cX1_init 66 = .ok (.aload_n 0, 1) := by decide +kernel
theorem dX1_init_67 : decode cX1_init 67 = .ok (.bipush 16, 2) := by decide +kernel
theorem dX1_init_69 : decode cX1_init 69 = .ok (.newarray .int, 2) := by decide +kernel
theorem dX1_init_71 : decode cX1_init 71 = .ok (.putfield 22, 3) := by decide +kernel
theorem dX1_init_74 : decode cX1_init 74 = .ok (.return_, 1) := by decide +kernel
theorem dX1_feed_0 : decode cX1_feed 0 = .ok (.iload_n 1, 1) := by decide +kernel
theorem dX1_feed_1 : decode cX1_feed 1 = .ok (.ifCond .lt 19, 3) := by decide +kernel
theorem dX1_feed_4 : decode cX1_feed 4 = .ok (.iload_n 1, 1) := by decide +kernel
theorem dX1_feed_5 : decode cX1_feed 5 = .ok (.sipush 255, 3) := by decide +kernel
theorem dX1_feed_8 : decode cX1_feed 8 = .ok (.if_icmp .gt 12, 3) := by decide +kernel
theorem dX1_feed_11 : decode cX1_feed 11 = .ok (.aload_n 0, 1) := by decide +kernel
theorem dX1_feed_12 : decode cX1_feed 12 = .ok (.getfield 26, 3) := by decide +kernel
theorem dX1_feed_15 : decode cX1_feed 15 = .ok (.bipush 16, 2) := by decide +kernel
theorem dX1_feed_17 : decode cX1_feed 17 = .ok (.if_icmp .lt 5, 3) := by decide +kernel
theorem dX1_feed_20 : decode cX1_feed 20 = .ok (.iconst 0, 1) := by decide +kernel
theorem dX1_feed_21 : decode cX1_feed 21 = .ok (.ireturn, 1) := by decide +kernel
theorem dX1_feed_22 : decode cX1_feed 22 = .ok (.aload_n 0, 1) := by decide +kernel
theorem dX1_feed_23 : decode cX1_feed 23 = .ok (.getfield 22, 3) := by decide +kernel
theorem dX1_feed_26 : decode cX1_feed 26 = .ok (.aload_n 0, 1) := by decide +kernel
theorem dX1_feed_27 : decode cX1_feed 27 = .ok (.getfield 26, 3) := by decide +kernel
theorem dX1_feed_30 : decode cX1_feed 30 = .ok (.iload_n 1, 1) := by decide +kernel
theorem dX1_feed_31 : decode cX1_feed 31 = .ok (.iastore, 1) := by decide +kernel
theorem dX1_feed_32 : decode cX1_feed 32 = .ok (.aload_n 0, 1) := by decide +kernel
theorem dX1_feed_33 : decode cX1_feed 33 = .ok (.dup, 1) := by decide +kernel
theorem dX1_feed_34 : decode cX1_feed 34 = .ok (.getfield 26, 3) := by decide +kernel
theorem dX1_feed_37 : decode cX1_feed 37 = .ok (.iconst 1, 1) := by decide +kernel
theorem dX1_feed_38 : decode cX1_feed 38 = .ok (.iadd, 1) := by decide +kernel
theorem dX1_feed_39 : decode cX1_feed 39 = .ok (.putfield 26, 3) := by decide +kernel
theorem dX1_feed_42 : decode cX1_feed 42 = .ok (.iconst 1, 1) := by decide +kernel
theorem dX1_feed_43 : decode cX1_feed 43 = .ok (.ireturn, 1) := by decide +kernel
set_option maxRecDepth 20000 in
theorem ggX1_row_X1_isYear : GoodIn wsX1_row wsX1_isYear := goodIn_r _ [7] (by decide +kernel) (by decide +kernel)
set_option maxRecDepth 20000 in
theorem gX1_row_X1_isYear : GoodIn wsX1_row (va_wsS RX1 33 yX1_isYear wsX1_isYear) := goodIn_app (goodIn_of _ (by decide +kernel)) ggX1_row_X1_isYear
set_option maxRecDepth 20000 in
theorem ggX1_row_X1_nextRow : GoodIn wsX1_row wsX1_nextRow := goodIn_r _ [11, 12, 13, 14, 6, 15, 16, 17, 18, 19, 20, 21, 22, 23, 24, 25, 26, 27, 28, 29, 30, 31, 32, 33, 34, 35, 36, 37, 38, 39, 40, 41, 42, 43, 44, 45, 46, 47, 48, 49, 50, 51, 52, 53, 54, 55, 56, 57, 58, 59, 60, 61, 62, 63, 64, 65, 66, 67, 68, 69, 70, 71, 72, 73, 74, 105, 106, 107, 108, 109, 110, 111, 112, 113, 114, 115, 116, 117] (by decide +kernel) (by decide +kernel)
set_option maxRecDepth 20000 in
theorem gX1_row_X1_nextRow : GoodIn wsX1_row (wsV RX1 37 RX1 yX1_nextRow wsX1_nextRow) := goodIn_app (goodIn_of _ (by decide +kernel)) ggX1_row_X1_nextRow
set_option maxRecDepth 20000 in
theorem ggX1_row_X1_writeRow : GoodIn wsX1_row wsX1_writeRow := goodIn_r _ [78, 16, 79, 64, 65, 6, 66, 80, 22, 81, 82, 25, 83, 84, 85, 86, 45, 87, 88, 19, 89, 90, 18, 20, 91, 92, 93, 37, 38, 39, 40, 94, 95, 96, 46, 47, 48, 97, 49, 50, 51, 52, 53, 54, 55, 41, 42, 43, 44, 105, 106, 107, 108, 109, 110, 111, 112, 113, 114, 115, 116, 117] (by decide +kernel) (by decide +kernel)
set_option maxRecDepth 20000 in
theorem gX1_row_X1_writeRow : GoodIn wsX1_row (wsV RX1 41 RX1 yX1_writeRow wsX1_writeRow) := goodIn_app (goodIn_of _ (by decide +kernel)) ggX1_row_X1_writeRow
set_option maxRecDepth 20000 in
theorem ggX1_row_X1_sumFile : GoodIn wsX1_row wsX1_sumFile := goodIn_r _ [100] (by decide +kernel) (by decide +kernel)
set_option maxRecDepth 20000 in
theorem gX1_row_X1_sumFile : GoodIn wsX1_row (va_wsS RX1 45 yX1_sumFile wsX1_sumFile) := goodIn_app (goodIn_of _ (by decide +kernel)) ggX1_row_X1_sumFile
set_option maxRecDepth 20000 in
theorem ggX1_row_X1_makeFromOthers : GoodIn wsX1_row wsX1_makeFromOthers := goodIn_r _ [104, 16, 80, 22, 81, 82, 25, 83, 84, 85, 86, 45, 87, 88, 19, 89, 90, 18, 20, 71, 72, 73, 6, 74, 42, 43, 44, 91, 92, 93, 37, 38, 39, 40, 94, 95, 96, 46, 47, 48, 97, 49, 50, 51, 52, 53, 54, 55, 41, 105, 106, 107, 108, 109, 110, 111, 112, 113, 114, 115, 116, 117] (by decide +kernel) (by decide +kernel)
set_option maxRecDepth 20000 in
theorem gX1_row_X1_makeFromOthers : GoodIn wsX1_row (wsV RX1 49 RX1 yX1_makeFromOthers wsX1_makeFromOthers) := goodIn_app (goodIn_of _ (by decide +kernel)) ggX1_row_X1_makeFromOthers
theorem dX1_row_0 : decode cX1_row 0 = .ok (.aload_n 0, 1) := by decide +kernel
theorem dX1_row_1 : decode cX1_row 1 = .ok (.getfield 29, 3) := by decide +kernel
theorem dX1_row_4 : decode cX1_row 4 = .ok (.ifCond .ne 17, 3) := by decide +kernel
theorem dX1_row_7 : decode cX1_row 7 = .ok (.aload_n 0, 1) := by decide +kernel
theorem dX1_row_8 : decode cX1_row 8 = .ok (.getfield 26, 3) := by decide +kernel
theorem dX1_row_11 : decode cX1_row 11 = .ok (.ifCond .eq 10, 3) := by decide +kernel
theorem dX1_row_14 : decode cX1_row 14 = .ok (.iload_n 1, 1) := by decide +kernel
theorem dX1_row_15 : decode cX1_row 15 = .ok (.invokestatic 33, 3) := by decide +kernel
theorem dX1_row_18 : decode cX1_row 18 = .ok (.ifCond .ne 5, 3) := by decide +kernel
theorem dX1_row_21 : decode cX1_row 21 = .ok (.iconst (-1), 1) := by decide +kernel
theorem dX1_row_22 : decode cX1_row 22 = .ok (.ireturn, 1) := by decide +kernel
theorem dX1_row_23 : decode cX1_row 23 = .ok (.aload_n 0, 1) := by decide +kernel
theorem dX1_row_24 : decode cX1_row 24 = .ok (.invokevirtual 37, 3) := by decide +kernel
theorem dX1_row_27 : decode cX1_row 27 = .ok (.istore_n 2, 1) := by decide +kernel
theorem dX1_row_28 : decode cX1_row 28 = .ok (.iload_n 2, 1) := by decide +kernel
theorem dX1_row_29 : decode cX1_row 29 = .ok (.iconst 2, 1) := by decide +kernel
theorem dX1_row_30 : decode cX1_row 30 = .ok (.idiv, 1) := by decide +kernel
theorem dX1_row_31 : decode cX1_row 31 = .ok (.istore_n 3, 1) := by decide +kernel
theorem dX1_row_32 : decode cX1_row 32 = .ok (.iload_n 3, 1) := by decide +kernel
theorem dX1_row_33 : decode cX1_row 33 = .ok (.aload_n 0, 1) := by decide +kernel
theorem dX1_row_34 : decode cX1_row 34 = .ok (.getfield 9, 3) := by decide +kernel
theorem dX1_row_37 : decode cX1_row 37 = .ok (.if_icmp .lt 5, 3) := by decide +kernel
theorem dX1_row_40 : decode cX1_row 40 = .ok (.iconst (-1), 1) := by decide +kernel
theorem dX1_row_41 : decode cX1_row 41 = .ok (.ireturn, 1) := by decide +kernel
theorem dX1_row_42 : decode cX1_row 42 = .ok (.iload_n 2, 1) := by decide +kernel
theorem dX1_row_43 : decode cX1_row 43 = .ok (.iconst 2, 1) := by decide +kernel
theorem dX1_row_44 : decode cX1_row 44 = .ok (.irem, 1) := by decide +kernel
theorem dX1_row_45 : decode cX1_row 45 = .ok (.ifCond .ne 12, 3) := by decide +kernel
theorem dX1_row_48 : decode cX1_row 48 = .ok (.aload_n 0, 1) := by decide +kernel
theorem dX1_row_49 : decode cX1_row 49 = .ok (.iload_n 2, 1) := by decide +kernel
theorem dX1_row_50 : decode cX1_row 50 = .ok (.iconst 1, 1) := by decide +kernel
theorem dX1_row_51 : decode cX1_row 51 = .ok (.iadd, 1) := by decide +kernel
theorem dX1_row_52 : decode cX1_row 52 = .ok (.iconst 0, 1) := by decide +kernel
theorem dX1_row_53 : decode cX1_row 53 = .ok (.iconst 0, 1) := by decide +kernel
theorem dX1_row_54 : decode cX1_row 54 = .ok (.invokevirtual 41, 3) := by decide +kernel
theorem dX1_row_57 : decode cX1_row 57 = .ok (.aload_n 0, 1) := by decide +kernel
theorem dX1_row_58 : decode cX1_row 58 = .ok (.iload_n 2, 1) := by decide +kernel
theorem dX1_row_59 : decode cX1_row 59 = .ok (.iload_n 1, 1) := by decide +kernel
theorem dX1_row_60 : decode cX1_row 60 = .ok (.aload_n 0, 1) := by decide +kernel
theorem dX1_row_61 : decode cX1_row 61 = .ok (.getfield 26, 3) := by decide +kernel
theorem dX1_row_64 : decode cX1_row 64 = .ok (.invokevirtual 41, 3) := by decide +kernel
theorem dX1_row_67 : decode cX1_row 67 = .ok (.aload_n 0, 1) := by decide +kernel
theorem dX1_row_68 : decode cX1_row 68 = .ok (.iload_n 3, 1) := by decide +kernel
theorem dX1_row_69 : decode cX1_row 69 = .ok (.invokestatic 45, 3) := by decide +kernel
theorem dX1_row_72 : decode cX1_row 72 = .ok (.iload_n 3, 1) := by decide +kernel
theorem dX1_row_73 : decode cX1_row 73 = .ok (.invokevirtual 49, 3) := by decide +kernel
theorem dX1_row_76 : decode cX1_row 76 = .ok (.aload_n 0, 1) := by decide +kernel
theorem dX1_row_77 : decode cX1_row 77 = .ok (.iconst 0, 1) := by decide +kernel
theorem dX1_row_78 : decode cX1_row 78 = .ok (.putfield 26, 3) := by decide +kernel
theorem dX1_row_81 : decode cX1_row 81 = .ok (.iload_n 2, 1) := by decide +kernel
theorem dX1_row_82 : decode cX1_row 82 = .ok (.ireturn, 1) := by decide +kernel
set_option maxRecDepth 20000 in
theorem ggX1_find_X1_readRowByte : GoodIn wsX1_find wsX1_readRowByte := goodIn_r _ [5, 6, 7, 8, 9, 4, 10, 11, 12, 13, 14, 15, 16, 17, 18, 19, 20, 21, 22, 23, 24, 25, 26, 27, 28, 29, 30, 31, 32, 33, 34, 35, 36, 37, 38, 39, 40, 41, 42, 43, 44, 45, 46, 47, 48, 49, 50, 51, 52, 53, 54, 55, 56, 57, 58, 59, 60, 61, 62, 63, 64, 65, 66, 67, 68, 69] (by decide +kernel) (by decide +kernel)
set_option maxRecDepth 20000 in
theorem gX1_find_X1_readRowByte : GoodIn wsX1_find (wsV RX1 52 RX1 yX1_readRowByte wsX1_readRowByte) := goodIn_app (goodIn_of _ (by decide +kernel)) ggX1_find_X1_readRowByte
theorem dX1_find_0 : decode cX1_find 0 = .ok (.iload_n 2, 1) := by decide +kernel
theorem dX1_find_1 : decode cX1_find 1 = .ok (.ifCond .lt 19, 3) := by decide +kernel
theorem dX1_find_4 : decode cX1_find 4 = .ok (.iload_n 2, 1) := by decide +kernel
theorem dX1_find_5 : decode cX1_find 5 = .ok (.bipush 16, 2) := by decide +kernel
theorem dX1_find_7 : decode cX1_find 7 = .ok (.if_icmp .ge 13, 3) := by decide +kernel
theorem dX1_find_10 : decode cX1_find 10 = .ok (.iload_n 2, 1) := by decide +kernel
theorem dX1_find_11 : decode cX1_find 11 = .ok (.aload_n 0, 1) := by decide +kernel
theorem dX1_find_12 : decode cX1_find 12 = .ok (.iload_n 1, 1) := by decide +kernel
theorem dX1_find_13 : decode cX1_find 13 = .ok (.iconst 3, 1) := by decide +kernel
theorem dX1_find_14 : decode cX1_find 14 = .ok (.invokevirtual 52, 3) := by decide +kernel
theorem dX1_find_17 : decode cX1_find 17 = .ok (.if_icmp .lt 5, 3) := by decide +kernel
theorem dX1_find_20 : decode cX1_find 20 = .ok (.iconst (-1), 1) := by decide +kernel
theorem dX1_find_21 : decode cX1_find 21 = .ok (.ireturn, 1) := by decide +kernel
theorem dX1_find_22 : decode cX1_find 22 = .ok (.aload_n 0, 1) := by decide +kernel
theorem dX1_find_23 : decode cX1_find 23 = .ok (.iload_n 1, 1) := by decide +kernel
theorem dX1_find_24 : decode cX1_find 24 = .ok (.iconst 4, 1) := by decide +kernel
theorem dX1_find_25 : decode cX1_find 25 = .ok (.iload_n 2, 1) := by decide +kernel
theorem dX1_find_26 : decode cX1_find 26 = .ok (.iadd, 1) := by decide +kernel
theorem dX1_find_27 : decode cX1_find 27 = .ok (.invokevirtual 52, 3) := by decide +kernel
theorem dX1_find_30 : decode cX1_find 30 = .ok (.ireturn, 1) := by decide +kernel
set_option maxRecDepth 20000 in
theorem ggX1_rows_X1_isYear : GoodIn wsX1_rows wsX1_isYear := goodIn_r _ [4] (by decide +kernel) (by decide +kernel)
set_option maxRecDepth 20000 in
theorem gX1_rows_X1_isYear : GoodIn wsX1_rows (va_wsS RX1 33 yX1_isYear wsX1_isYear) := goodIn_app (goodIn_of _ (by decide +kernel)) ggX1_rows_X1_isYear
set_option maxRecDepth 20000 in
theorem ggX1_rows_X1_stripeCount : GoodIn wsX1_rows wsX1_stripeCount := goodIn_r _ [8, 9, 10, 11, 12, 13, 14, 15, 16, 17, 18, 60, 61, 62, 63, 64, 65, 66, 67, 68, 69, 70, 71, 72] (by decide +kernel) (by decide +kernel)
set_option maxRecDepth 20000 in
theorem gX1_rows_X1_stripeCount : GoodIn wsX1_rows (wsV RX1 56 RX1 yX1_stripeCount wsX1_stripeCount) := goodIn_app (goodIn_of _ (by decide +kernel)) ggX1_rows_X1_stripeCount
set_option maxRecDepth 20000 in
theorem ggX1_rows_X1_readRowByte : GoodIn wsX1_rows wsX1_readRowByte := goodIn_r _ [22, 9, 5, 6, 7, 3, 8, 10, 11, 12, 13, 14, 15, 16, 17, 18, 23, 24, 25, 26, 27, 28, 29, 30, 31, 32, 33, 34, 35, 36, 37, 38, 39, 40, 41, 42, 43, 44, 45, 46, 47, 48, 49, 50, 51, 52, 53, 54, 55, 56, 57, 58, 59, 60, 61, 62, 63, 64, 65, 66, 67, 68, 69, 70, 71, 72] (by decide +kernel) (by decide +kernel)
set_option maxRecDepth 20000 in
theorem gX1_rows_X1_readRowByte : GoodIn wsX1_rows (wsV RX1 52 RX1 yX1_readRowByte wsX1_readRowByte) := goodIn_app (goodIn_of _ (by decide +kernel)) ggX1_rows_X1_readRowByte
theorem dX1_rows_0 : decode cX1_rows 0 = .ok (.iload_n 1, 1) := by decide +kernel
theorem dX1_rows_1 : decode cX1_rows 1 = .ok (.invokestatic 33, 3) := by decide +kernel
theorem dX1_rows_4 : decode cX1_rows 4 = .ok (.ifCond .ne 5, 3) := by decide +kernel
theorem dX1_rows_7 : decode cX1_rows 7 = .ok (.iconst 0, 1) := by decide +kernel
theorem dX1_rows_8 : decode cX1_rows 8 = .ok (.ireturn, 1) := by decide +kernel
theorem dX1_rows_9 : decode cX1_rows 9 = .ok (.iconst 0, 1) := by decide +kernel
theorem dX1_rows_10 : decode cX1_rows 10 = .ok (.istore_n 2, 1) := by decide +kernel
theorem dX1_rows_11 : decode cX1_rows 11 = .ok (.aload_n 0, 1) := by decide +kernel
theorem dX1_rows_12 : decode cX1_rows 12 = .ok (.invokevirtual 56, 3) := by decide +kernel
theorem dX1_rows_15 : decode cX1_rows 15 = .ok (.iconst 2, 1) := by decide +kernel
theorem dX1_rows_16 : decode cX1_rows 16 = .ok (.imul, 1) := by decide +kernel
theorem dX1_rows_17 : decode cX1_rows 17 = .ok (.istore_n 3, 1) := by decide +kernel
theorem dX1_rows_18 : decode cX1_rows 18 = .ok (.iconst 0, 1) := by decide +kernel
theorem dX1_rows_19 : decode cX1_rows 19 = .ok (.istore 4, 2) := by decide +kernel
theorem dX1_rows_21 : decode cX1_rows 21 = .ok (.iload 4, 2) := by decide +kernel
theorem dX1_rows_23 : decode cX1_rows 23 = .ok (.iload_n 3, 1) := by decide +kernel
theorem dX1_rows_24 : decode cX1_rows 24 = .ok (.if_icmp .ge 23, 3) := by decide +kernel
theorem dX1_rows_27 : decode cX1_rows 27 = .ok (.aload_n 0, 1) := by decide +kernel
theorem dX1_rows_28 : decode cX1_rows 28 = .ok (.iload 4, 2) := by decide +kernel
theorem dX1_rows_30 : decode cX1_rows 30 = .ok (.iconst 2, 1) := by decide +kernel
theorem dX1_rows_31 : decode cX1_rows 31 = .ok (.invokevirtual 52, 3) := by decide +kernel
theorem dX1_rows_34 : decode cX1_rows 34 = .ok (.iload_n 1, 1) := by decide +kernel
theorem dX1_rows_35 : decode cX1_rows 35 = .ok (.if_icmp .ne 6, 3) := by decide +kernel
theorem dX1_rows_38 : decode cX1_rows 38 = .ok (.iinc 2 1, 3) := by decide +kernel
theorem dX1_rows_41 : decode cX1_rows 41 = .ok (.iinc 4 1, 3) := by decide +kernel
theorem dX1_rows_44 : decode cX1_rows 44 = .ok (.goto (-23), 3) := by decide +kernel
theorem dX1_rows_47 : decode cX1_rows 47 = .ok (.iload_n 2, 1) := by decide +kernel
theorem dX1_rows_48 : decode cX1_rows 48 = .ok (.ireturn, 1) := by decide +kernel
set_option maxRecDepth 20000 in
theorem ggX1_drop_X1_isYear : GoodIn wsX1_drop wsX1_isYear := goodIn_r _ [5] (by decide +kernel) (by decide +kernel)
set_option maxRecDepth 20000 in
theorem gX1_drop_X1_isYear : GoodIn wsX1_drop (va_wsS RX1 33 yX1_isYear wsX1_isYear) := goodIn_app (goodIn_of _ (by decide +kernel)) ggX1_drop_X1_isYear
set_option maxRecDepth 20000 in
theorem ggX1_drop_X1_stripeCount : GoodIn wsX1_drop wsX1_stripeCount := goodIn_r _ [9, 10, 11, 12, 13, 14, 15, 16, 17, 18, 19, 95, 96, 97, 98, 99, 100, 101, 102, 103, 104, 105, 106, 107] (by decide +kernel) (by decide +kernel)
set_option maxRecDepth 20000 in
theorem gX1_drop_X1_stripeCount : GoodIn wsX1_drop (wsV RX1 56 RX1 yX1_stripeCount wsX1_stripeCount) := goodIn_app (goodIn_of _ (by decide +kernel)) ggX1_drop_X1_stripeCount
set_option maxRecDepth 20000 in
theorem ggX1_drop_X1_dropInStripe : GoodIn wsX1_drop wsX1_dropInStripe := goodIn_r _ [23, 24, 25, 26, 4, 27, 10, 28, 29, 30, 31, 16, 32, 33, 34, 35, 36, 37, 19, 38, 39, 40, 41, 42, 43, 44, 45, 46, 47, 48, 49, 50, 51, 52, 53, 54, 55, 56, 57, 58, 59, 60, 61, 62, 63, 64, 65, 66, 67, 68, 69, 70, 13, 71, 72, 12, 14, 73, 74, 75, 76, 77, 78, 79, 80, 81, 82, 83, 84, 85, 86, 87, 88, 89, 90, 91, 92, 93, 94, 95, 96, 97, 98, 99, 100, 101, 102, 103, 104, 105, 106, 107] (by decide +kernel) (by decide +kernel)
set_option maxRecDepth 20000 in
theorem gX1_drop_X1_dropInStripe : GoodIn wsX1_drop (wsV RX1 59 RX1 yX1_dropInStripe wsX1_dropInStripe) := goodIn_app (goodIn_of _ (by decide +kernel)) ggX1_drop_X1_dropInStripe
theorem dX1_drop_0 : decode cX1_drop 0 = .ok (.aload_n 0, 1) := by decide +kernel
theorem dX1_drop_1 : decode cX1_drop 1 = .ok (.getfield 29, 3) := by decide +kernel
theorem dX1_drop_4 : decode cX1_drop 4 = .ok (.ifCond .ne 10, 3) := by decide +kernel
theorem dX1_drop_7 : decode cX1_drop 7 = .ok (.iload_n 1, 1) := by decide +kernel
theorem dX1_drop_8 : decode cX1_drop 8 = .ok (.invokestatic 33, 3) := by decide +kernel
theorem dX1_drop_11 : decode cX1_drop 11 = .ok (.ifCond .ne 5, 3) := by decide +kernel
theorem dX1_drop_14 : decode cX1_drop 14 = .ok (.iconst 0, 1) := by decide +kernel
theorem dX1_drop_15 : decode cX1_drop 15 = .ok (.ireturn, 1) := by decide +kernel
theorem dX1_drop_16 : decode cX1_drop 16 = .ok (.iconst 0, 1) := by decide +kernel
theorem dX1_drop_17 : decode cX1_drop 17 = .ok (.istore_n 2, 1) := by decide +kernel
theorem dX1_drop_18 : decode cX1_drop 18 = .ok (.aload_n 0, 1) := by decide +kernel
theorem dX1_drop_19 : decode cX1_drop 19 = .ok (.invokevirtual 56, 3) := by decide +kernel
theorem dX1_drop_22 : decode cX1_drop 22 = .ok (.istore_n 3, 1) := by decide +kernel
theorem dX1_drop_23 : decode cX1_drop 23 = .ok (.iconst 0, 1) := by decide +kernel
theorem dX1_drop_24 : decode cX1_drop 24 = .ok (.istore 4, 2) := by decide +kernel
theorem dX1_drop_26 : decode cX1_drop 26 = .ok (.iload 4, 2) := by decide +kernel
theorem dX1_drop_28 : decode cX1_drop 28 = .ok (.iload_n 3, 1) := by decide +kernel
theorem dX1_drop_29 : decode cX1_drop 29 = .ok (.if_icmp .ge 21, 3) := by decide +kernel
theorem dX1_drop_32 : decode cX1_drop 32 = .ok (.aload_n 0, 1) := by decide +kernel
theorem dX1_drop_33 : decode cX1_drop 33 = .ok (.iload 4, 2) := by decide +kernel
theorem dX1_drop_35 : decode cX1_drop 35 = .ok (.iload_n 1, 1) := by decide +kernel
theorem dX1_drop_36 : decode cX1_drop 36 = .ok (.invokevirtual 59, 3) := by decide +kernel
theorem dX1_drop_39 : decode cX1_drop 39 = .ok (.ifCond .eq 5, 3) := by decide +kernel
theorem dX1_drop_42 : decode cX1_drop 42 = .ok (.iconst 1, 1) := by decide +kernel
theorem dX1_drop_43 : decode cX1_drop 43 = .ok (.istore_n 2, 1) := by decide +kernel
theorem dX1_drop_44 : decode cX1_drop 44 = .ok (.iinc 4 1, 3) := by decide +kernel
theorem dX1_drop_47 : decode cX1_drop 47 = .ok (.goto (-21), 3) := by decide +kernel
theorem dX1_drop_50 : decode cX1_drop 50 = .ok (.iload_n 2, 1) := by decide +kernel
theorem dX1_drop_51 : decode cX1_drop 51 = .ok (.ireturn, 1) := by decide +kernel
set_option maxRecDepth 20000 in
theorem ggX1_crash_X1_isFile : GoodIn wsX1_crash wsX1_isFile := goodIn_r _ [5] (by decide +kernel) (by decide +kernel)
set_option maxRecDepth 20000 in
theorem gX1_crash_X1_isFile : GoodIn wsX1_crash (va_wsS RX1 63 yX1_isFile wsX1_isFile) := goodIn_app (goodIn_of _ (by decide +kernel)) ggX1_crash_X1_isFile
set_option maxRecDepth 20000 in
theorem ggX1_crash_X0_length : GoodIn wsX1_crash wsX0_length := goodIn_r _ [9, 10, 41, 42, 43, 44, 45] (by decide +kernel) (by decide +kernel)
set_option maxRecDepth 20000 in
theorem gX1_crash_X0_length_n66 : GoodIn wsX1_crash (wsX0_length) := ggX1_crash_X0_length
set_option maxRecDepth 20000 in
theorem ggX1_crash_X1_shut : GoodIn wsX1_crash wsX1_shut := goodIn_r _ [14, 15, 1, 16, 17, 7, 18, 19, 20, 21, 10, 22, 33, 34, 35, 36, 37, 38, 39, 40, 41, 42, 43, 44, 45] (by decide +kernel) (by decide +kernel)
set_option maxRecDepth 20000 in
theorem gX1_crash_X1_shut : GoodIn wsX1_crash (wsV RX1 69 RX1 yX1_shut wsX1_shut) := goodIn_app (goodIn_of _ (by decide +kernel)) ggX1_crash_X1_shut
set_option maxRecDepth 20000 in
theorem ggX1_crash_X0_setLength : GoodIn wsX1_crash wsX0_setLength := goodIn_r _ [25, 20, 26, 27, 28, 29, 30, 31, 32, 10, 41, 42, 43, 44, 45] (by decide +kernel) (by decide +kernel)
set_option maxRecDepth 20000 in
theorem gX1_crash_X0_setLength_n72 : GoodIn wsX1_crash (wsX0_setLength) := ggX1_crash_X0_setLength
theorem dX1_crash_0 : decode cX1_crash 0 = .ok (.iload_n 1, 1) := by decide +kernel
theorem dX1_crash_1 : decode cX1_crash 1 = .ok (.invokestatic 63, 3) := by decide +kernel
theorem dX1_crash_4 : decode cX1_crash 4 = .ok (.ifCond .eq 20, 3) := by decide +kernel
theorem dX1_crash_7 : decode cX1_crash 7 = .ok (.iload_n 2, 1) := by decide +kernel
theorem dX1_crash_8 : decode cX1_crash 8 = .ok (.ifCond .lt 16, 3) := by decide +kernel
theorem dX1_crash_11 : decode cX1_crash 11 = .ok (.iload_n 2, 1) := by decide +kernel
theorem dX1_crash_12 : decode cX1_crash 12 = .ok (.aload_n 0, 1) := by decide +kernel
theorem dX1_crash_13 : decode cX1_crash 13 = .ok (.getfield 15, 3) := by decide +kernel
theorem dX1_crash_16 : decode cX1_crash 16 = .ok (.iload_n 1, 1) := by decide +kernel
theorem dX1_crash_17 : decode cX1_crash 17 = .ok (.aaload, 1) := by decide +kernel
theorem dX1_crash_18 : decode cX1_crash 18 = .ok (.invokevirtual 66, 3) := by decide +kernel
theorem dX1_crash_21 : decode cX1_crash 21 = .ok (.if_icmp .lt 5, 3) := by decide +kernel
theorem dX1_crash_24 : decode cX1_crash 24 = .ok (.iconst 0, 1) := by decide +kernel
theorem dX1_crash_25 : decode cX1_crash 25 = .ok (.ireturn, 1) := by decide +kernel
theorem dX1_crash_26 : decode cX1_crash 26 = .ok (.aload_n 0, 1) := by decide +kernel
theorem dX1_crash_27 : decode cX1_crash 27 = .ok (.invokevirtual 69, 3) := by decide +kernel
theorem dX1_crash_30 : decode cX1_crash 30 = .ok (.aload_n 0, 1) := by decide +kernel
theorem dX1_crash_31 : decode cX1_crash 31 = .ok (.getfield 15, 3) := by decide +kernel
theorem dX1_crash_34 : decode cX1_crash 34 = .ok (.iload_n 1, 1) := by decide +kernel
theorem dX1_crash_35 : decode cX1_crash 35 = .ok (.aaload, 1) := by decide +kernel
theorem dX1_crash_36 : decode cX1_crash 36 = .ok (.iload_n 2, 1) := by decide +kernel
theorem dX1_crash_37 : decode cX1_crash 37 = .ok (.invokevirtual 72, 3) := by decide +kernel
theorem dX1_crash_40 : decode cX1_crash 40 = .ok (.iconst 1, 1) := by decide +kernel
theorem dX1_crash_41 : decode cX1_crash 41 = .ok (.ireturn, 1) := by decide +kernel
set_option maxRecDepth 20000 in
theorem ggX1_lose_X1_crash : GoodIn wsX1_lose wsX1_crash := goodIn_r _ [5, 6, 7, 8, 4, 9, 10, 11, 12, 13, 14, 15, 16, 17, 18, 19, 20, 21, 22, 23, 24, 25, 26, 27, 28, 29, 30, 31, 32, 33, 34, 35, 36, 37, 38, 39, 40, 41, 42, 43, 44, 45, 46, 47, 48, 49] (by decide +kernel) (by decide +kernel)
set_option maxRecDepth 20000 in
theorem gX1_lose_X1_crash : GoodIn wsX1_lose (wsV RX1 76 RX1 yX1_crash wsX1_crash) := goodIn_app (goodIn_of _ (by decide +kernel)) ggX1_lose_X1_crash
theorem dX1_lose_0 : decode cX1_lose 0 = .ok (.aload_n 0, 1) := by decide +kernel
theorem dX1_lose_1 : decode cX1_lose 1 = .ok (.iload_n 1, 1) := by decide +kernel
theorem dX1_lose_2 : decode cX1_lose 2 = .ok (.iconst 0, 1) := by decide +kernel
theorem dX1_lose_3 : decode cX1_lose 3 = .ok (.invokevirtual 76, 3) := by decide +kernel
theorem dX1_lose_6 : decode cX1_lose 6 = .ok (.ireturn, 1) := by decide +kernel
set_option maxRecDepth 20000 in
theorem ggX1_poke_X1_isFile : GoodIn wsX1_poke wsX1_isFile := goodIn_r _ [5] (by decide +kernel) (by decide +kernel)
set_option maxRecDepth 20000 in
theorem gX1_poke_X1_isFile : GoodIn wsX1_poke (va_wsS RX1 63 yX1_isFile wsX1_isFile) := goodIn_app (goodIn_of _ (by decide +kernel)) ggX1_poke_X1_isFile
set_option maxRecDepth 20000 in
theorem ggX1_poke_X0_has : GoodIn wsX1_poke wsX0_has := goodIn_r _ [9, 10, 38, 39, 40, 41, 42] (by decide +kernel) (by decide +kernel)
set_option maxRecDepth 20000 in
theorem gX1_poke_X0_has_n79 : GoodIn wsX1_poke (wsX0_has) := ggX1_poke_X0_has
set_option maxRecDepth 20000 in
theorem ggX1_poke_X1_shut : GoodIn wsX1_poke wsX1_shut := goodIn_r _ [14, 15, 1, 16, 17, 7, 18, 19, 20, 21, 10, 22, 30, 31, 32, 33, 34, 35, 36, 37, 38, 39, 40, 41, 42] (by decide +kernel) (by decide +kernel)
set_option maxRecDepth 20000 in
theorem gX1_poke_X1_shut : GoodIn wsX1_poke (wsV RX1 69 RX1 yX1_shut wsX1_shut) := goodIn_app (goodIn_of _ (by decide +kernel)) ggX1_poke_X1_shut
set_option maxRecDepth 20000 in
theorem ggX1_poke_X0_get : GoodIn wsX1_poke wsX0_get := goodIn_r _ [25, 10, 20, 38, 39, 40, 41, 42] (by decide +kernel) (by decide +kernel)
set_option maxRecDepth 20000 in
theorem gX1_poke_X0_get_n82 : GoodIn wsX1_poke (wsX0_get) := ggX1_poke_X0_get
set_option maxRecDepth 20000 in
theorem ggX1_poke_X0_set : GoodIn wsX1_poke wsX0_set := goodIn_r _ [28, 20, 29, 6, 8, 7, 9, 10, 38, 39, 40, 41, 42] (by decide +kernel) (by decide +kernel)
set_option maxRecDepth 20000 in
theorem gX1_poke_X0_set_n85 : GoodIn wsX1_poke (wsX0_set) := ggX1_poke_X0_set
theorem dX1_poke_0 : decode cX1_poke 0 = .ok (.iload_n 1, 1) := by decide +kernel
theorem dX1_poke_1 : decode cX1_poke 1 = .ok (.invokestatic 63, 3) := by decide +kernel
theorem dX1_poke_4 : decode cX1_poke 4 = .ok (.ifCond .eq 28, 3) := by decide +kernel
theorem dX1_poke_7 : decode cX1_poke 7 = .ok (.aload_n 0, 1) := by decide +kernel
theorem dX1_poke_8 : decode cX1_poke 8 = .ok (.getfield 15, 3) := by decide +kernel
theorem dX1_poke_11 : decode cX1_poke 11 = .ok (.iload_n 1, 1) := by decide +kernel
theorem dX1_poke_12 : decode cX1_poke 12 = .ok (.aaload, 1) := by decide +kernel
theorem dX1_poke_13 : decode cX1_poke 13 = .ok (.iload_n 2, 1) := by decide +kernel
theorem dX1_poke_14 : decode cX1_poke 14 = .ok (.invokevirtual 79, 3) := by decide +kernel
theorem dX1_poke_17 : decode cX1_poke 17 = .ok (.ifCond .eq 15, 3) := by decide +kernel
theorem dX1_poke_20 : decode cX1_poke 20 = .ok (.iload_n 3, 1) := by decide +kernel
theorem dX1_poke_21 : decode cX1_poke 21 = .ok (.iconst 1, 1) := by decide +kernel
theorem dX1_poke_22 : decode cX1_poke 22 = .ok (.if_icmp .lt 10, 3) := by decide +kernel
theorem dX1_poke_25 : decode cX1_poke 25 = .ok (.iload_n 3, 1) := by decide +kernel
theorem dX1_poke_26 : decode cX1_poke 26 = .ok (.sipush 255, 3) := by decide +kernel
theorem dX1_poke_29 : decode cX1_poke 29 = .ok (.if_icmp .le 5, 3) := by decide +kernel
theorem dX1_poke_32 : decode cX1_poke 32 = .ok (.iconst 0, 1) := by decide +kernel
theorem dX1_poke_33 : decode cX1_poke 33 = .ok (.ireturn, 1) := by decide +kernel
theorem dX1_poke_34 : decode cX1_poke 34 = .ok (.aload_n 0, 1) := by decide +kernel
theorem dX1_poke_35 : decode cX1_poke 35 = .ok (.invokevirtual 69, 3) := by decide +kernel
theorem dX1_poke_38 : decode cX1_poke 38 = .ok (.aload_n 0, 1) := by decide +kernel
theorem dX1_poke_39 : decode cX1_poke 39 = .ok (.getfield 15, 3) := by decide +kernel
theorem dX1_poke_42 : decode cX1_poke 42 = .ok (.iload_n 1, 1) := by decide +kernel
theorem dX1_poke_43 : decode cX1_poke 43 = .ok (.aaload, 1) := by decide +kernel
theorem dX1_poke_44 : decode cX1_poke 44 = .ok (.iload_n 2, 1) := by decide +kernel
theorem dX1_poke_45 : decode cX1_poke 45 = .ok (.aload_n 0, 1) := by decide +kernel
theorem dX1_poke_46 : decode cX1_poke 46 = .ok (.getfield 15, 3) := by decide +kernel
theorem dX1_poke_49 : decode cX1_poke 49 = .ok (.iload_n 1, 1) := by decide +kernel
theorem dX1_poke_50 : decode cX1_poke 50 = .ok (.aaload, 1) := by decide +kernel
theorem dX1_poke_51 : decode cX1_poke 51 = .ok (.iload_n 2, 1) := by decide +kernel
theorem dX1_poke_52 : decode cX1_poke 52 = .ok (.invokevirtual 82, 3) := by decide +kernel
theorem dX1_poke_55 : decode cX1_poke 55 = .ok (.iload_n 3, 1) := by decide +kernel
theorem dX1_poke_56 : decode cX1_poke 56 = .ok (.ixor, 1) := by decide +kernel
theorem dX1_poke_57 : decode cX1_poke 57 = .ok (.invokevirtual 85, 3) := by decide +kernel
theorem dX1_poke_60 : decode cX1_poke 60 = .ok (.iconst 1, 1) := by decide +kernel
theorem dX1_poke_61 : decode cX1_poke 61 = .ok (.ireturn, 1) := by decide +kernel
set_option maxRecDepth 20000 in
theorem ggX1_reopen_X1_stripeCount : GoodIn wsX1_reopen wsX1_stripeCount := goodIn_r _ [7, 1, 8, 9, 10, 11, 12, 13, 14, 15, 16, 89, 90, 91, 92, 93, 94, 95, 96, 97, 98, 99, 100, 101] (by decide +kernel) (by decide +kernel)
set_option maxRecDepth 20000 in
theorem gX1_reopen_X1_stripeCount : GoodIn wsX1_reopen (wsV RX1 56 RX1 yX1_stripeCount wsX1_stripeCount) := goodIn_app (goodIn_of _ (by decide +kernel)) ggX1_reopen_X1_stripeCount
set_option maxRecDepth 20000 in
theorem ggX1_reopen_X1_mend : GoodIn wsX1_reopen wsX1_mend := goodIn_r _ [20, 1, 21, 22, 13, 23, 24, 25, 26, 27, 28, 16, 29, 30, 31, 32, 33, 34, 35, 36, 37, 38, 39, 40, 41, 42, 43, 44, 45, 46, 47, 48, 49, 50, 6, 51, 52, 53, 54, 55, 56, 57, 58, 59, 60, 61, 62, 63, 64, 10, 65, 66, 9, 11, 67, 68, 69, 70, 71, 72, 73, 74, 75, 76, 77, 89, 90, 91, 92, 93, 94, 95, 96, 97, 98, 99, 100, 101] (by decide +kernel) (by decide +kernel)
set_option maxRecDepth 20000 in
theorem gX1_reopen_X1_mend : GoodIn wsX1_reopen (wsV RX1 88 RX1 yX1_mend wsX1_mend) := goodIn_app (goodIn_of _ (by decide +kernel)) ggX1_reopen_X1_mend
set_option maxRecDepth 20000 in
theorem ggX1_reopen_X0_setLength : GoodIn wsX1_reopen wsX0_setLength := goodIn_r _ [62, 33, 63, 64, 10, 65, 66, 9, 11, 16, 97, 98, 99, 100, 101] (by decide +kernel) (by decide +kernel)
set_option maxRecDepth 20000 in
theorem gX1_reopen_X0_setLength_n72 : GoodIn wsX1_reopen (wsX0_setLength) := ggX1_reopen_X0_setLength
set_option maxRecDepth 20000 in
theorem ggX1_reopen_X1_readableRowsWithContents : GoodIn wsX1_reopen wsX1_readableRowsWithContents := goodIn_r _ [81, 3, 4, 5, 6, 7, 1, 8, 9, 10, 11, 12, 13, 14, 15, 16, 82, 83, 84, 85, 86, 87, 88, 22, 23, 24, 25, 26, 27, 28, 29, 30, 31, 32, 33, 34, 35, 36, 37, 38, 39, 40, 41, 42, 43, 44, 45, 46, 47, 48, 49, 50, 51, 67, 68, 69, 70, 89, 90, 91, 92, 93, 94, 95, 96, 97, 98, 99, 100, 101] (by decide +kernel) (by decide +kernel)
set_option maxRecDepth 20000 in
theorem gX1_reopen_X1_readableRowsWithContents : GoodIn wsX1_reopen (wsV RX1 91 RX1 yX1_readableRowsWithContents wsX1_readableRowsWithContents) := goodIn_app (goodIn_of _ (by decide +kernel)) ggX1_reopen_X1_readableRowsWithContents
theorem dX1_reopen_0 : decode cX1_reopen 0 = .ok (.aload_n 0, 1) := by decide +kernel
theorem dX1_reopen_1 : decode cX1_reopen 1 = .ok (.invokevirtual 56, 3) := by decide +kernel
theorem dX1_reopen_4 : decode cX1_reopen 4 = .ok (.istore_n 1, 1) := by decide +kernel
theorem dX1_reopen_5 : decode cX1_reopen 5 = .ok (.iconst 0, 1) := by decide +kernel
theorem dX1_reopen_6 : decode cX1_reopen 6 = .ok (.istore_n 2, 1) := by decide +kernel
theorem dX1_reopen_7 : decode cX1_reopen 7 = .ok (.iload_n 2, 1) := by decide +kernel
theorem dX1_reopen_8 : decode cX1_reopen 8 = .ok (.iload_n 1, 1) := by decide +kernel
theorem dX1_reopen_9 : decode cX1_reopen 9 = .ok (.if_icmp .ge 28, 3) := by decide +kernel
theorem dX1_reopen_12 : decode cX1_reopen 12 = .ok (.iconst 0, 1) := by decide +kernel
theorem dX1_reopen_13 : decode cX1_reopen 13 = .ok (.istore_n 3, 1) := by decide +kernel
theorem dX1_reopen_14 : decode cX1_reopen 14 = .ok (.iload_n 3, 1) := by decide +kernel
theorem dX1_reopen_15 : decode cX1_reopen 15 = .ok (.iconst 3, 1) := by decide +kernel
theorem dX1_reopen_16 : decode cX1_reopen 16 = .ok (.if_icmp .ge 15, 3) := by decide +kernel
theorem dX1_reopen_19 : decode cX1_reopen 19 = .ok (.aload_n 0, 1) := by decide +kernel
theorem dX1_reopen_20 : decode cX1_reopen 20 = .ok (.iload_n 3, 1) := by decide +kernel
theorem dX1_reopen_21 : decode cX1_reopen 21 = .ok (.iload_n 2, 1) := by decide +kernel
theorem dX1_reopen_22 : decode cX1_reopen 22 = .ok (.invokevirtual 88, 3) := by decide +kernel
theorem dX1_reopen_25 : decode cX1_reopen 25 = .ok (.iinc 3 1, 3) := by decide +kernel
theorem dX1_reopen_28 : decode cX1_reopen 28 = .ok (.goto (-14), 3) := by decide +kernel
theorem dX1_reopen_31 : decode cX1_reopen 31 = .ok (.iinc 2 1, 3) := by decide +kernel
theorem dX1_reopen_34 : decode cX1_reopen 34 = .ok (.goto (-27), 3) := by decide +kernel
theorem dX1_reopen_37 : decode cX1_reopen 37 = .ok (.iconst 0, 1) := by decide +kernel
theorem dX1_reopen_38 : decode cX1_reopen 38 = .ok (.istore_n 2, 1) := by decide +kernel
theorem dX1_reopen_39 : decode cX1_reopen 39 = .ok (.iload_n 2, 1) := by decide +kernel
theorem dX1_reopen_40 : decode cX1_reopen 40 = .ok (.iconst 3, 1) := by decide +kernel
theorem dX1_reopen_41 : decode cX1_reopen 41 = .ok (.if_icmp .ge 22, 3) := by decide +kernel
theorem dX1_reopen_44 : decode cX1_reopen 44 = .ok (.aload_n 0, 1) := by decide +kernel
theorem dX1_reopen_45 : decode cX1_reopen 45 = .ok (.getfield 15, 3) := by decide +kernel
theorem dX1_reopen_48 : decode cX1_reopen 48 = .ok (.iload_n 2, 1) := by decide +kernel
theorem dX1_reopen_49 : decode cX1_reopen 49 = .ok (.aaload, 1) := by decide +kernel
theorem dX1_reopen_50 : decode cX1_reopen 50 = .ok (.iload_n 1, 1) := by decide +kernel
theorem dX1_reopen_51 : decode cX1_reopen 51 = .ok (.bipush 24, 2) := by decide +kernel
theorem dX1_reopen_53 : decode cX1_reopen 53 = .ok (.imul, 1) := by decide +kernel
theorem dX1_reopen_54 : decode cX1_reopen 54 = .ok (.invokevirtual 72, 3) := by decide +kernel
theorem dX1_reopen_57 : decode cX1_reopen 57 = .ok (.iinc 2 1, 3) := by decide +kernel
theorem dX1_reopen_60 : decode cX1_reopen 60 = .ok (.goto (-21), 3) := by decide +kernel
theorem dX1_reopen_63 : decode cX1_reopen 63 = .ok (.aload_n 0, 1) := by decide +kernel
theorem dX1_reopen_64 : decode cX1_reopen 64 = .ok (.iconst 0, 1) := by decide +kernel
theorem dX1_reopen_65 : decode cX1_reopen 65 = .ok (.putfield 29, 3) := by decide +kernel
theorem dX1_reopen_68 : decode cX1_reopen 68 = .ok (.aload_n 0, 1) := by decide +kernel
theorem dX1_reopen_69 : decode cX1_reopen 69 = .ok (.invokevirtual 91, 3) := by decide +kernel
theorem dX1_reopen_72 : decode cX1_reopen 72 = .ok (.ireturn, 1) := by decide +kernel
set_option maxRecDepth 20000 in
theorem ggX1_scrub_X1_stripeCount : GoodIn wsX1_scrub wsX1_stripeCount := goodIn_r _ [10, 11, 12, 13, 4, 14, 15, 16, 17, 18, 19, 83, 84, 85, 86, 87, 88, 89, 90, 91, 92, 93, 94, 95] (by decide +kernel) (by decide +kernel)
set_option maxRecDepth 20000 in
theorem gX1_scrub_X1_stripeCount : GoodIn wsX1_scrub (wsV RX1 56 RX1 yX1_stripeCount wsX1_stripeCount) := goodIn_app (goodIn_of _ (by decide +kernel)) ggX1_scrub_X1_stripeCount
set_option maxRecDepth 20000 in
theorem ggX1_scrub_X1_allFilesReach : GoodIn wsX1_scrub wsX1_allFilesReach := goodIn_r _ [23, 11, 15, 16, 17, 18, 19, 83, 84, 85, 86, 87, 88, 89, 90, 91, 92, 93, 94, 95] (by decide +kernel) (by decide +kernel)
set_option maxRecDepth 20000 in
theorem gX1_scrub_X1_allFilesReach : GoodIn wsX1_scrub (wsV RX1 94 RX1 yX1_allFilesReach wsX1_allFilesReach) := goodIn_app (goodIn_of _ (by decide +kernel)) ggX1_scrub_X1_allFilesReach
set_option maxRecDepth 20000 in
theorem ggX1_scrub_X1_mend : GoodIn wsX1_scrub wsX1_mend := goodIn_r _ [27, 11, 28, 29, 16, 30, 31, 32, 33, 34, 35, 19, 36, 37, 38, 39, 40, 41, 42, 43, 44, 45, 46, 47, 48, 49, 50, 51, 52, 53, 54, 55, 56, 57, 9, 58, 59, 60, 61, 62, 63, 64, 65, 66, 67, 68, 69, 70, 3, 4, 5, 71, 13, 14, 72, 73, 74, 75, 76, 77, 78, 79, 80, 81, 82, 83, 84, 85, 86, 87, 88, 89, 90, 91, 92, 93, 94, 95] (by decide +kernel) (by decide +kernel)
set_option maxRecDepth 20000 in
theorem gX1_scrub_X1_mend : GoodIn wsX1_scrub (wsV RX1 88 RX1 yX1_mend wsX1_mend) := goodIn_app (goodIn_of _ (by decide +kernel)) ggX1_scrub_X1_mend
theorem dX1_scrub_0 : decode cX1_scrub 0 = .ok (.aload_n 0, 1) := by decide +kernel
theorem dX1_scrub_1 : decode cX1_scrub 1 = .ok (.invokevirtual 56, 3) := by decide +kernel
theorem dX1_scrub_4 : decode cX1_scrub 4 = .ok (.istore_n 2, 1) := by decide +kernel
theorem dX1_scrub_5 : decode cX1_scrub 5 = .ok (.iload_n 1, 1) := by decide +kernel
theorem dX1_scrub_6 : decode cX1_scrub 6 = .ok (.iconst 1, 1) := by decide +kernel
theorem dX1_scrub_7 : decode cX1_scrub 7 = .ok (.if_icmp .lt 14, 3) := by decide +kernel
theorem dX1_scrub_10 : decode cX1_scrub 10 = .ok (.aload_n 0, 1) := by decide +kernel
theorem dX1_scrub_11 : decode cX1_scrub 11 = .ok (.iload_n 2, 1) := by decide +kernel
theorem dX1_scrub_12 : decode cX1_scrub 12 = .ok (.bipush 24, 2) := by decide +kernel
theorem dX1_scrub_14 : decode cX1_scrub 14 = .ok (.imul, 1) := by decide +kernel
theorem dX1_scrub_15 : decode cX1_scrub 15 = .ok (.invokevirtual 94, 3) := by decide +kernel
theorem dX1_scrub_18 : decode cX1_scrub 18 = .ok (.ifCond .ne 5, 3) := by decide +kernel
theorem dX1_scrub_21 : decode cX1_scrub 21 = .ok (.iconst (-1), 1) := by decide +kernel
theorem dX1_scrub_22 : decode cX1_scrub 22 = .ok (.ireturn, 1) := by decide +kernel
theorem dX1_scrub_23 : decode cX1_scrub 23 = .ok (.iload_n 2, 1) := by decide +kernel
theorem dX1_scrub_24 : decode cX1_scrub 24 = .ok (.ifCond .ne 5, 3) := by decide +kernel
theorem dX1_scrub_27 : decode cX1_scrub 27 = .ok (.iconst 0, 1) := by decide +kernel
theorem dX1_scrub_28 : decode cX1_scrub 28 = .ok (.ireturn, 1) := by decide +kernel
theorem dX1_scrub_29 : decode cX1_scrub 29 = .ok (.iload_n 2, 1) := by decide +kernel
theorem dX1_scrub_30 : decode cX1_scrub 30 = .ok (.iconst 3, 1) := by decide +kernel
theorem dX1_scrub_31 : decode cX1_scrub 31 = .ok (.imul, 1) := by decide +kernel
theorem dX1_scrub_32 : decode cX1_scrub 32 = .ok (.istore_n 3, 1) := by decide +kernel
theorem dX1_scrub_33 : decode cX1_scrub 33 = .ok (.aload_n 0, 1) := by decide +kernel
theorem dX1_scrub_34 : decode cX1_scrub 34 = .ok (.getfield 97, 3) := by decide +kernel
theorem dX1_scrub_37 : decode cX1_scrub 37 = .ok (.iload_n 3, 1) := by decide +kernel
theorem dX1_scrub_38 : decode cX1_scrub 38 = .ok (.if_icmp .ge 10, 3) := by decide +kernel
theorem dX1_scrub_41 : decode cX1_scrub 41 = .ok (.aload_n 0, 1) := by decide +kernel
theorem dX1_scrub_42 : decode cX1_scrub 42 = .ok (.getfield 97, 3) := by decide +kernel
theorem dX1_scrub_45 : decode cX1_scrub 45 = .ok (.goto 4, 3) := by decide +kernel
theorem dX1_scrub_48 : decode cX1_scrub 48 = .ok (.iconst 0, 1) := by decide +kernel
theorem dX1_scrub_49 : decode cX1_scrub 49 = .ok (.istore 4, 2) := by decide +kernel
theorem dX1_scrub_51 : decode cX1_scrub 51 = .ok (.iload_n 1, 1) := by decide +kernel
theorem dX1_scrub_52 : decode cX1_scrub 52 = .ok (.iload_n 3, 1) := by decide +kernel
theorem dX1_scrub_53 : decode cX1_scrub 53 = .ok (.invokestatic 100, 3) := by decide +kernel
theorem dX1_scrub_56 : decode cX1_scrub 56 = .ok (.istore 5, 2) := by decide +kernel
theorem dX1_scrub_58 : decode cX1_scrub 58 = .ok (.iconst 0, 1) := by decide +kernel
theorem dX1_scrub_59 : decode cX1_scrub 59 = .ok (.istore 6, 2) := by decide +kernel
theorem dX1_scrub_61 : decode cX1_scrub 61 = .ok (.iload 6, 2) := by decide +kernel
theorem dX1_scrub_63 : decode cX1_scrub 63 = .ok (.iload 5, 2) := by decide +kernel
theorem dX1_scrub_65 : decode cX1_scrub 65 = .ok (.if_icmp .ge 30, 3) := by decide +kernel
theorem dX1_scrub_68 : decode cX1_scrub 68 = .ok (.iload 4, 2) := by decide +kernel
theorem dX1_scrub_70 : decode cX1_scrub 70 = .ok (.iload 6, 2) := by decide +kernel
theorem dX1_scrub_72 : decode cX1_scrub 72 = .ok (.iadd, 1) := by decide +kernel
theorem dX1_scrub_73 : decode cX1_scrub 73 = .ok (.iload_n 3, 1) := by decide +kernel
theorem dX1_scrub_74 : decode cX1_scrub 74 = .ok (.irem, 1) := by decide +kernel
theorem dX1_scrub_75 : decode cX1_scrub 75 = .ok (.istore 7, 2) := by decide +kernel
theorem dX1_scrub_77 : decode cX1_scrub 77 = .ok (.aload_n 0, 1) := by decide +kernel
theorem dX1_scrub_78 : decode cX1_scrub 78 = .ok (.iload 7, 2) := by decide +kernel
theorem dX1_scrub_80 : decode cX1_scrub 80 = .ok (.iconst 3, 1) := by decide +kernel
theorem dX1_scrub_81 : decode cX1_scrub 81 = .ok (.irem, 1) := by decide +kernel
theorem dX1_scrub_82 : decode cX1_scrub 82 = .ok (.iload 7, 2) := by decide +kernel
theorem dX1_scrub_84 : decode cX1_scrub 84 = .ok (.iconst 3, 1) := by decide +kernel
theorem dX1_scrub_85 : decode cX1_scrub 85 = .ok (.idiv, 1) := by decide +kernel
theorem dX1_scrub_86 : decode cX1_scrub 86 = .ok (.invokevirtual 88, 3) := by decide +kernel
theorem dX1_scrub_89 : decode cX1_scrub 89 = .ok (.iinc 6 1, 3) := by decide +kernel
theorem dX1_scrub_92 : decode cX1_scrub 92 = .ok (.goto (-31), 3) := by decide +kernel
theorem dX1_scrub_95 : decode cX1_scrub 95 = .ok (.aload_n 0, 1) := by decide +kernel
theorem dX1_scrub_96 : decode cX1_scrub 96 = .ok (.iload 4, 2) := by decide +kernel
theorem dX1_scrub_98 : decode cX1_scrub 98 = .ok (.iload_n 1, 1) := by decide +kernel
theorem dX1_scrub_99 : decode cX1_scrub 99 = .ok (.iload_n 3, 1) := by decide +kernel
theorem dX1_scrub_100 : decode cX1_scrub 100 = .ok (.irem, 1) := by decide +kernel
theorem dX1_scrub_101 : decode cX1_scrub 101 = .ok (.iadd, 1) := by decide +kernel
theorem dX1_scrub_102 : decode cX1_scrub 102 = .ok (.iload_n 3, 1) := by decide +kernel
theorem dX1_scrub_103 : decode cX1_scrub 103 = .ok (.irem, 1) := by decide +kernel
theorem dX1_scrub_104 : decode cX1_scrub 104 = .ok (.putfield 97, 3) := by decide +kernel
theorem dX1_scrub_107 : decode cX1_scrub 107 = .ok (.iload_n 1, 1) := by decide +kernel
theorem dX1_scrub_108 : decode cX1_scrub 108 = .ok (.ireturn, 1) := by decide +kernel
theorem dX1_mended_0 : decode cX1_mended 0 = .ok (.aload_n 0, 1) := by decide +kernel
theorem dX1_mended_1 : decode cX1_mended 1 = .ok (.getfield 105, 3) := by decide +kernel
theorem dX1_mended_4 : decode cX1_mended 4 = .ok (.ireturn, 1) := by decide +kernel
set_option maxRecDepth 20000 in
theorem ggX1_badAt_X1_stripeCount : GoodIn wsX1_badAt wsX1_stripeCount := goodIn_r _ [5, 6, 7, 8, 9, 10, 11, 12, 13, 14, 15, 46, 47, 48, 49, 50, 51, 52, 53, 54, 55, 56, 57, 58] (by decide +kernel) (by decide +kernel)
set_option maxRecDepth 20000 in
theorem gX1_badAt_X1_stripeCount : GoodIn wsX1_badAt (wsV RX1 56 RX1 yX1_stripeCount wsX1_stripeCount) := goodIn_app (goodIn_of _ (by decide +kernel)) ggX1_badAt_X1_stripeCount
set_option maxRecDepth 20000 in
theorem ggX1_badAt_X1_goodPieces : GoodIn wsX1_badAt wsX1_goodPieces := goodIn_r _ [19, 6, 20, 12, 21, 22, 23, 24, 25, 26, 15, 27, 28, 29, 30, 31, 32, 33, 34, 35, 36, 37, 38, 39, 40, 41, 42, 43, 44, 45, 46, 47, 48, 49, 50, 51, 52, 53, 54, 55, 56, 57, 58] (by decide +kernel) (by decide +kernel)
set_option maxRecDepth 20000 in
theorem gX1_badAt_X1_goodPieces : GoodIn wsX1_badAt (wsV RX1 108 RX1 yX1_goodPieces wsX1_goodPieces) := goodIn_app (goodIn_of _ (by decide +kernel)) ggX1_badAt_X1_goodPieces
theorem dX1_badAt_0 : decode cX1_badAt 0 = .ok (.aload_n 0, 1) := by decide +kernel
theorem dX1_badAt_1 : decode cX1_badAt 1 = .ok (.invokevirtual 56, 3) := by decide +kernel
theorem dX1_badAt_4 : decode cX1_badAt 4 = .ok (.istore_n 1, 1) := by decide +kernel
theorem dX1_badAt_5 : decode cX1_badAt 5 = .ok (.iconst 0, 1) := by decide +kernel
theorem dX1_badAt_6 : decode cX1_badAt 6 = .ok (.istore_n 2, 1) := by decide +kernel
theorem dX1_badAt_7 : decode cX1_badAt 7 = .ok (.iload_n 2, 1) := by decide +kernel
theorem dX1_badAt_8 : decode cX1_badAt 8 = .ok (.iload_n 1, 1) := by decide +kernel
theorem dX1_badAt_9 : decode cX1_badAt 9 = .ok (.if_icmp .ge 22, 3) := by decide +kernel
theorem dX1_badAt_12 : decode cX1_badAt 12 = .ok (.aload_n 0, 1) := by decide +kernel
theorem dX1_badAt_13 : decode cX1_badAt 13 = .ok (.iload_n 2, 1) := by decide +kernel
theorem dX1_badAt_14 : decode cX1_badAt 14 = .ok (.invokevirtual 108, 3) := by decide +kernel
theorem dX1_badAt_17 : decode cX1_badAt 17 = .ok (.iconst 2, 1) := by decide +kernel
theorem dX1_badAt_18 : decode cX1_badAt 18 = .ok (.if_icmp .ge 7, 3) := by decide +kernel
theorem dX1_badAt_21 : decode cX1_badAt 21 = .ok (.iload_n 2, 1) := by decide +kernel
theorem dX1_badAt_22 : decode cX1_badAt 22 = .ok (.iconst 1, 1) := by decide +kernel
theorem dX1_badAt_23 : decode cX1_badAt 23 = .ok (.iadd, 1) := by decide +kernel
theorem dX1_badAt_24 : decode cX1_badAt 24 = .ok (.ireturn, 1) := by decide +kernel
theorem dX1_badAt_25 : decode cX1_badAt 25 = .ok (.iinc 2 1, 3) := by decide +kernel
theorem dX1_badAt_28 : decode cX1_badAt 28 = .ok (.goto (-21), 3) := by decide +kernel
theorem dX1_badAt_31 : decode cX1_badAt 31 = .ok (.iconst 0, 1) := by decide +kernel
theorem dX1_badAt_32 : decode cX1_badAt 32 = .ok (.ireturn, 1) := by decide +kernel
set_option maxRecDepth 20000 in
theorem ggX1_byteAt_X1_isFile : GoodIn wsX1_byteAt wsX1_isFile := goodIn_r _ [9] (by decide +kernel) (by decide +kernel)
set_option maxRecDepth 20000 in
theorem gX1_byteAt_X1_isFile : GoodIn wsX1_byteAt (va_wsS RX1 63 yX1_isFile wsX1_isFile) := goodIn_app (goodIn_of _ (by decide +kernel)) ggX1_byteAt_X1_isFile
set_option maxRecDepth 20000 in
theorem ggX1_byteAt_X0_get : GoodIn wsX1_byteAt wsX0_get := goodIn_r _ [13, 14, 15, 30, 31, 32, 33, 34] (by decide +kernel) (by decide +kernel)
set_option maxRecDepth 20000 in
theorem gX1_byteAt_X0_get_n82 : GoodIn wsX1_byteAt (wsX0_get) := ggX1_byteAt_X0_get
theorem dX1_byteAt_0 : decode cX1_byteAt 0 = .ok (.iload_n 1, 1) := by decide +kernel
theorem dX1_byteAt_1 : decode cX1_byteAt 1 = .ok (.invokestatic 63, 3) := by decide +kernel
theorem dX1_byteAt_4 : decode cX1_byteAt 4 = .ok (.ifCond .eq 25, 3) := by decide +kernel
theorem dX1_byteAt_7 : decode cX1_byteAt 7 = .ok (.iload_n 2, 1) := by decide +kernel
theorem dX1_byteAt_8 : decode cX1_byteAt 8 = .ok (.ifCond .lt 21, 3) := by decide +kernel
theorem dX1_byteAt_11 : decode cX1_byteAt 11 = .ok (.iload_n 2, 1) := by decide +kernel
theorem dX1_byteAt_12 : decode cX1_byteAt 12 = .ok (.aload_n 0, 1) := by decide +kernel
theorem dX1_byteAt_13 : decode cX1_byteAt 13 = .ok (.getfield 9, 3) := by decide +kernel
theorem dX1_byteAt_16 : decode cX1_byteAt 16 = .ok (.if_icmp .ge 13, 3) := by decide +kernel
theorem dX1_byteAt_19 : decode cX1_byteAt 19 = .ok (.iload_n 3, 1) := by decide +kernel
theorem dX1_byteAt_20 : decode cX1_byteAt 20 = .ok (.ifCond .lt 9, 3) := by decide +kernel
theorem dX1_byteAt_23 : decode cX1_byteAt 23 = .ok (.iload_n 3, 1) := by decide +kernel
theorem dX1_byteAt_24 : decode cX1_byteAt 24 = .ok (.bipush 24, 2) := by decide +kernel
theorem dX1_byteAt_26 : decode cX1_byteAt 26 = .ok (.if_icmp .lt 13, 3) := by decide +kernel
theorem dX1_byteAt_29 : decode cX1_byteAt 29 = .ok (.new 111, 3) := by decide +kernel
theorem dX1_byteAt_32 : decode cX1_byteAt 32 = .ok (.dup, 1) := by decide +kernel
theorem dX1_byteAt_33 : decode cX1_byteAt 33 = .ok (.ldc 113, 2) := by decide +kernel
theorem dX1_byteAt_35 : decode cX1_byteAt 35 = .ok (.invokespecial 115, 3) := by decide +kernel
theorem dX1_byteAt_38 : decode cX1_byteAt 38 = .ok (.athrow, 1) := by decide +kernel
theorem dX1_byteAt_39 : decode cX1_byteAt 39 = .ok (.aload_n 0, 1) := by decide +kernel
theorem dX1_byteAt_40 : decode cX1_byteAt 40 = .ok (.getfield 15, 3) := by decide +kernel
theorem dX1_byteAt_43 : decode cX1_byteAt 43 = .ok (.iload_n 1, 1) := by decide +kernel
theorem dX1_byteAt_44 : decode cX1_byteAt 44 = .ok (.aaload, 1) := by decide +kernel
theorem dX1_byteAt_45 : decode cX1_byteAt 45 = .ok (.iload_n 2, 1) := by decide +kernel
theorem dX1_byteAt_46 : decode cX1_byteAt 46 = .ok (.bipush 24, 2) := by decide +kernel
theorem dX1_byteAt_48 : decode cX1_byteAt 48 = .ok (.imul, 1) := by decide +kernel
theorem dX1_byteAt_49 : decode cX1_byteAt 49 = .ok (.iload_n 3, 1) := by decide +kernel
theorem dX1_byteAt_50 : decode cX1_byteAt 50 = .ok (.iadd, 1) := by decide +kernel
theorem dX1_byteAt_51 : decode cX1_byteAt 51 = .ok (.invokevirtual 82, 3) := by decide +kernel
theorem dX1_byteAt_54 : decode cX1_byteAt 54 = .ok (.ireturn, 1) := by decide +kernel
set_option maxRecDepth 20000 in
theorem ggX1_same_X1_isFile : GoodIn wsX1_same wsX1_isFile := goodIn_r _ [6] (by decide +kernel) (by decide +kernel)
set_option maxRecDepth 20000 in
theorem gX1_same_X1_isFile : GoodIn wsX1_same (va_wsS RX1 63 yX1_isFile wsX1_isFile) := goodIn_app (goodIn_of _ (by decide +kernel)) ggX1_same_X1_isFile
set_option maxRecDepth 20000 in
theorem ggX1_same_X0_isAsRemembered : GoodIn wsX1_same wsX0_isAsRemembered := goodIn_r _ [10, 11, 12, 13, 14, 23, 24, 25, 26, 27] (by decide +kernel) (by decide +kernel)
set_option maxRecDepth 20000 in
theorem gX1_same_X0_isAsRemembered_n121 : GoodIn wsX1_same (wsX0_isAsRemembered) := ggX1_same_X0_isAsRemembered
theorem dX1_same_0 : decode cX1_same 0 = .ok (.iload_n 1, 1) := by decide +kernel
theorem dX1_same_1 : decode cX1_same 1 = .ok (.invokestatic 63, 3) := by decide +kernel
theorem dX1_same_4 : decode cX1_same 4 = .ok (.ifCond .eq 26, 3) := by decide +kernel
theorem dX1_same_7 : decode cX1_same 7 = .ok (.aload_n 0, 1) := by decide +kernel
theorem dX1_same_8 : decode cX1_same 8 = .ok (.getfield 118, 3) := by decide +kernel
theorem dX1_same_11 : decode cX1_same 11 = .ok (.ifCond .eq 15, 3) := by decide +kernel
theorem dX1_same_14 : decode cX1_same 14 = .ok (.aload_n 0, 1) := by decide +kernel
theorem dX1_same_15 : decode cX1_same 15 = .ok (.getfield 15, 3) := by decide +kernel
theorem dX1_same_18 : decode cX1_same 18 = .ok (.iload_n 1, 1) := by decide +kernel
theorem dX1_same_19 : decode cX1_same 19 = .ok (.aaload, 1) := by decide +kernel
theorem dX1_same_20 : decode cX1_same 20 = .ok (.invokevirtual 121, 3) := by decide +kernel
theorem dX1_same_23 : decode cX1_same 23 = .ok (.ifCond .eq 7, 3) := by decide +kernel
theorem dX1_same_26 : decode cX1_same 26 = .ok (.iconst 1, 1) := by decide +kernel
theorem dX1_same_27 : decode cX1_same 27 = .ok (.goto 4, 3) := by decide +kernel
theorem dX1_same_30 : decode cX1_same 30 = .ok (.iconst 0, 1) := by decide +kernel
theorem dX1_same_31 : decode cX1_same 31 = .ok (.ireturn, 1) := by decide +kernel
set_option maxRecDepth 20000 in
theorem ggX1_odd_X1_stripeCount : GoodIn wsX1_odd wsX1_stripeCount := goodIn_r _ [5, 6, 7, 8, 9, 10, 11, 12, 13, 14, 15, 19, 20, 21, 22, 23, 24, 25, 26, 27, 28, 29, 30, 31] (by decide +kernel) (by decide +kernel)
set_option maxRecDepth 20000 in
theorem gX1_odd_X1_stripeCount : GoodIn wsX1_odd (wsV RX1 56 RX1 yX1_stripeCount wsX1_stripeCount) := goodIn_app (goodIn_of _ (by decide +kernel)) ggX1_odd_X1_stripeCount
set_option maxRecDepth 20000 in
theorem ggX1_odd_X1_sumFile : GoodIn wsX1_odd wsX1_sumFile := goodIn_r _ [18] (by decide +kernel) (by decide +kernel)
set_option maxRecDepth 20000 in
theorem gX1_odd_X1_sumFile : GoodIn wsX1_odd (va_wsS RX1 45 yX1_sumFile wsX1_sumFile) := goodIn_app (goodIn_of _ (by decide +kernel)) ggX1_odd_X1_sumFile
theorem dX1_odd_0 : decode cX1_odd 0 = .ok (.iload_n 1, 1) := by decide +kernel
theorem dX1_odd_1 : decode cX1_odd 1 = .ok (.ifCond .lt 18, 3) := by decide +kernel
theorem dX1_odd_4 : decode cX1_odd 4 = .ok (.iload_n 1, 1) := by decide +kernel
theorem dX1_odd_5 : decode cX1_odd 5 = .ok (.aload_n 0, 1) := by decide +kernel
theorem dX1_odd_6 : decode cX1_odd 6 = .ok (.invokevirtual 56, 3) := by decide +kernel
theorem dX1_odd_9 : decode cX1_odd 9 = .ok (.if_icmp .ge 10, 3) := by decide +kernel
theorem dX1_odd_12 : decode cX1_odd 12 = .ok (.iload_n 1, 1) := by decide +kernel
theorem dX1_odd_13 : decode cX1_odd 13 = .ok (.invokestatic 45, 3) := by decide +kernel
theorem dX1_odd_16 : decode cX1_odd 16 = .ok (.goto 4, 3) := by decide +kernel
theorem dX1_odd_19 : decode cX1_odd 19 = .ok (.iconst (-1), 1) := by decide +kernel
theorem dX1_odd_20 : decode cX1_odd 20 = .ok (.ireturn, 1) := by decide +kernel
set_option maxRecDepth 20000 in
theorem ggX1_size_X1_isFile : GoodIn wsX1_size wsX1_isFile := goodIn_r _ [5] (by decide +kernel) (by decide +kernel)
set_option maxRecDepth 20000 in
theorem gX1_size_X1_isFile : GoodIn wsX1_size (va_wsS RX1 63 yX1_isFile wsX1_isFile) := goodIn_app (goodIn_of _ (by decide +kernel)) ggX1_size_X1_isFile
set_option maxRecDepth 20000 in
theorem ggX1_size_X0_length : GoodIn wsX1_size wsX0_length := goodIn_r _ [9, 10, 19, 20, 21, 22, 23] (by decide +kernel) (by decide +kernel)
set_option maxRecDepth 20000 in
theorem gX1_size_X0_length_n66 : GoodIn wsX1_size (wsX0_length) := ggX1_size_X0_length
theorem dX1_size_0 : decode cX1_size 0 = .ok (.iload_n 1, 1) := by decide +kernel
theorem dX1_size_1 : decode cX1_size 1 = .ok (.invokestatic 63, 3) := by decide +kernel
theorem dX1_size_4 : decode cX1_size 4 = .ok (.ifCond .eq 15, 3) := by decide +kernel
theorem dX1_size_7 : decode cX1_size 7 = .ok (.aload_n 0, 1) := by decide +kernel
theorem dX1_size_8 : decode cX1_size 8 = .ok (.getfield 15, 3) := by decide +kernel
theorem dX1_size_11 : decode cX1_size 11 = .ok (.iload_n 1, 1) := by decide +kernel
theorem dX1_size_12 : decode cX1_size 12 = .ok (.aaload, 1) := by decide +kernel
theorem dX1_size_13 : decode cX1_size 13 = .ok (.invokevirtual 66, 3) := by decide +kernel
theorem dX1_size_16 : decode cX1_size 16 = .ok (.goto 4, 3) := by decide +kernel
theorem dX1_size_19 : decode cX1_size 19 = .ok (.iconst (-1), 1) := by decide +kernel
theorem dX1_size_20 : decode cX1_size 20 = .ok (.ireturn, 1) := by decide +kernel
theorem dX1_isYear_0 : decode cX1_isYear 0 = .ok (.iload_n 0, 1) := by decide +kernel
theorem dX1_isYear_1 : decode cX1_isYear 1 = .ok (.iconst 1, 1) := by decide +kernel
theorem dX1_isYear_2 : decode cX1_isYear 2 = .ok (.if_icmp .lt 13, 3) := by decide +kernel
theorem dX1_isYear_5 : decode cX1_isYear 5 = .ok (.iload_n 0, 1) := by decide +kernel
theorem dX1_isYear_6 : decode cX1_isYear 6 = .ok (.bipush 100, 2) := by decide +kernel
theorem dX1_isYear_8 : decode cX1_isYear 8 = .ok (.if_icmp .gt 7, 3) := by decide +kernel
theorem dX1_isYear_11 : decode cX1_isYear 11 = .ok (.iconst 1, 1) := by decide +kernel
theorem dX1_isYear_12 : decode cX1_isYear 12 = .ok (.goto 4, 3) := by decide +kernel
theorem dX1_isYear_15 : decode cX1_isYear 15 = .ok (.iconst 0, 1) := by decide +kernel
theorem dX1_isYear_16 : decode cX1_isYear 16 = .ok (.ireturn, 1) := by decide +kernel
theorem dX1_isFile_0 : decode cX1_isFile 0 = .ok (.iload_n 0, 1) := by decide +kernel
theorem dX1_isFile_1 : decode cX1_isFile 1 = .ok (.ifCond .lt 12, 3) := by decide +kernel
theorem dX1_isFile_4 : decode cX1_isFile 4 = .ok (.iload_n 0, 1) := by decide +kernel
theorem dX1_isFile_5 : decode cX1_isFile 5 = .ok (.iconst 3, 1) := by decide +kernel
theorem dX1_isFile_6 : decode cX1_isFile 6 = .ok (.if_icmp .ge 7, 3) := by decide +kernel
theorem dX1_isFile_9 : decode cX1_isFile 9 = .ok (.iconst 1, 1) := by decide +kernel
theorem dX1_isFile_10 : decode cX1_isFile 10 = .ok (.goto 4, 3) := by decide +kernel
theorem dX1_isFile_13 : decode cX1_isFile 13 = .ok (.iconst 0, 1) := by decide +kernel
theorem dX1_isFile_14 : decode cX1_isFile 14 = .ok (.ireturn, 1) := by decide +kernel
theorem dX1_sumFile_0 : decode cX1_sumFile 0 = .ok (.iload_n 0, 1) := by decide +kernel
theorem dX1_sumFile_1 : decode cX1_sumFile 1 = .ok (.iconst 3, 1) := by decide +kernel
theorem dX1_sumFile_2 : decode cX1_sumFile 2 = .ok (.irem, 1) := by decide +kernel
theorem dX1_sumFile_3 : decode cX1_sumFile 3 = .ok (.ireturn, 1) := by decide +kernel
theorem dX1_fileOfRow_0 : decode cX1_fileOfRow 0 = .ok (.iload_n 0, 1) := by decide +kernel
theorem dX1_fileOfRow_1 : decode cX1_fileOfRow 1 = .ok (.iconst 2, 1) := by decide +kernel
theorem dX1_fileOfRow_2 : decode cX1_fileOfRow 2 = .ok (.idiv, 1) := by decide +kernel
theorem dX1_fileOfRow_3 : decode cX1_fileOfRow 3 = .ok (.iconst 1, 1) := by decide +kernel
theorem dX1_fileOfRow_4 : decode cX1_fileOfRow 4 = .ok (.iadd, 1) := by decide +kernel
theorem dX1_fileOfRow_5 : decode cX1_fileOfRow 5 = .ok (.iload_n 0, 1) := by decide +kernel
theorem dX1_fileOfRow_6 : decode cX1_fileOfRow 6 = .ok (.iconst 2, 1) := by decide +kernel
theorem dX1_fileOfRow_7 : decode cX1_fileOfRow 7 = .ok (.irem, 1) := by decide +kernel
theorem dX1_fileOfRow_8 : decode cX1_fileOfRow 8 = .ok (.iadd, 1) := by decide +kernel
theorem dX1_fileOfRow_9 : decode cX1_fileOfRow 9 = .ok (.iconst 3, 1) := by decide +kernel
theorem dX1_fileOfRow_10 : decode cX1_fileOfRow 10 = .ok (.irem, 1) := by decide +kernel
theorem dX1_fileOfRow_11 : decode cX1_fileOfRow 11 = .ok (.ireturn, 1) := by decide +kernel
set_option maxRecDepth 20000 in
theorem ggX1_stripeCount_X0_length : GoodIn wsX1_stripeCount wsX0_length := goodIn_r _ [9, 10, 19, 20, 21, 22, 23] (by decide +kernel) (by decide +kernel)
set_option maxRecDepth 20000 in
theorem gX1_stripeCount_X0_length_n66 : GoodIn wsX1_stripeCount (wsX0_length) := ggX1_stripeCount_X0_length
theorem dX1_stripeCount_0 : decode cX1_stripeCount 0 = .ok (.iconst 0, 1) := by decide +kernel
theorem dX1_stripeCount_1 : decode cX1_stripeCount 1 = .ok (.istore_n 1, 1) := by decide +kernel
theorem dX1_stripeCount_2 : decode cX1_stripeCount 2 = .ok (.iconst 0, 1) := by decide +kernel
theorem dX1_stripeCount_3 : decode cX1_stripeCount 3 = .ok (.istore_n 2, 1) := by decide +kernel
theorem dX1_stripeCount_4 : decode cX1_stripeCount 4 = .ok (.iload_n 2, 1) := by decide +kernel
theorem dX1_stripeCount_5 : decode cX1_stripeCount 5 = .ok (.iconst 3, 1) := by decide +kernel
theorem dX1_stripeCount_6 : decode cX1_stripeCount 6 = .ok (.if_icmp .ge 26, 3) := by decide +kernel
theorem dX1_stripeCount_9 : decode cX1_stripeCount 9 = .ok (.iload_n 1, 1) := by decide +kernel
theorem dX1_stripeCount_10 : decode cX1_stripeCount 10 = .ok (.aload_n 0, 1) := by decide +kernel
theorem dX1_stripeCount_11 : decode cX1_stripeCount 11 = .ok (.getfield 15, 3) := by decide +kernel
theorem dX1_stripeCount_14 : decode cX1_stripeCount 14 = .ok (.iload_n 2, 1) := by decide +kernel
theorem dX1_stripeCount_15 : decode cX1_stripeCount 15 = .ok (.aaload, 1) := by decide +kernel
theorem dX1_stripeCount_16 : decode cX1_stripeCount 16 = .ok (.invokevirtual 66, 3) := by decide +kernel
theorem dX1_stripeCount_19 : decode cX1_stripeCount 19 = .ok (.bipush 24, 2) := by decide +kernel
theorem dX1_stripeCount_21 : decode cX1_stripeCount 21 = .ok (.idiv, 1) := by decide +kernel
theorem dX1_stripeCount_22 : decode cX1_stripeCount 22 = .ok (.invokestatic 125, 3) := by decide +kernel
theorem dX1_stripeCount_25 : decode cX1_stripeCount 25 = .ok (.istore_n 1, 1) := by decide +kernel
theorem dX1_stripeCount_26 : decode cX1_stripeCount 26 = .ok (.iinc 2 1, 3) := by decide +kernel
theorem dX1_stripeCount_29 : decode cX1_stripeCount 29 = .ok (.goto (-25), 3) := by decide +kernel
theorem dX1_stripeCount_32 : decode cX1_stripeCount 32 = .ok (.iload_n 1, 1) := by decide +kernel
theorem dX1_stripeCount_33 : decode cX1_stripeCount 33 = .ok (.ireturn, 1) := by decide +kernel
set_option maxRecDepth 20000 in
theorem ggX1_allFilesReach_X0_length : GoodIn wsX1_allFilesReach wsX0_length := goodIn_r _ [5, 6, 15, 16, 17, 18, 19] (by decide +kernel) (by decide +kernel)
set_option maxRecDepth 20000 in
theorem gX1_allFilesReach_X0_length_n66 : GoodIn wsX1_allFilesReach (wsX0_length) := ggX1_allFilesReach_X0_length
theorem dX1_allFilesReach_0 : decode cX1_allFilesReach 0 = .ok (.iconst 0, 1) := by decide +kernel
theorem dX1_allFilesReach_1 : decode cX1_allFilesReach 1 = .ok (.istore_n 2, 1) := by decide +kernel
theorem dX1_allFilesReach_2 : decode cX1_allFilesReach 2 = .ok (.iload_n 2, 1) := by decide +kernel
theorem dX1_allFilesReach_3 : decode cX1_allFilesReach 3 = .ok (.iconst 3, 1) := by decide +kernel
theorem dX1_allFilesReach_4 : decode cX1_allFilesReach 4 = .ok (.if_icmp .ge 24, 3) := by decide +kernel
theorem dX1_allFilesReach_7 : decode cX1_allFilesReach 7 = .ok (.aload_n 0, 1) := by decide +kernel
theorem dX1_allFilesReach_8 : decode cX1_allFilesReach 8 = .ok (.getfield 15, 3) := by decide +kernel
theorem dX1_allFilesReach_11 : decode cX1_allFilesReach 11 = .ok (.iload_n 2, 1) := by decide +kernel
theorem dX1_allFilesReach_12 : decode cX1_allFilesReach 12 = .ok (.aaload, 1) := by decide +kernel
theorem dX1_allFilesReach_13 : decode cX1_allFilesReach 13 = .ok (.invokevirtual 66, 3) := by decide +kernel
theorem dX1_allFilesReach_16 : decode cX1_allFilesReach 16 = .ok (.iload_n 1, 1) := by decide +kernel
theorem dX1_allFilesReach_17 : decode cX1_allFilesReach 17 = .ok (.if_icmp .ge 5, 3) := by decide +kernel
theorem dX1_allFilesReach_20 : decode cX1_allFilesReach 20 = .ok (.iconst 0, 1) := by decide +kernel
theorem dX1_allFilesReach_21 : decode cX1_allFilesReach 21 = .ok (.ireturn, 1) := by decide +kernel
theorem dX1_allFilesReach_22 : decode cX1_allFilesReach 22 = .ok (.iinc 2 1, 3) := by decide +kernel
theorem dX1_allFilesReach_25 : decode cX1_allFilesReach 25 = .ok (.goto (-23), 3) := by decide +kernel
theorem dX1_allFilesReach_28 : decode cX1_allFilesReach 28 = .ok (.iconst 1, 1) := by decide +kernel
theorem dX1_allFilesReach_29 : decode cX1_allFilesReach 29 = .ok (.ireturn, 1) := by decide +kernel
set_option maxRecDepth 20000 in
theorem ggX1_goodPieces_X0_isGood : GoodIn wsX1_goodPieces wsX0_isGood := goodIn_r _ [5, 6, 7, 8, 3, 9, 10, 11, 12, 13, 14, 15, 16, 17, 18, 19, 20, 21, 22, 23, 24, 25, 26, 27, 28, 29, 38, 39, 40, 41, 42] (by decide +kernel) (by decide +kernel)
set_option maxRecDepth 20000 in
theorem gX1_goodPieces_X0_isGood_n128 : GoodIn wsX1_goodPieces (wsX0_isGood) := ggX1_goodPieces_X0_isGood
theorem dX1_goodPieces_0 : decode cX1_goodPieces 0 = .ok (.iconst 0, 1) := by decide +kernel
theorem dX1_goodPieces_1 : decode cX1_goodPieces 1 = .ok (.istore_n 2, 1) := by decide +kernel
theorem dX1_goodPieces_2 : decode cX1_goodPieces 2 = .ok (.iconst 0, 1) := by decide +kernel
theorem dX1_goodPieces_3 : decode cX1_goodPieces 3 = .ok (.istore_n 3, 1) := by decide +kernel
theorem dX1_goodPieces_4 : decode cX1_goodPieces 4 = .ok (.iload_n 3, 1) := by decide +kernel
theorem dX1_goodPieces_5 : decode cX1_goodPieces 5 = .ok (.iconst 3, 1) := by decide +kernel
theorem dX1_goodPieces_6 : decode cX1_goodPieces 6 = .ok (.if_icmp .ge 25, 3) := by decide +kernel
theorem dX1_goodPieces_9 : decode cX1_goodPieces 9 = .ok (.aload_n 0, 1) := by decide +kernel
theorem dX1_goodPieces_10 : decode cX1_goodPieces 10 = .ok (.getfield 15, 3) := by decide +kernel
theorem dX1_goodPieces_13 : decode cX1_goodPieces 13 = .ok (.iload_n 3, 1) := by decide +kernel
theorem dX1_goodPieces_14 : decode cX1_goodPieces 14 = .ok (.aaload, 1) := by decide +kernel
theorem dX1_goodPieces_15 : decode cX1_goodPieces 15 = .ok (.iload_n 1, 1) := by decide +kernel
theorem dX1_goodPieces_16 : decode cX1_goodPieces 16 = .ok (.invokevirtual 128, 3) := by decide +kernel
theorem dX1_goodPieces_19 : decode cX1_goodPieces 19 = .ok (.ifCond .eq 6, 3) := by decide +kernel
theorem dX1_goodPieces_22 : decode cX1_goodPieces 22 = .ok (.iinc 2 1, 3) := by decide +kernel
theorem dX1_goodPieces_25 : decode cX1_goodPieces 25 = .ok (.iinc 3 1, 3) := by decide +kernel
theorem dX1_goodPieces_28 : decode cX1_goodPieces 28 = .ok (.goto (-24), 3) := by decide +kernel
theorem dX1_goodPieces_31 : decode cX1_goodPieces 31 = .ok (.iload_n 2, 1) := by decide +kernel
theorem dX1_goodPieces_32 : decode cX1_goodPieces 32 = .ok (.ireturn, 1) := by decide +kernel
set_option maxRecDepth 20000 in
theorem ggX1_othersAreGood_X0_isGood : GoodIn wsX1_othersAreGood wsX0_isGood := goodIn_r _ [5, 6, 7, 8, 3, 9, 10, 11, 12, 13, 14, 15, 16, 17, 18, 19, 20, 21, 22, 23, 24, 25, 26, 27, 28, 29, 38, 39, 40, 41, 42] (by decide +kernel) (by decide +kernel)
set_option maxRecDepth 20000 in
theorem gX1_othersAreGood_X0_isGood_n128 : GoodIn wsX1_othersAreGood (wsX0_isGood) := ggX1_othersAreGood_X0_isGood
theorem dX1_othersAreGood_0 : decode cX1_othersAreGood 0 = .ok (.aload_n 0, 1) := by decide +kernel
theorem dX1_othersAreGood_1 : decode cX1_othersAreGood 1 = .ok (.getfield 15, 3) := by decide +kernel
theorem dX1_othersAreGood_4 : decode cX1_othersAreGood 4 = .ok (.iload_n 1, 1) := by decide +kernel
theorem dX1_othersAreGood_5 : decode cX1_othersAreGood 5 = .ok (.iconst 1, 1) := by decide +kernel
theorem dX1_othersAreGood_6 : decode cX1_othersAreGood 6 = .ok (.iadd, 1) := by decide +kernel
theorem dX1_othersAreGood_7 : decode cX1_othersAreGood 7 = .ok (.iconst 3, 1) := by decide +kernel
theorem dX1_othersAreGood_8 : decode cX1_othersAreGood 8 = .ok (.irem, 1) := by decide +kernel
theorem dX1_othersAreGood_9 : decode cX1_othersAreGood 9 = .ok (.aaload, 1) := by decide +kernel
theorem dX1_othersAreGood_10 : decode cX1_othersAreGood 10 = .ok (.iload_n 2, 1) := by decide +kernel
theorem dX1_othersAreGood_11 : decode cX1_othersAreGood 11 = .ok (.invokevirtual 128, 3) := by decide +kernel
theorem dX1_othersAreGood_14 : decode cX1_othersAreGood 14 = .ok (.ifCond .eq 24, 3) := by decide +kernel
theorem dX1_othersAreGood_17 : decode cX1_othersAreGood 17 = .ok (.aload_n 0, 1) := by decide +kernel
theorem dX1_othersAreGood_18 : decode cX1_othersAreGood 18 = .ok (.getfield 15, 3) := by decide +kernel
theorem dX1_othersAreGood_21 : decode cX1_othersAreGood 21 = .ok (.iload_n 1, 1) := by decide +kernel
theorem dX1_othersAreGood_22 : decode cX1_othersAreGood 22 = .ok (.iconst 2, 1) := by decide +kernel
theorem dX1_othersAreGood_23 : decode cX1_othersAreGood 23 = .ok (.iadd, 1) := by decide +kernel
theorem dX1_othersAreGood_24 : decode cX1_othersAreGood 24 = .ok (.iconst 3, 1) := by decide +kernel
theorem dX1_othersAreGood_25 : decode cX1_othersAreGood 25 = .ok (.irem, 1) := by decide +kernel
theorem dX1_othersAreGood_26 : decode cX1_othersAreGood 26 = .ok (.aaload, 1) := by decide +kernel
theorem dX1_othersAreGood_27 : decode cX1_othersAreGood 27 = .ok (.iload_n 2, 1) := by decide +kernel
theorem dX1_othersAreGood_28 : decode cX1_othersAreGood 28 = .ok (.invokevirtual 128, 3) := by decide +kernel
theorem dX1_othersAreGood_31 : decode cX1_othersAreGood 31 = .ok (.ifCond .eq 7, 3) := by decide +kernel
theorem dX1_othersAreGood_34 : decode cX1_othersAreGood 34 = .ok (.iconst 1, 1) := by decide +kernel
theorem dX1_othersAreGood_35 : decode cX1_othersAreGood 35 = .ok (.goto 4, 3) := by decide +kernel
theorem dX1_othersAreGood_38 : decode cX1_othersAreGood 38 = .ok (.iconst 0, 1) := by decide +kernel
theorem dX1_othersAreGood_39 : decode cX1_othersAreGood 39 = .ok (.ireturn, 1) := by decide +kernel
set_option maxRecDepth 20000 in
theorem ggX1_byteOfOthers_X0_get : GoodIn wsX1_byteOfOthers wsX0_get := goodIn_r _ [5, 6, 7, 16, 17, 18, 19, 20] (by decide +kernel) (by decide +kernel)
set_option maxRecDepth 20000 in
theorem gX1_byteOfOthers_X0_get_n82 : GoodIn wsX1_byteOfOthers (wsX0_get) := ggX1_byteOfOthers_X0_get
theorem dX1_byteOfOthers_0 : decode cX1_byteOfOthers 0 = .ok (.iload_n 2, 1) := by decide +kernel
theorem dX1_byteOfOthers_1 : decode cX1_byteOfOthers 1 = .ok (.bipush 24, 2) := by decide +kernel
theorem dX1_byteOfOthers_3 : decode cX1_byteOfOthers 3 = .ok (.imul, 1) := by decide +kernel
theorem dX1_byteOfOthers_4 : decode cX1_byteOfOthers 4 = .ok (.iload_n 3, 1) := by decide +kernel
theorem dX1_byteOfOthers_5 : decode cX1_byteOfOthers 5 = .ok (.iadd, 1) := by decide +kernel
theorem dX1_byteOfOthers_6 : decode cX1_byteOfOthers 6 = .ok (.istore 4, 2) := by decide +kernel
theorem dX1_byteOfOthers_8 : decode cX1_byteOfOthers 8 = .ok (.aload_n 0, 1) := by decide +kernel
theorem dX1_byteOfOthers_9 : decode cX1_byteOfOthers 9 = .ok (.getfield 15, 3) := by decide +kernel
theorem dX1_byteOfOthers_12 : decode cX1_byteOfOthers 12 = .ok (.iload_n 1, 1) := by decide +kernel
theorem dX1_byteOfOthers_13 : decode cX1_byteOfOthers 13 = .ok (.iconst 1, 1) := by decide +kernel
theorem dX1_byteOfOthers_14 : decode cX1_byteOfOthers 14 = .ok (.iadd, 1) := by decide +kernel
theorem dX1_byteOfOthers_15 : decode cX1_byteOfOthers 15 = .ok (.iconst 3, 1) := by decide +kernel
theorem dX1_byteOfOthers_16 : decode cX1_byteOfOthers 16 = .ok (.irem, 1) := by decide +kernel
theorem dX1_byteOfOthers_17 : decode cX1_byteOfOthers 17 = .ok (.aaload, 1) := by decide +kernel
theorem dX1_byteOfOthers_18 : decode cX1_byteOfOthers 18 = .ok (.iload 4, 2) := by decide +kernel
theorem dX1_byteOfOthers_20 : decode cX1_byteOfOthers 20 = .ok (.invokevirtual 82, 3) := by decide +kernel
theorem dX1_byteOfOthers_23 : decode cX1_byteOfOthers 23 = .ok (.aload_n 0, 1) := by decide +kernel
theorem dX1_byteOfOthers_24 : decode cX1_byteOfOthers 24 = .ok (.getfield 15, 3) := by decide +kernel
theorem dX1_byteOfOthers_27 : decode cX1_byteOfOthers 27 = .ok (.iload_n 1, 1) := by decide +kernel
theorem dX1_byteOfOthers_28 : decode cX1_byteOfOthers 28 = .ok (.iconst 2, 1) := by decide +kernel
theorem dX1_byteOfOthers_29 : decode cX1_byteOfOthers 29 = .ok (.iadd, 1) := by decide +kernel
theorem dX1_byteOfOthers_30 : decode cX1_byteOfOthers 30 = .ok (.iconst 3, 1) := by decide +kernel
theorem dX1_byteOfOthers_31 : decode cX1_byteOfOthers 31 = .ok (.irem, 1) := by decide +kernel
theorem dX1_byteOfOthers_32 : decode cX1_byteOfOthers 32 = .ok (.aaload, 1) := by decide +kernel
theorem dX1_byteOfOthers_33 : decode cX1_byteOfOthers 33 = .ok (.iload 4, 2) := by decide +kernel
theorem dX1_byteOfOthers_35 : decode cX1_byteOfOthers 35 = .ok (.invokevirtual 82, 3) := by decide +kernel
theorem dX1_byteOfOthers_38 : decode cX1_byteOfOthers 38 = .ok (.ixor, 1) := by decide +kernel
theorem dX1_byteOfOthers_39 : decode cX1_byteOfOthers 39 = .ok (.ireturn, 1) := by decide +kernel
set_option maxRecDepth 20000 in
theorem ggX1_readRowByte_X1_stripeCount : GoodIn wsX1_readRowByte wsX1_stripeCount := goodIn_r _ [6, 1, 7, 8, 9, 10, 11, 12, 13, 14, 15, 53, 54, 55, 56, 57, 58, 59, 60, 61, 62, 63, 64, 65] (by decide +kernel) (by decide +kernel)
set_option maxRecDepth 20000 in
theorem gX1_readRowByte_X1_stripeCount : GoodIn wsX1_readRowByte (wsV RX1 56 RX1 yX1_stripeCount wsX1_stripeCount) := goodIn_app (goodIn_of _ (by decide +kernel)) ggX1_readRowByte_X1_stripeCount
set_option maxRecDepth 20000 in
theorem ggX1_readRowByte_X1_fileOfRow : GoodIn wsX1_readRowByte wsX1_fileOfRow := goodIn_r _ [18] (by decide +kernel) (by decide +kernel)
set_option maxRecDepth 20000 in
theorem gX1_readRowByte_X1_fileOfRow : GoodIn wsX1_readRowByte (va_wsS RX1 131 yX1_fileOfRow wsX1_fileOfRow) := goodIn_app (goodIn_of _ (by decide +kernel)) ggX1_readRowByte_X1_fileOfRow
set_option maxRecDepth 20000 in
theorem ggX1_readRowByte_X0_isGood : GoodIn wsX1_readRowByte wsX0_isGood := goodIn_r _ [21, 22, 23, 24, 12, 25, 15, 26, 27, 28, 29, 30, 31, 32, 33, 34, 35, 36, 37, 38, 39, 40, 41, 42, 43, 44, 61, 62, 63, 64, 65] (by decide +kernel) (by decide +kernel)
set_option maxRecDepth 20000 in
theorem gX1_readRowByte_X0_isGood_n128 : GoodIn wsX1_readRowByte (wsX0_isGood) := ggX1_readRowByte_X0_isGood
set_option maxRecDepth 20000 in
theorem ggX1_readRowByte_X0_get : GoodIn wsX1_readRowByte wsX0_get := goodIn_r _ [29, 15, 30, 61, 62, 63, 64, 65] (by decide +kernel) (by decide +kernel)
set_option maxRecDepth 20000 in
theorem gX1_readRowByte_X0_get_n82 : GoodIn wsX1_readRowByte (wsX0_get) := ggX1_readRowByte_X0_get
set_option maxRecDepth 20000 in
theorem ggX1_readRowByte_X1_othersAreGood : GoodIn wsX1_readRowByte wsX1_othersAreGood := goodIn_r _ [48, 1, 19, 12, 20, 21, 22, 23, 24, 25, 15, 26, 27, 28, 29, 30, 31, 32, 33, 34, 35, 36, 37, 38, 39, 40, 41, 42, 43, 44, 53, 54, 55, 56, 57, 58, 59, 60, 61, 62, 63, 64, 65] (by decide +kernel) (by decide +kernel)
set_option maxRecDepth 20000 in
theorem gX1_readRowByte_X1_othersAreGood : GoodIn wsX1_readRowByte (wsV RX1 134 RX1 yX1_othersAreGood wsX1_othersAreGood) := goodIn_app (goodIn_of _ (by decide +kernel)) ggX1_readRowByte_X1_othersAreGood
set_option maxRecDepth 20000 in
theorem ggX1_readRowByte_X1_byteOfOthers : GoodIn wsX1_readRowByte wsX1_byteOfOthers := goodIn_r _ [52, 1, 27, 12, 28, 29, 15, 30, 53, 54, 55, 56, 57, 58, 59, 60, 61, 62, 63, 64, 65] (by decide +kernel) (by decide +kernel)
set_option maxRecDepth 20000 in
theorem gX1_readRowByte_X1_byteOfOthers : GoodIn wsX1_readRowByte (wsV RX1 137 RX1 yX1_byteOfOthers wsX1_byteOfOthers) := goodIn_app (goodIn_of _ (by decide +kernel)) ggX1_readRowByte_X1_byteOfOthers
theorem dX1_readRowByte_0 : decode cX1_readRowByte 0 = .ok (.iload_n 1, 1) := by decide +kernel
theorem dX1_readRowByte_1 : decode cX1_readRowByte 1 = .ok (.iconst 2, 1) := by decide +kernel
theorem dX1_readRowByte_2 : decode cX1_readRowByte 2 = .ok (.idiv, 1) := by decide +kernel
theorem dX1_readRowByte_3 : decode cX1_readRowByte 3 = .ok (.istore_n 3, 1) := by decide +kernel
theorem dX1_readRowByte_4 : decode cX1_readRowByte 4 = .ok (.iload_n 1, 1) := by decide +kernel
theorem dX1_readRowByte_5 : decode cX1_readRowByte 5 = .ok (.ifCond .lt 11, 3) := by decide +kernel
theorem dX1_readRowByte_8 : decode cX1_readRowByte 8 = .ok (.iload_n 3, 1) := by decide +kernel
theorem dX1_readRowByte_9 : decode cX1_readRowByte 9 = .ok (.aload_n 0, 1) := by decide +kernel
theorem dX1_readRowByte_10 : decode cX1_readRowByte 10 = .ok (.invokevirtual 56, 3) := by decide +kernel
theorem dX1_readRowByte_13 : decode cX1_readRowByte 13 = .ok (.if_icmp .lt 5, 3) := by decide +kernel
theorem dX1_readRowByte_16 : decode cX1_readRowByte 16 = .ok (.iconst (-1), 1) := by decide +kernel
theorem dX1_readRowByte_17 : decode cX1_readRowByte 17 = .ok (.ireturn, 1) := by decide +kernel
theorem dX1_readRowByte_18 : decode cX1_readRowByte 18 = .ok (.iload_n 1, 1) := by decide +kernel
theorem dX1_readRowByte_19 : decode cX1_readRowByte 19 = .ok (.invokestatic 131, 3) := by decide +kernel
theorem dX1_readRowByte_22 : decode cX1_readRowByte 22 = .ok (.istore 4, 2) := by decide +kernel
theorem dX1_readRowByte_24 : decode cX1_readRowByte 24 = .ok (.aload_n 0, 1) := by decide +kernel
theorem dX1_readRowByte_25 : decode cX1_readRowByte 25 = .ok (.getfield 15, 3) := by decide +kernel
theorem dX1_readRowByte_28 : decode cX1_readRowByte 28 = .ok (.iload 4, 2) := by decide +kernel
theorem dX1_readRowByte_30 : decode cX1_readRowByte 30 = .ok (.aaload, 1) := by decide +kernel
theorem dX1_readRowByte_31 : decode cX1_readRowByte 31 = .ok (.iload_n 3, 1) := by decide +kernel
theorem dX1_readRowByte_32 : decode cX1_readRowByte 32 = .ok (.invokevirtual 128, 3) := by decide +kernel
theorem dX1_readRowByte_35 : decode cX1_readRowByte 35 = .ok (.ifCond .eq 20, 3) := by decide +kernel
theorem dX1_readRowByte_38 : decode cX1_readRowByte 38 = .ok (.aload_n 0, 1) := by decide +kernel
theorem dX1_readRowByte_39 : decode cX1_readRowByte 39 = .ok (.getfield 15, 3) := by decide +kernel
theorem dX1_readRowByte_42 : decode cX1_readRowByte 42 = .ok (.iload 4, 2) := by decide +kernel
theorem dX1_readRowByte_44 : decode cX1_readRowByte 44 = .ok (.aaload, 1) := by decide +kernel
theorem dX1_readRowByte_45 : decode cX1_readRowByte 45 = .ok (.iload_n 3, 1) := by decide +kernel
theorem dX1_readRowByte_46 : decode cX1_readRowByte 46 = .ok (.bipush 24, 2) := by decide +kernel
theorem dX1_readRowByte_48 : decode cX1_readRowByte 48 = .ok (.imul, 1) := by decide +kernel
theorem dX1_readRowByte_49 : decode cX1_readRowByte 49 = .ok (.iload_n 2, 1) := by decide +kernel
theorem dX1_readRowByte_50 : decode cX1_readRowByte 50 = .ok (.iadd, 1) := by decide +kernel
theorem dX1_readRowByte_51 : decode cX1_readRowByte 51 = .ok (.invokevirtual 82, 3) := by decide +kernel
theorem dX1_readRowByte_54 : decode cX1_readRowByte 54 = .ok (.ireturn, 1) := by decide +kernel
theorem dX1_readRowByte_55 : decode cX1_readRowByte 55 = .ok (.aload_n 0, 1) := by decide +kernel
theorem dX1_readRowByte_56 : decode cX1_readRowByte 56 = .ok (.iload 4, 2) := by decide +kernel
theorem dX1_readRowByte_58 : decode cX1_readRowByte 58 = .ok (.iload_n 3, 1) := by decide +kernel
theorem dX1_readRowByte_59 : decode cX1_readRowByte 59 = .ok (.invokevirtual 134, 3) := by decide +kernel
theorem dX1_readRowByte_62 : decode cX1_readRowByte 62 = .ok (.ifCond .eq 14, 3) := by decide +kernel
theorem dX1_readRowByte_65 : decode cX1_readRowByte 65 = .ok (.aload_n 0, 1) := by decide +kernel
theorem dX1_readRowByte_66 : decode cX1_readRowByte 66 = .ok (.iload 4, 2) := by decide +kernel
theorem dX1_readRowByte_68 : decode cX1_readRowByte 68 = .ok (.iload_n 3, 1) := by decide +kernel
theorem dX1_readRowByte_69 : decode cX1_readRowByte 69 = .ok (.iload_n 2, 1) := by decide +kernel
theorem dX1_readRowByte_70 : decode cX1_readRowByte 70 = .ok (.invokevirtual 137, 3) := by decide +kernel
theorem dX1_readRowByte_73 : decode cX1_readRowByte 73 = .ok (.goto 4, 3) := by decide +kernel
theorem dX1_readRowByte_76 : decode cX1_readRowByte 76 = .ok (.iconst (-1), 1) := by decide +kernel
theorem dX1_readRowByte_77 : decode cX1_readRowByte 77 = .ok (.ireturn, 1) := by decide +kernel
set_option maxRecDepth 20000 in
theorem ggX1_readableRowsWithContents_X1_stripeCount : GoodIn wsX1_readableRowsWithContents wsX1_stripeCount := goodIn_r _ [5, 6, 7, 8, 9, 10, 11, 12, 13, 14, 15, 57, 58, 59, 60, 61, 62, 63, 64, 65, 66, 67, 68, 69] (by decide +kernel) (by decide +kernel)
set_option maxRecDepth 20000 in
theorem gX1_readableRowsWithContents_X1_stripeCount : GoodIn wsX1_readableRowsWithContents (wsV RX1 56 RX1 yX1_stripeCount wsX1_stripeCount) := goodIn_app (goodIn_of _ (by decide +kernel)) ggX1_readableRowsWithContents_X1_stripeCount
set_option maxRecDepth 20000 in
theorem ggX1_readableRowsWithContents_X1_readRowByte : GoodIn wsX1_readableRowsWithContents wsX1_readRowByte := goodIn_r _ [19, 6, 1, 2, 3, 4, 5, 7, 8, 9, 10, 11, 12, 13, 14, 15, 20, 21, 22, 23, 24, 25, 26, 27, 28, 29, 30, 31, 32, 33, 34, 35, 36, 37, 38, 39, 40, 41, 42, 43, 44, 45, 46, 47, 48, 49, 50, 51, 52, 53, 54, 55, 56, 57, 58, 59, 60, 61, 62, 63, 64, 65, 66, 67, 68, 69] (by decide +kernel) (by decide +kernel)
set_option maxRecDepth 20000 in
theorem gX1_readableRowsWithContents_X1_readRowByte : GoodIn wsX1_readableRowsWithContents (wsV RX1 52 RX1 yX1_readRowByte wsX1_readRowByte) := goodIn_app (goodIn_of _ (by decide +kernel)) ggX1_readableRowsWithContents_X1_readRowByte
theorem dX1_readableRowsWithContents_0 : decode cX1_readableRowsWithContents 0 = .ok (.iconst 0, 1) := by decide +kernel
theorem dX1_readableRowsWithContents_1 : decode cX1_readableRowsWithContents 1 = .ok (.istore_n 1, 1) := by decide +kernel
theorem dX1_readableRowsWithContents_2 : decode cX1_readableRowsWithContents 2 = .ok (.aload_n 0, 1) := by decide +kernel
theorem dX1_readableRowsWithContents_3 : decode cX1_readableRowsWithContents 3 = .ok (.invokevirtual 56, 3) := by decide +kernel
theorem dX1_readableRowsWithContents_6 : decode cX1_readableRowsWithContents 6 = .ok (.iconst 2, 1) := by decide +kernel
theorem dX1_readableRowsWithContents_7 : decode cX1_readableRowsWithContents 7 = .ok (.imul, 1) := by decide +kernel
theorem dX1_readableRowsWithContents_8 : decode cX1_readableRowsWithContents 8 = .ok (.istore_n 2, 1) := by decide +kernel
theorem dX1_readableRowsWithContents_9 : decode cX1_readableRowsWithContents 9 = .ok (.iconst 0, 1) := by decide +kernel
theorem dX1_readableRowsWithContents_10 : decode cX1_readableRowsWithContents 10 = .ok (.istore_n 3, 1) := by decide +kernel
theorem dX1_readableRowsWithContents_11 : decode cX1_readableRowsWithContents 11 = .ok (.iload_n 3, 1) := by decide +kernel
theorem dX1_readableRowsWithContents_12 : decode cX1_readableRowsWithContents 12 = .ok (.iload_n 2, 1) := by decide +kernel
theorem dX1_readableRowsWithContents_13 : decode cX1_readableRowsWithContents 13 = .ok (.if_icmp .ge 21, 3) := by decide +kernel
theorem dX1_readableRowsWithContents_16 : decode cX1_readableRowsWithContents 16 = .ok (.aload_n 0, 1) := by decide +kernel
theorem dX1_readableRowsWithContents_17 : decode cX1_readableRowsWithContents 17 = .ok (.iload_n 3, 1) := by decide +kernel
theorem dX1_readableRowsWithContents_18 : decode cX1_readableRowsWithContents 18 = .ok (.iconst 3, 1) := by decide +kernel
theorem dX1_readableRowsWithContents_19 : decode cX1_readableRowsWithContents 19 = .ok (.invokevirtual 52, 3) := by decide +kernel
theorem dX1_readableRowsWithContents_22 : decode cX1_readableRowsWithContents 22 = .ok (.ifCond .le 6, 3) := by decide +kernel
theorem dX1_readableRowsWithContents_25 : decode cX1_readableRowsWithContents 25 = .ok (.iinc 1 1, 3) := by decide +kernel
theorem dX1_readableRowsWithContents_28 : decode cX1_readableRowsWithContents 28 = .ok (.iinc 3 1, 3) := by decide +kernel
theorem dX1_readableRowsWithContents_31 : decode cX1_readableRowsWithContents 31 = .ok (.goto (-20), 3) := by decide +kernel
theorem dX1_readableRowsWithContents_34 : decode cX1_readableRowsWithContents 34 = .ok (.iload_n 1, 1) := by decide +kernel
theorem dX1_readableRowsWithContents_35 : decode cX1_readableRowsWithContents 35 = .ok (.ireturn, 1) := by decide +kernel
set_option maxRecDepth 20000 in
theorem ggX1_nextRow_X1_stripeCount : GoodIn wsX1_nextRow wsX1_stripeCount := goodIn_r _ [5, 6, 7, 8, 9, 10, 11, 12, 13, 14, 15, 65, 66, 67, 68, 69, 70, 71, 72, 73, 74, 75, 76, 77] (by decide +kernel) (by decide +kernel)
set_option maxRecDepth 20000 in
theorem gX1_nextRow_X1_stripeCount : GoodIn wsX1_nextRow (wsV RX1 56 RX1 yX1_stripeCount wsX1_stripeCount) := goodIn_app (goodIn_of _ (by decide +kernel)) ggX1_nextRow_X1_stripeCount
set_option maxRecDepth 20000 in
theorem ggX1_nextRow_X1_isFree : GoodIn wsX1_nextRow wsX1_isFree := goodIn_r _ [19, 20, 21, 22, 4, 23, 6, 24, 12, 25, 26, 27, 28, 29, 30, 15, 31, 32, 33, 34, 35, 36, 37, 38, 39, 40, 41, 42, 43, 44, 45, 46, 47, 48, 49, 50, 51, 52, 53, 1, 2, 3, 5, 7, 8, 9, 10, 11, 13, 14, 54, 55, 56, 57, 58, 59, 60, 61, 62, 63, 64, 65, 66, 67, 68, 69, 70, 71, 72, 73, 74, 75, 76, 77] (by decide +kernel) (by decide +kernel)
set_option maxRecDepth 20000 in
theorem gX1_nextRow_X1_isFree : GoodIn wsX1_nextRow (wsV RX1 141 RX1 yX1_isFree wsX1_isFree) := goodIn_app (goodIn_of _ (by decide +kernel)) ggX1_nextRow_X1_isFree
theorem dX1_nextRow_0 : decode cX1_nextRow 0 = .ok (.aload_n 0, 1) := by decide +kernel
theorem dX1_nextRow_1 : decode cX1_nextRow 1 = .ok (.invokevirtual 56, 3) := by decide +kernel
theorem dX1_nextRow_4 : decode cX1_nextRow 4 = .ok (.iconst 2, 1) := by decide +kernel
theorem dX1_nextRow_5 : decode cX1_nextRow 5 = .ok (.imul, 1) := by decide +kernel
theorem dX1_nextRow_6 : decode cX1_nextRow 6 = .ok (.istore_n 1, 1) := by decide +kernel
theorem dX1_nextRow_7 : decode cX1_nextRow 7 = .ok (.iload_n 1, 1) := by decide +kernel
theorem dX1_nextRow_8 : decode cX1_nextRow 8 = .ok (.ifCond .le 19, 3) := by decide +kernel
theorem dX1_nextRow_11 : decode cX1_nextRow 11 = .ok (.aload_n 0, 1) := by decide +kernel
theorem dX1_nextRow_12 : decode cX1_nextRow 12 = .ok (.iload_n 1, 1) := by decide +kernel
theorem dX1_nextRow_13 : decode cX1_nextRow 13 = .ok (.iconst 1, 1) := by decide +kernel
theorem dX1_nextRow_14 : decode cX1_nextRow 14 = .ok (.isub, 1) := by decide +kernel
theorem dX1_nextRow_15 : decode cX1_nextRow 15 = .ok (.invokevirtual 141, 3) := by decide +kernel
theorem dX1_nextRow_18 : decode cX1_nextRow 18 = .ok (.ifCond .eq 9, 3) := by decide +kernel
theorem dX1_nextRow_21 : decode cX1_nextRow 21 = .ok (.iload_n 1, 1) := by decide +kernel
theorem dX1_nextRow_22 : decode cX1_nextRow 22 = .ok (.iconst 1, 1) := by decide +kernel
theorem dX1_nextRow_23 : decode cX1_nextRow 23 = .ok (.isub, 1) := by decide +kernel
theorem dX1_nextRow_24 : decode cX1_nextRow 24 = .ok (.goto 4, 3) := by decide +kernel
theorem dX1_nextRow_27 : decode cX1_nextRow 27 = .ok (.iload_n 1, 1) := by decide +kernel
theorem dX1_nextRow_28 : decode cX1_nextRow 28 = .ok (.ireturn, 1) := by decide +kernel
set_option maxRecDepth 20000 in
theorem ggX1_isFree_X1_goodPieces : GoodIn wsX1_isFree wsX1_goodPieces := goodIn_r _ [5, 6, 7, 8, 9, 10, 11, 12, 13, 14, 15, 16, 17, 18, 19, 20, 21, 22, 23, 24, 25, 26, 27, 28, 29, 30, 31, 32, 33, 34, 61, 62, 63, 64, 65, 66, 67, 68, 69, 70, 71, 72, 73] (by decide +kernel) (by decide +kernel)
set_option maxRecDepth 20000 in
theorem gX1_isFree_X1_goodPieces : GoodIn wsX1_isFree (wsV RX1 108 RX1 yX1_goodPieces wsX1_goodPieces) := goodIn_app (goodIn_of _ (by decide +kernel)) ggX1_isFree_X1_goodPieces
set_option maxRecDepth 20000 in
theorem ggX1_isFree_X1_readRowByte : GoodIn wsX1_isFree wsX1_readRowByte := goodIn_r _ [38, 6, 39, 40, 41, 4, 42, 43, 44, 45, 46, 47, 8, 48, 49, 15, 50, 51, 52, 7, 9, 10, 11, 12, 13, 14, 16, 17, 18, 19, 20, 21, 22, 23, 24, 25, 26, 27, 28, 29, 30, 31, 32, 33, 34, 53, 54, 55, 56, 57, 58, 59, 60, 61, 62, 63, 64, 65, 66, 67, 68, 69, 70, 71, 72, 73] (by decide +kernel) (by decide +kernel)
set_option maxRecDepth 20000 in
theorem gX1_isFree_X1_readRowByte : GoodIn wsX1_isFree (wsV RX1 52 RX1 yX1_readRowByte wsX1_readRowByte) := goodIn_app (goodIn_of _ (by decide +kernel)) ggX1_isFree_X1_readRowByte
theorem dX1_isFree_0 : decode cX1_isFree 0 = .ok (.aload_n 0, 1) := by decide +kernel
theorem dX1_isFree_1 : decode cX1_isFree 1 = .ok (.iload_n 1, 1) := by decide +kernel
theorem dX1_isFree_2 : decode cX1_isFree 2 = .ok (.iconst 2, 1) := by decide +kernel
theorem dX1_isFree_3 : decode cX1_isFree 3 = .ok (.idiv, 1) := by decide +kernel
theorem dX1_isFree_4 : decode cX1_isFree 4 = .ok (.invokevirtual 108, 3) := by decide +kernel
theorem dX1_isFree_7 : decode cX1_isFree 7 = .ok (.iconst 3, 1) := by decide +kernel
theorem dX1_isFree_8 : decode cX1_isFree 8 = .ok (.if_icmp .ne 16, 3) := by decide +kernel
theorem dX1_isFree_11 : decode cX1_isFree 11 = .ok (.aload_n 0, 1) := by decide +kernel
theorem dX1_isFree_12 : decode cX1_isFree 12 = .ok (.iload_n 1, 1) := by decide +kernel
theorem dX1_isFree_13 : decode cX1_isFree 13 = .ok (.iconst 2, 1) := by decide +kernel
theorem dX1_isFree_14 : decode cX1_isFree 14 = .ok (.invokevirtual 52, 3) := by decide +kernel
theorem dX1_isFree_17 : decode cX1_isFree 17 = .ok (.ifCond .ne 7, 3) := by decide +kernel
theorem dX1_isFree_20 : decode cX1_isFree 20 = .ok (.iconst 1, 1) := by decide +kernel
theorem dX1_isFree_21 : decode cX1_isFree 21 = .ok (.goto 4, 3) := by decide +kernel
theorem dX1_isFree_24 : decode cX1_isFree 24 = .ok (.iconst 0, 1) := by decide +kernel
theorem dX1_isFree_25 : decode cX1_isFree 25 = .ok (.ireturn, 1) := by decide +kernel
set_option maxRecDepth 20000 in
theorem ggX1_writeRow_X1_fileOfRow : GoodIn wsX1_writeRow wsX1_fileOfRow := goodIn_r _ [6] (by decide +kernel) (by decide +kernel)
set_option maxRecDepth 20000 in
theorem gX1_writeRow_X1_fileOfRow : GoodIn wsX1_writeRow (va_wsS RX1 131 yX1_fileOfRow wsX1_fileOfRow) := goodIn_app (goodIn_of _ (by decide +kernel)) ggX1_writeRow_X1_fileOfRow
set_option maxRecDepth 20000 in
theorem ggX1_writeRow_X0_reach : GoodIn wsX1_writeRow wsX0_reach := goodIn_r _ [10, 11, 12, 13, 14, 8, 15, 16, 17, 18, 19, 20, 21, 22, 23, 57, 58, 59, 60, 61] (by decide +kernel) (by decide +kernel)
set_option maxRecDepth 20000 in
theorem gX1_writeRow_X0_reach_n144 : GoodIn wsX1_writeRow (wsX0_reach) := ggX1_writeRow_X0_reach
set_option maxRecDepth 20000 in
theorem ggX1_writeRow_X0_set : GoodIn wsX1_writeRow wsX0_set := goodIn_r _ [26, 16, 27, 28, 29, 8, 30, 11, 57, 58, 59, 60, 61] (by decide +kernel) (by decide +kernel)
set_option maxRecDepth 20000 in
theorem gX1_writeRow_X0_set_n85 : GoodIn wsX1_writeRow (wsX0_set) := ggX1_writeRow_X0_set
set_option maxRecDepth 20000 in
theorem ggX1_writeRow_X0_seal : GoodIn wsX1_writeRow wsX0_seal := goodIn_r _ [33, 34, 35, 8, 36, 37, 24, 25, 26, 16, 27, 28, 29, 30, 11, 38, 39, 40, 41, 42, 43, 44, 45, 46, 47, 48, 57, 58, 59, 60, 61] (by decide +kernel) (by decide +kernel)
set_option maxRecDepth 20000 in
theorem gX1_writeRow_X0_seal_n147 : GoodIn wsX1_writeRow (wsX0_seal) := ggX1_writeRow_X0_seal
theorem dX1_writeRow_0 : decode cX1_writeRow 0 = .ok (.iload_n 1, 1) := by decide +kernel
theorem dX1_writeRow_1 : decode cX1_writeRow 1 = .ok (.iconst 2, 1) := by decide +kernel
theorem dX1_writeRow_2 : decode cX1_writeRow 2 = .ok (.idiv, 1) := by decide +kernel
theorem dX1_writeRow_3 : decode cX1_writeRow 3 = .ok (.istore 4, 2) := by decide +kernel
theorem dX1_writeRow_5 : decode cX1_writeRow 5 = .ok (.iload 4, 2) := by decide +kernel
theorem dX1_writeRow_7 : decode cX1_writeRow 7 = .ok (.bipush 24, 2) := by decide +kernel
theorem dX1_writeRow_9 : decode cX1_writeRow 9 = .ok (.imul, 1) := by decide +kernel
theorem dX1_writeRow_10 : decode cX1_writeRow 10 = .ok (.istore 5, 2) := by decide +kernel
theorem dX1_writeRow_12 : decode cX1_writeRow 12 = .ok (.aload_n 0, 1) := by decide +kernel
theorem dX1_writeRow_13 : decode cX1_writeRow 13 = .ok (.getfield 15, 3) := by decide +kernel
theorem dX1_writeRow_16 : decode cX1_writeRow 16 = .ok (.iload_n 1, 1) := by decide +kernel
theorem dX1_writeRow_17 : decode cX1_writeRow 17 = .ok (.invokestatic 131, 3) := by decide +kernel
theorem dX1_writeRow_20 : decode cX1_writeRow 20 = .ok (.aaload, 1) := by decide +kernel
theorem dX1_writeRow_21 : decode cX1_writeRow 21 = .ok (.astore 6, 2) := by decide +kernel
theorem dX1_writeRow_23 : decode cX1_writeRow 23 = .ok (.aload 6, 2) := by decide +kernel
theorem dX1_writeRow_25 : decode cX1_writeRow 25 = .ok (.iload 5, 2) := by decide +kernel
theorem dX1_writeRow_27 : decode cX1_writeRow 27 = .ok (.bipush 24, 2) := by decide +kernel
theorem dX1_writeRow_29 : decode cX1_writeRow 29 = .ok (.iadd, 1) := by decide +kernel
theorem dX1_writeRow_30 : decode cX1_writeRow 30 = .ok (.invokevirtual 144, 3) := by decide +kernel
theorem dX1_writeRow_33 : decode cX1_writeRow 33 = .ok (.aload 6, 2) := by decide +kernel
theorem dX1_writeRow_35 : decode cX1_writeRow 35 = .ok (.iload 5, 2) := by decide +kernel
theorem dX1_writeRow_37 : decode cX1_writeRow 37 = .ok (.iconst 2, 1) := by decide +kernel
theorem dX1_writeRow_38 : decode cX1_writeRow 38 = .ok (.iadd, 1) := by decide +kernel
theorem dX1_writeRow_39 : decode cX1_writeRow 39 = .ok (.iload_n 2, 1) := by decide +kernel
theorem dX1_writeRow_40 : decode cX1_writeRow 40 = .ok (.invokevirtual 85, 3) := by decide +kernel
theorem dX1_writeRow_43 : decode cX1_writeRow 43 = .ok (.aload 6, 2) := by decide +kernel
theorem dX1_writeRow_45 : decode cX1_writeRow 45 = .ok (.iload 5, 2) := by decide +kernel
theorem dX1_writeRow_47 : decode cX1_writeRow 47 = .ok (.iconst 3, 1) := by decide +kernel
theorem dX1_writeRow_48 : decode cX1_writeRow 48 = .ok (.iadd, 1) := by decide +kernel
theorem dX1_writeRow_49 : decode cX1_writeRow 49 = .ok (.iload_n 3, 1) := by decide +kernel
theorem dX1_writeRow_50 : decode cX1_writeRow 50 = .ok (.invokevirtual 85, 3) := by decide +kernel
theorem dX1_writeRow_53 : decode cX1_writeRow 53 = .ok (.iconst 0, 1) := by decide +kernel
theorem dX1_writeRow_54 : decode cX1_writeRow 54 = .ok (.istore 7, 2) := by decide +kernel
theorem dX1_writeRow_56 : decode cX1_writeRow 56 = .ok (.iload 7, 2) := by decide +kernel
theorem dX1_writeRow_58 : decode cX1_writeRow 58 = .ok (.bipush 16, 2) := by decide +kernel
theorem dX1_writeRow_60 : decode cX1_writeRow 60 = .ok (.if_icmp .ge 38, 3) := by decide +kernel
theorem dX1_writeRow_63 : decode cX1_writeRow 63 = .ok (.aload 6, 2) := by decide +kernel
theorem dX1_writeRow_65 : decode cX1_writeRow 65 = .ok (.iload 5, 2) := by decide +kernel
theorem dX1_writeRow_67 : decode cX1_writeRow 67 = .ok (.iconst 4, 1) := by decide +kernel
theorem dX1_writeRow_68 : decode cX1_writeRow 68 = .ok (.iadd, 1) := by decide +kernel
theorem dX1_writeRow_69 : decode cX1_writeRow 69 = .ok (.iload 7, 2) := by decide +kernel
theorem dX1_writeRow_71 : decode cX1_writeRow 71 = .ok (.iadd, 1) := by decide +kernel
theorem dX1_writeRow_72 : decode cX1_writeRow 72 = .ok (.iload 7, 2) := by decide +kernel
theorem dX1_writeRow_74 : decode cX1_writeRow 74 = .ok (.iload_n 3, 1) := by decide +kernel
theorem dX1_writeRow_75 : decode cX1_writeRow 75 = .ok (.if_icmp .ge 13, 3) := by decide +kernel
theorem dX1_writeRow_78 : decode cX1_writeRow 78 = .ok (.aload_n 0, 1) := by decide +kernel
theorem dX1_writeRow_79 : decode cX1_writeRow 79 = .ok (.getfield 22, 3) := by decide +kernel
theorem dX1_writeRow_82 : decode cX1_writeRow 82 = .ok (.iload 7, 2) := by decide +kernel
theorem dX1_writeRow_84 : decode cX1_writeRow 84 = .ok (.iaload, 1) := by decide +kernel
theorem dX1_writeRow_85 : decode cX1_writeRow 85 = .ok (.goto 4, 3) := by decide +kernel
theorem dX1_writeRow_88 : decode cX1_writeRow 88 = .ok (.iconst 0, 1) := by decide +kernel
theorem dX1_writeRow_89 : decode cX1_writeRow 89 = .ok (.invokevirtual 85, 3) := by decide +kernel
theorem dX1_writeRow_92 : decode cX1_writeRow 92 = .ok (.iinc 7 1, 3) := by decide +kernel
theorem dX1_writeRow_95 : decode cX1_writeRow 95 = .ok (.goto (-39), 3) := by decide +kernel
theorem dX1_writeRow_98 : decode cX1_writeRow 98 = .ok (.aload 6, 2) := by decide +kernel
theorem dX1_writeRow_100 : decode cX1_writeRow 100 = .ok (.iload 4, 2) := by decide +kernel
theorem dX1_writeRow_102 : decode cX1_writeRow 102 = .ok (.invokevirtual 147, 3) := by decide +kernel
theorem dX1_writeRow_105 : decode cX1_writeRow 105 = .ok (.return_, 1) := by decide +kernel
set_option maxRecDepth 20000 in
theorem ggX1_makeFromOthers_X0_reach : GoodIn wsX1_makeFromOthers wsX0_reach := goodIn_r _ [5, 6, 7, 8, 9, 3, 10, 11, 12, 13, 14, 15, 16, 17, 18, 57, 58, 59, 60, 61] (by decide +kernel) (by decide +kernel)
set_option maxRecDepth 20000 in
theorem gX1_makeFromOthers_X0_reach_n144 : GoodIn wsX1_makeFromOthers (wsX0_reach) := ggX1_makeFromOthers_X0_reach
set_option maxRecDepth 20000 in
theorem ggX1_makeFromOthers_X1_byteOfOthers : GoodIn wsX1_makeFromOthers wsX1_byteOfOthers := goodIn_r _ [23, 1, 24, 3, 25, 26, 6, 11, 49, 50, 51, 52, 53, 54, 55, 56, 57, 58, 59, 60, 61] (by decide +kernel) (by decide +kernel)
set_option maxRecDepth 20000 in
theorem gX1_makeFromOthers_X1_byteOfOthers : GoodIn wsX1_makeFromOthers (wsV RX1 137 RX1 yX1_byteOfOthers wsX1_byteOfOthers) := goodIn_app (goodIn_of _ (by decide +kernel)) ggX1_makeFromOthers_X1_byteOfOthers
set_option maxRecDepth 20000 in
theorem ggX1_makeFromOthers_X0_set : GoodIn wsX1_makeFromOthers wsX0_set := goodIn_r _ [29, 11, 30, 31, 32, 3, 33, 6, 57, 58, 59, 60, 61] (by decide +kernel) (by decide +kernel)
set_option maxRecDepth 20000 in
theorem gX1_makeFromOthers_X0_set_n85 : GoodIn wsX1_makeFromOthers (wsX0_set) := ggX1_makeFromOthers_X0_set
set_option maxRecDepth 20000 in
theorem ggX1_makeFromOthers_X0_seal : GoodIn wsX1_makeFromOthers wsX0_seal := goodIn_r _ [36, 37, 38, 3, 39, 40, 27, 28, 29, 11, 30, 31, 32, 33, 6, 41, 42, 43, 44, 45, 46, 47, 48, 24, 25, 26, 57, 58, 59, 60, 61] (by decide +kernel) (by decide +kernel)
set_option maxRecDepth 20000 in
theorem gX1_makeFromOthers_X0_seal_n147 : GoodIn wsX1_makeFromOthers (wsX0_seal) := ggX1_makeFromOthers_X0_seal
theorem dX1_makeFromOthers_0 : decode cX1_makeFromOthers 0 = .ok (.iload_n 2, 1) := by decide +kernel
theorem dX1_makeFromOthers_1 : decode cX1_makeFromOthers 1 = .ok (.bipush 24, 2) := by decide +kernel
theorem dX1_makeFromOthers_3 : decode cX1_makeFromOthers 3 = .ok (.imul, 1) := by decide +kernel
theorem dX1_makeFromOthers_4 : decode cX1_makeFromOthers 4 = .ok (.istore_n 3, 1) := by decide +kernel
theorem dX1_makeFromOthers_5 : decode cX1_makeFromOthers 5 = .ok (.aload_n 0, 1) := by decide +kernel
theorem dX1_makeFromOthers_6 : decode cX1_makeFromOthers 6 = .ok (.getfield 15, 3) := by decide +kernel
theorem dX1_makeFromOthers_9 : decode cX1_makeFromOthers 9 = .ok (.iload_n 1, 1) := by decide +kernel
theorem dX1_makeFromOthers_10 : decode cX1_makeFromOthers 10 = .ok (.aaload, 1) := by decide +kernel
theorem dX1_makeFromOthers_11 : decode cX1_makeFromOthers 11 = .ok (.iload_n 3, 1) := by decide +kernel
theorem dX1_makeFromOthers_12 : decode cX1_makeFromOthers 12 = .ok (.bipush 24, 2) := by decide +kernel
theorem dX1_makeFromOthers_14 : decode cX1_makeFromOthers 14 = .ok (.iadd, 1) := by decide +kernel
theorem dX1_makeFromOthers_15 : decode cX1_makeFromOthers 15 = .ok (.invokevirtual 144, 3) := by decide +kernel
theorem dX1_makeFromOthers_18 : decode cX1_makeFromOthers 18 = .ok (.iconst 2, 1) := by decide +kernel
theorem dX1_makeFromOthers_19 : decode cX1_makeFromOthers 19 = .ok (.istore 4, 2) := by decide +kernel
theorem dX1_makeFromOthers_21 : decode cX1_makeFromOthers 21 = .ok (.iload 4, 2) := by decide +kernel
theorem dX1_makeFromOthers_23 : decode cX1_makeFromOthers 23 = .ok (.bipush 20, 2) := by decide +kernel
theorem dX1_makeFromOthers_25 : decode cX1_makeFromOthers 25 = .ok (.if_icmp .ge 30, 3) := by decide +kernel
theorem dX1_makeFromOthers_28 : decode cX1_makeFromOthers 28 = .ok (.aload_n 0, 1) := by decide +kernel
theorem dX1_makeFromOthers_29 : decode cX1_makeFromOthers 29 = .ok (.getfield 15, 3) := by decide +kernel
theorem dX1_makeFromOthers_32 : decode cX1_makeFromOthers 32 = .ok (.iload_n 1, 1) := by decide +kernel
theorem dX1_makeFromOthers_33 : decode cX1_makeFromOthers 33 = .ok (.aaload, 1) := by decide +kernel
theorem dX1_makeFromOthers_34 : decode cX1_makeFromOthers 34 = .ok (.iload_n 3, 1) := by decide +kernel
theorem dX1_makeFromOthers_35 : decode cX1_makeFromOthers 35 = .ok (.iload 4, 2) := by decide +kernel
theorem dX1_makeFromOthers_37 : decode cX1_makeFromOthers 37 = .ok (.iadd, 1) := by decide +kernel
theorem dX1_makeFromOthers_38 : decode cX1_makeFromOthers 38 = .ok (.aload_n 0, 1) := by decide +kernel
theorem dX1_makeFromOthers_39 : decode cX1_makeFromOthers 39 = .ok (.iload_n 1, 1) := by decide +kernel
theorem dX1_makeFromOthers_40 : decode cX1_makeFromOthers 40 = .ok (.iload_n 2, 1) := by decide +kernel
theorem dX1_makeFromOthers_41 : decode cX1_makeFromOthers 41 = .ok (.iload 4, 2) := by decide +kernel
theorem dX1_makeFromOthers_43 : decode cX1_makeFromOthers 43 = .ok (.invokevirtual 137, 3) := by decide +kernel
theorem dX1_makeFromOthers_46 : decode cX1_makeFromOthers 46 = .ok (.invokevirtual 85, 3) := by decide +kernel
theorem dX1_makeFromOthers_49 : decode cX1_makeFromOthers 49 = .ok (.iinc 4 1, 3) := by decide +kernel
theorem dX1_makeFromOthers_52 : decode cX1_makeFromOthers 52 = .ok (.goto (-31), 3) := by decide +kernel
theorem dX1_makeFromOthers_55 : decode cX1_makeFromOthers 55 = .ok (.aload_n 0, 1) := by decide +kernel
theorem dX1_makeFromOthers_56 : decode cX1_makeFromOthers 56 = .ok (.getfield 15, 3) := by decide +kernel
theorem dX1_makeFromOthers_59 : decode cX1_makeFromOthers 59 = .ok (.iload_n 1, 1) := by decide +kernel
theorem dX1_makeFromOthers_60 : decode cX1_makeFromOthers 60 = .ok (.aaload, 1) := by decide +kernel
theorem dX1_makeFromOthers_61 : decode cX1_makeFromOthers 61 = .ok (.iload_n 2, 1) := by decide +kernel
theorem dX1_makeFromOthers_62 : decode cX1_makeFromOthers 62 = .ok (.invokevirtual 147, 3) := by decide +kernel
theorem dX1_makeFromOthers_65 : decode cX1_makeFromOthers 65 = .ok (.return_, 1) := by decide +kernel
set_option maxRecDepth 20000 in
theorem ggX1_mend_X0_isGood : GoodIn wsX1_mend wsX0_isGood := goodIn_r _ [6, 7, 8, 9, 4, 10, 11, 12, 13, 14, 15, 16, 17, 18, 19, 20, 21, 22, 23, 24, 25, 26, 27, 28, 29, 30, 73, 74, 75, 76, 77] (by decide +kernel) (by decide +kernel)
set_option maxRecDepth 20000 in
theorem gX1_mend_X0_isGood_n128 : GoodIn wsX1_mend (wsX0_isGood) := ggX1_mend_X0_isGood
set_option maxRecDepth 20000 in
theorem ggX1_mend_X1_othersAreGood : GoodIn wsX1_mend wsX1_othersAreGood := goodIn_r _ [35, 1, 3, 4, 5, 6, 7, 8, 9, 10, 11, 12, 13, 14, 15, 16, 17, 18, 19, 20, 21, 22, 23, 24, 25, 26, 27, 28, 29, 30, 65, 66, 67, 68, 69, 70, 71, 72, 73, 74, 75, 76, 77] (by decide +kernel) (by decide +kernel)
set_option maxRecDepth 20000 in
theorem gX1_mend_X1_othersAreGood : GoodIn wsX1_mend (wsV RX1 134 RX1 yX1_othersAreGood wsX1_othersAreGood) := goodIn_app (goodIn_of _ (by decide +kernel)) ggX1_mend_X1_othersAreGood
set_option maxRecDepth 20000 in
theorem ggX1_mend_X1_makeFromOthers : GoodIn wsX1_mend wsX1_makeFromOthers := goodIn_r _ [39, 1, 40, 4, 41, 42, 11, 43, 44, 45, 46, 16, 47, 48, 49, 50, 51, 52, 53, 54, 55, 56, 34, 57, 13, 14, 15, 58, 59, 60, 7, 8, 9, 10, 61, 62, 63, 17, 18, 19, 64, 20, 21, 22, 23, 24, 25, 26, 12, 65, 66, 67, 68, 69, 70, 71, 72, 73, 74, 75, 76, 77] (by decide +kernel) (by decide +kernel)
set_option maxRecDepth 20000 in
theorem gX1_mend_X1_makeFromOthers : GoodIn wsX1_mend (wsV RX1 49 RX1 yX1_makeFromOthers wsX1_makeFromOthers) := goodIn_app (goodIn_of _ (by decide +kernel)) ggX1_mend_X1_makeFromOthers
theorem dX1_mend_0 : decode cX1_mend 0 = .ok (.aload_n 0, 1) := by decide +kernel
theorem dX1_mend_1 : decode cX1_mend 1 = .ok (.getfield 15, 3) := by decide +kernel
theorem dX1_mend_4 : decode cX1_mend 4 = .ok (.iload_n 1, 1) := by decide +kernel
theorem dX1_mend_5 : decode cX1_mend 5 = .ok (.aaload, 1) := by decide +kernel
theorem dX1_mend_6 : decode cX1_mend 6 = .ok (.iload_n 2, 1) := by decide +kernel
theorem dX1_mend_7 : decode cX1_mend 7 = .ok (.invokevirtual 128, 3) := by decide +kernel
theorem dX1_mend_10 : decode cX1_mend 10 = .ok (.ifCond .ne 28, 3) := by decide +kernel
theorem dX1_mend_13 : decode cX1_mend 13 = .ok (.aload_n 0, 1) := by decide +kernel
theorem dX1_mend_14 : decode cX1_mend 14 = .ok (.iload_n 1, 1) := by decide +kernel
theorem dX1_mend_15 : decode cX1_mend 15 = .ok (.iload_n 2, 1) := by decide +kernel
theorem dX1_mend_16 : decode cX1_mend 16 = .ok (.invokevirtual 134, 3) := by decide +kernel
theorem dX1_mend_19 : decode cX1_mend 19 = .ok (.ifCond .eq 19, 3) := by decide +kernel
theorem dX1_mend_22 : decode cX1_mend 22 = .ok (.aload_n 0, 1) := by decide +kernel
theorem dX1_mend_23 : decode cX1_mend 23 = .ok (.iload_n 1, 1) := by decide +kernel
theorem dX1_mend_24 : decode cX1_mend 24 = .ok (.iload_n 2, 1) := by decide +kernel
theorem dX1_mend_25 : decode cX1_mend 25 = .ok (.invokevirtual 49, 3) := by decide +kernel
theorem dX1_mend_28 : decode cX1_mend 28 = .ok (.aload_n 0, 1) := by decide +kernel
theorem dX1_mend_29 : decode cX1_mend 29 = .ok (.dup, 1) := by decide +kernel
theorem dX1_mend_30 : decode cX1_mend 30 = .ok (.getfield 105, 3) := by decide +kernel
theorem dX1_mend_33 : decode cX1_mend 33 = .ok (.iconst 1, 1) := by decide +kernel
theorem dX1_mend_34 : decode cX1_mend 34 = .ok (.iadd, 1) := by decide +kernel
theorem dX1_mend_35 : decode cX1_mend 35 = .ok (.putfield 105, 3) := by decide +kernel
theorem dX1_mend_38 : decode cX1_mend 38 = .ok (.return_, 1) := by decide +kernel
set_option maxRecDepth 20000 in
theorem ggX1_dropInStripe_X1_dropRow : GoodIn wsX1_dropInStripe wsX1_dropRow := goodIn_r _ [5, 6, 7, 8, 4, 9, 10, 11, 12, 13, 14, 15, 16, 17, 18, 19, 20, 21, 22, 23, 24, 25, 26, 27, 28, 29, 30, 31, 32, 33, 34, 35, 36, 37, 38, 39, 40, 41, 42, 43, 44, 45, 46, 47, 48, 49, 50, 51, 52, 53, 54, 55, 56, 57, 58, 59, 60, 61, 62, 63, 79, 80, 81, 82, 83, 84, 85, 86, 87, 88, 89, 90, 91] (by decide +kernel) (by decide +kernel)
set_option maxRecDepth 20000 in
theorem gX1_dropInStripe_X1_dropRow : GoodIn wsX1_dropInStripe (wsV RX1 150 RX1 yX1_dropRow wsX1_dropRow) := goodIn_app (goodIn_of _ (by decide +kernel)) ggX1_dropInStripe_X1_dropRow
set_option maxRecDepth 20000 in
theorem ggX1_dropInStripe_X1_goodPieces : GoodIn wsX1_dropInStripe wsX1_goodPieces := goodIn_r _ [67, 6, 10, 11, 12, 13, 14, 15, 16, 17, 18, 19, 20, 21, 22, 23, 24, 25, 26, 27, 28, 29, 30, 31, 32, 33, 34, 35, 36, 37, 79, 80, 81, 82, 83, 84, 85, 86, 87, 88, 89, 90, 91] (by decide +kernel) (by decide +kernel)
set_option maxRecDepth 20000 in
theorem gX1_dropInStripe_X1_goodPieces : GoodIn wsX1_dropInStripe (wsV RX1 108 RX1 yX1_goodPieces wsX1_goodPieces) := goodIn_app (goodIn_of _ (by decide +kernel)) ggX1_dropInStripe_X1_goodPieces
set_option maxRecDepth 20000 in
theorem ggX1_dropInStripe_X1_sumFile : GoodIn wsX1_dropInStripe wsX1_sumFile := goodIn_r _ [70] (by decide +kernel) (by decide +kernel)
set_option maxRecDepth 20000 in
theorem gX1_dropInStripe_X1_sumFile : GoodIn wsX1_dropInStripe (va_wsS RX1 45 yX1_sumFile wsX1_sumFile) := goodIn_app (goodIn_of _ (by decide +kernel)) ggX1_dropInStripe_X1_sumFile
set_option maxRecDepth 20000 in
theorem ggX1_dropInStripe_X1_makeFromOthers : GoodIn wsX1_dropInStripe wsX1_makeFromOthers := goodIn_r _ [74, 6, 43, 11, 44, 45, 18, 46, 47, 48, 49, 23, 50, 51, 52, 53, 54, 55, 56, 75, 76, 77, 4, 78, 20, 21, 22, 57, 58, 59, 14, 15, 16, 17, 60, 61, 62, 24, 25, 26, 63, 27, 28, 29, 30, 31, 32, 33, 19, 79, 80, 81, 82, 83, 84, 85, 86, 87, 88, 89, 90, 91] (by decide +kernel) (by decide +kernel)
set_option maxRecDepth 20000 in
theorem gX1_dropInStripe_X1_makeFromOthers : GoodIn wsX1_dropInStripe (wsV RX1 49 RX1 yX1_makeFromOthers wsX1_makeFromOthers) := goodIn_app (goodIn_of _ (by decide +kernel)) ggX1_dropInStripe_X1_makeFromOthers
theorem dX1_dropInStripe_0 : decode cX1_dropInStripe 0 = .ok (.aload_n 0, 1) := by decide +kernel
theorem dX1_dropInStripe_1 : decode cX1_dropInStripe 1 = .ok (.iload_n 1, 1) := by decide +kernel
theorem dX1_dropInStripe_2 : decode cX1_dropInStripe 2 = .ok (.iconst 2, 1) := by decide +kernel
theorem dX1_dropInStripe_3 : decode cX1_dropInStripe 3 = .ok (.imul, 1) := by decide +kernel
theorem dX1_dropInStripe_4 : decode cX1_dropInStripe 4 = .ok (.iload_n 2, 1) := by decide +kernel
theorem dX1_dropInStripe_5 : decode cX1_dropInStripe 5 = .ok (.invokevirtual 150, 3) := by decide +kernel
theorem dX1_dropInStripe_8 : decode cX1_dropInStripe 8 = .ok (.istore_n 3, 1) := by decide +kernel
theorem dX1_dropInStripe_9 : decode cX1_dropInStripe 9 = .ok (.aload_n 0, 1) := by decide +kernel
theorem dX1_dropInStripe_10 : decode cX1_dropInStripe 10 = .ok (.iload_n 1, 1) := by decide +kernel
theorem dX1_dropInStripe_11 : decode cX1_dropInStripe 11 = .ok (.iconst 2, 1) := by decide +kernel
theorem dX1_dropInStripe_12 : decode cX1_dropInStripe 12 = .ok (.imul, 1) := by decide +kernel
theorem dX1_dropInStripe_13 : decode cX1_dropInStripe 13 = .ok (.iconst 1, 1) := by decide +kernel
theorem dX1_dropInStripe_14 : decode cX1_dropInStripe 14 = .ok (.iadd, 1) := by decide +kernel
theorem dX1_dropInStripe_15 : decode cX1_dropInStripe 15 = .ok (.iload_n 2, 1) := by decide +kernel
theorem dX1_dropInStripe_16 : decode cX1_dropInStripe 16 = .ok (.invokevirtual 150, 3) := by decide +kernel
theorem dX1_dropInStripe_19 : decode cX1_dropInStripe 19 = .ok (.istore 4, 2) := by decide +kernel
theorem dX1_dropInStripe_21 : decode cX1_dropInStripe 21 = .ok (.iload_n 3, 1) := by decide +kernel
theorem dX1_dropInStripe_22 : decode cX1_dropInStripe 22 = .ok (.ifCond .ne 8, 3) := by decide +kernel
theorem dX1_dropInStripe_25 : decode cX1_dropInStripe 25 = .ok (.iload 4, 2) := by decide +kernel
theorem dX1_dropInStripe_27 : decode cX1_dropInStripe 27 = .ok (.ifCond .eq 7, 3) := by decide +kernel
theorem dX1_dropInStripe_30 : decode cX1_dropInStripe 30 = .ok (.iconst 1, 1) := by decide +kernel
theorem dX1_dropInStripe_31 : decode cX1_dropInStripe 31 = .ok (.goto 4, 3) := by decide +kernel
theorem dX1_dropInStripe_34 : decode cX1_dropInStripe 34 = .ok (.iconst 0, 1) := by decide +kernel
theorem dX1_dropInStripe_35 : decode cX1_dropInStripe 35 = .ok (.istore 5, 2) := by decide +kernel
theorem dX1_dropInStripe_37 : decode cX1_dropInStripe 37 = .ok (.iload 5, 2) := by decide +kernel
theorem dX1_dropInStripe_39 : decode cX1_dropInStripe 39 = .ok (.ifCond .eq 21, 3) := by decide +kernel
theorem dX1_dropInStripe_42 : decode cX1_dropInStripe 42 = .ok (.aload_n 0, 1) := by decide +kernel
theorem dX1_dropInStripe_43 : decode cX1_dropInStripe 43 = .ok (.iload_n 1, 1) := by decide +kernel
theorem dX1_dropInStripe_44 : decode cX1_dropInStripe 44 = .ok (.invokevirtual 108, 3) := by decide +kernel
theorem dX1_dropInStripe_47 : decode cX1_dropInStripe 47 = .ok (.iconst 3, 1) := by decide +kernel
theorem dX1_dropInStripe_48 : decode cX1_dropInStripe 48 = .ok (.if_icmp .ne 12, 3) := by decide +kernel
theorem dX1_dropInStripe_51 : decode cX1_dropInStripe 51 = .ok (.aload_n 0, 1) := by decide +kernel
theorem dX1_dropInStripe_52 : decode cX1_dropInStripe 52 = .ok (.iload_n 1, 1) := by decide +kernel
theorem dX1_dropInStripe_53 : decode cX1_dropInStripe 53 = .ok (.invokestatic 45, 3) := by decide +kernel
theorem dX1_dropInStripe_56 : decode cX1_dropInStripe 56 = .ok (.iload_n 1, 1) := by decide +kernel
theorem dX1_dropInStripe_57 : decode cX1_dropInStripe 57 = .ok (.invokevirtual 49, 3) := by decide +kernel
theorem dX1_dropInStripe_60 : decode cX1_dropInStripe 60 = .ok (.iload 5, 2) := by decide +kernel
theorem dX1_dropInStripe_62 : decode cX1_dropInStripe 62 = .ok (.ireturn, 1) := by decide +kernel
set_option maxRecDepth 20000 in
theorem ggX1_dropRow_X1_fileOfRow : GoodIn wsX1_dropRow wsX1_fileOfRow := goodIn_r _ [5] (by decide +kernel) (by decide +kernel)
set_option maxRecDepth 20000 in
theorem gX1_dropRow_X1_fileOfRow : GoodIn wsX1_dropRow (va_wsS RX1 131 yX1_fileOfRow wsX1_fileOfRow) := goodIn_app (goodIn_of _ (by decide +kernel)) ggX1_dropRow_X1_fileOfRow
set_option maxRecDepth 20000 in
theorem ggX1_dropRow_X0_isGood : GoodIn wsX1_dropRow wsX0_isGood := goodIn_r _ [9, 10, 11, 12, 7, 13, 14, 15, 16, 17, 18, 19, 20, 21, 22, 23, 24, 25, 26, 27, 28, 29, 30, 31, 32, 33, 68, 69, 70, 71, 72] (by decide +kernel) (by decide +kernel)
set_option maxRecDepth 20000 in
theorem gX1_dropRow_X0_isGood_n128 : GoodIn wsX1_dropRow (wsX0_isGood) := ggX1_dropRow_X0_isGood
set_option maxRecDepth 20000 in
theorem ggX1_dropRow_X0_get : GoodIn wsX1_dropRow wsX0_get := goodIn_r _ [18, 14, 19, 68, 69, 70, 71, 72] (by decide +kernel) (by decide +kernel)
set_option maxRecDepth 20000 in
theorem gX1_dropRow_X0_get_n82 : GoodIn wsX1_dropRow (wsX0_get) := ggX1_dropRow_X0_get
set_option maxRecDepth 20000 in
theorem ggX1_dropRow_X1_writeRow : GoodIn wsX1_dropRow wsX1_writeRow := goodIn_r _ [37, 1, 38, 2, 3, 4, 5, 39, 7, 40, 41, 14, 42, 43, 44, 45, 19, 46, 47, 48, 49, 50, 51, 52, 53, 54, 55, 10, 11, 12, 13, 56, 57, 58, 20, 21, 22, 59, 23, 24, 25, 26, 27, 28, 29, 15, 16, 17, 18, 60, 61, 62, 63, 64, 65, 66, 67, 68, 69, 70, 71, 72] (by decide +kernel) (by decide +kernel)
set_option maxRecDepth 20000 in
theorem gX1_dropRow_X1_writeRow : GoodIn wsX1_dropRow (wsV RX1 41 RX1 yX1_writeRow wsX1_writeRow) := goodIn_app (goodIn_of _ (by decide +kernel)) ggX1_dropRow_X1_writeRow
theorem dX1_dropRow_0 : decode cX1_dropRow 0 = .ok (.iload_n 1, 1) := by decide +kernel
theorem dX1_dropRow_1 : decode cX1_dropRow 1 = .ok (.iconst 2, 1) := by decide +kernel
theorem dX1_dropRow_2 : decode cX1_dropRow 2 = .ok (.idiv, 1) := by decide +kernel
theorem dX1_dropRow_3 : decode cX1_dropRow 3 = .ok (.istore_n 3, 1) := by decide +kernel
theorem dX1_dropRow_4 : decode cX1_dropRow 4 = .ok (.aload_n 0, 1) := by decide +kernel
theorem dX1_dropRow_5 : decode cX1_dropRow 5 = .ok (.getfield 15, 3) := by decide +kernel
theorem dX1_dropRow_8 : decode cX1_dropRow 8 = .ok (.iload_n 1, 1) := by decide +kernel
theorem dX1_dropRow_9 : decode cX1_dropRow 9 = .ok (.invokestatic 131, 3) := by decide +kernel
theorem dX1_dropRow_12 : decode cX1_dropRow 12 = .ok (.aaload, 1) := by decide +kernel
theorem dX1_dropRow_13 : decode cX1_dropRow 13 = .ok (.astore 4, 2) := by decide +kernel
theorem dX1_dropRow_15 : decode cX1_dropRow 15 = .ok (.aload 4, 2) := by decide +kernel
theorem dX1_dropRow_17 : decode cX1_dropRow 17 = .ok (.iload_n 3, 1) := by decide +kernel
theorem dX1_dropRow_18 : decode cX1_dropRow 18 = .ok (.invokevirtual 128, 3) := by decide +kernel
theorem dX1_dropRow_21 : decode cX1_dropRow 21 = .ok (.ifCond .eq 18, 3) := by decide +kernel
theorem dX1_dropRow_24 : decode cX1_dropRow 24 = .ok (.aload 4, 2) := by decide +kernel
theorem dX1_dropRow_26 : decode cX1_dropRow 26 = .ok (.iload_n 3, 1) := by decide +kernel
theorem dX1_dropRow_27 : decode cX1_dropRow 27 = .ok (.bipush 24, 2) := by decide +kernel
theorem dX1_dropRow_29 : decode cX1_dropRow 29 = .ok (.imul, 1) := by decide +kernel
theorem dX1_dropRow_30 : decode cX1_dropRow 30 = .ok (.iconst 2, 1) := by decide +kernel
theorem dX1_dropRow_31 : decode cX1_dropRow 31 = .ok (.iadd, 1) := by decide +kernel
theorem dX1_dropRow_32 : decode cX1_dropRow 32 = .ok (.invokevirtual 82, 3) := by decide +kernel
theorem dX1_dropRow_35 : decode cX1_dropRow 35 = .ok (.iload_n 2, 1) := by decide +kernel
theorem dX1_dropRow_36 : decode cX1_dropRow 36 = .ok (.if_icmp .eq 5, 3) := by decide +kernel
theorem dX1_dropRow_39 : decode cX1_dropRow 39 = .ok (.iconst 0, 1) := by decide +kernel
theorem dX1_dropRow_40 : decode cX1_dropRow 40 = .ok (.ireturn, 1) := by decide +kernel
theorem dX1_dropRow_41 : decode cX1_dropRow 41 = .ok (.aload_n 0, 1) := by decide +kernel
theorem dX1_dropRow_42 : decode cX1_dropRow 42 = .ok (.iload_n 1, 1) := by decide +kernel
theorem dX1_dropRow_43 : decode cX1_dropRow 43 = .ok (.sipush 255, 3) := by decide +kernel
theorem dX1_dropRow_46 : decode cX1_dropRow 46 = .ok (.iconst 0, 1) := by decide +kernel
theorem dX1_dropRow_47 : decode cX1_dropRow 47 = .ok (.invokevirtual 41, 3) := by decide +kernel
theorem dX1_dropRow_50 : decode cX1_dropRow 50 = .ok (.iconst 1, 1) := by decide +kernel
theorem dX1_dropRow_51 : decode cX1_dropRow 51 = .ok (.ireturn, 1) := by decide +kernel
set_option maxRecDepth 20000 in
theorem ggX1_shut_X0_remember : GoodIn wsX1_shut wsX0_remember := goodIn_r _ [7, 8, 9, 10, 11, 20, 21, 22, 23, 24] (by decide +kernel) (by decide +kernel)
set_option maxRecDepth 20000 in
theorem gX1_shut_X0_remember_n153 : GoodIn wsX1_shut (wsX0_remember) := ggX1_shut_X0_remember
theorem dX1_shut_0 : decode cX1_shut 0 = .ok (.aload_n 0, 1) := by decide +kernel
theorem dX1_shut_1 : decode cX1_shut 1 = .ok (.getfield 29, 3) := by decide +kernel
theorem dX1_shut_4 : decode cX1_shut 4 = .ok (.ifCond .eq 4, 3) := by decide +kernel
theorem dX1_shut_7 : decode cX1_shut 7 = .ok (.return_, 1) := by decide +kernel
theorem dX1_shut_8 : decode cX1_shut 8 = .ok (.iconst 0, 1) := by decide +kernel
theorem dX1_shut_9 : decode cX1_shut 9 = .ok (.istore_n 1, 1) := by decide +kernel
theorem dX1_shut_10 : decode cX1_shut 10 = .ok (.iload_n 1, 1) := by decide +kernel
theorem dX1_shut_11 : decode cX1_shut 11 = .ok (.iconst 3, 1) := by decide +kernel
theorem dX1_shut_12 : decode cX1_shut 12 = .ok (.if_icmp .ge 18, 3) := by decide +kernel
theorem dX1_shut_15 : decode cX1_shut 15 = .ok (.aload_n 0, 1) := by decide +kernel
theorem dX1_shut_16 : decode cX1_shut 16 = .ok (.getfield 15, 3) := by decide +kernel
theorem dX1_shut_19 : decode cX1_shut 19 = .ok (.iload_n 1, 1) := by decide +kernel
theorem dX1_shut_20 : decode cX1_shut 20 = .ok (.aaload, 1) := by decide +kernel
theorem dX1_shut_21 : decode cX1_shut 21 = .ok (.invokevirtual 153, 3) := by decide +kernel
theorem dX1_shut_24 : decode cX1_shut 24 = .ok (.iinc 1 1, 3) := by decide +kernel
theorem dX1_shut_27 : decode cX1_shut 27 = .ok (.goto (-17), 3) := by decide +kernel
theorem dX1_shut_30 : decode cX1_shut 30 = .ok (.aload_n 0, 1) := by decide +kernel
theorem dX1_shut_31 : decode cX1_shut 31 = .ok (.iconst 1, 1) := by decide +kernel
theorem dX1_shut_32 : decode cX1_shut 32 = .ok (.putfield 29, 3) := by decide +kernel
theorem dX1_shut_35 : decode cX1_shut 35 = .ok (.aload_n 0, 1) := by decide +kernel
theorem dX1_shut_36 : decode cX1_shut 36 = .ok (.iconst 1, 1) := by decide +kernel
theorem dX1_shut_37 : decode cX1_shut 37 = .ok (.putfield 118, 3) := by decide +kernel
theorem dX1_shut_40 : decode cX1_shut 40 = .ok (.return_, 1) := by decide +kernel
theorem dX2_init_0 : decode cX2_init 0 = .ok (.aload_n 0, 1) := by decide +kernel
theorem dX2_init_1 : decode cX2_init 1 = .ok (.invokespecial 1, 3) := by decide +kernel
theorem dX2_init_4 : decode cX2_init 4 = .ok (.aload_n 0, 1) := by decide +kernel
theorem dX2_init_5 : decode cX2_init 5 = .ok (.sipush 4608, 3) := by decide +kernel
theorem dX2_init_8 : decode cX2_init 8 = .ok (.newarray .int, 2) := by decide +kernel
theorem dX2_init_10 : decode cX2_init 10 = .ok (.putfield 7, 3) := by decide +kernel
theorem dX2_init_13 : decode cX2_init 13 = .ok (.aload_n 0, 1) := by decide +kernel
theorem dX2_init_14 : decode cX2_init 14 = .ok (.iconst 3, 1) := by decide +kernel
theorem dX2_init_15 : decode cX2_init 15 = .ok (.newarray .int, 2) := by decide +kernel
theorem dX2_init_17 : decode cX2_init 17 = .ok (.putfield 13, 3) := by decide +kernel
theorem dX2_init_20 : decode cX2_init 20 = .ok (.aload_n 0, 1) := by decide +kernel
theorem dX2_init_21 : decode cX2_init 21 = .ok (.sipush 4608, 3) := by decide +kernel
theorem dX2_init_24 : decode cX2_init 24 = .ok (.newarray .int, 2) := by decide +kernel
theorem dX2_init_26 : decode cX2_init 26 = .ok (.putfield 16, 3) := by decide +kernel
theorem dX2_init_29 : decode cX2_init 29 = .ok (.aload_n 0, 1) := by decide +kernel
theorem dX2_init_30 : decode cX2_init 30 = .ok (.iconst 3, 1) := by decide +kernel
theorem dX2_init_31 : decode cX2_init 31 = .ok (.newarray .int, 2) := by decide +kernel
theorem dX2_init_33 : decode cX2_init 33 = .ok (.putfield 19, 3) := by decide +kernel
theorem dX2_init_36 : decode cX2_init 36 = .ok (.aload_n 0, 1) := by decide +kernel
theorem dX2_init_37 : decode cX2_init 37 = .ok (.bipush 16, 2) := by decide +kernel
theorem dX2_init_39 : decode cX2_init 39 = .ok (.newarray .int, 2) := by decide +kernel
theorem dX2_init_41 : decode cX2_init 41 = .ok (.putfield 22, 3) := by decide +kernel
theorem dX2_init_44 : decode cX2_init 44 = .ok (.aload_n 0, 1) := by decide +kernel
theorem dX2_init_45 : decode cX2_init 45 = .ok (.bipush 24, 2) := by decide +kernel
theorem dX2_init_47 : decode cX2_init 47 = .ok (.newarray .int, 2) := by decide +kernel
theorem dX2_init_49 : decode cX2_init 49 = .ok (.putfield 25, 3) := by decide +kernel
theorem dX2_init_52 : decode cX2_init 52 = .ok (.aload_n 0, 1) := by decide +kernel
theorem dX2_init_53 : decode cX2_init 53 = .ok (.iload_n 1, 1) := by decide +kernel
theorem dX2_init_54 : decode cX2_init 54 = .ok (.iconst 1, 1) := by decide +kernel
theorem dX2_init_55 : decode cX2_init 55 = .ok (.if_icmp .lt 9, 3) := by decide +kernel
theorem dX2_init_58 : decode cX2_init 58 = .ok (.iload_n 1, 1) := by decide +kernel
theorem dX2_init_59 : decode cX2_init 59 = .ok (.bipush 64, 2) := by decide +kernel
theorem dX2_init_61 : decode cX2_init 61 = .ok (.if_icmp .le 7, 3) := by decide +kernel
theorem dX2_init_64 : decode cX2_init 64 = .ok (.iconst 1, 1) := by decide +kernel
theorem dX2_init_65 : decode cX2_init 65 = .ok (.goto 4, 3) := by decide +kernel
theorem dX2_init_68 : decode cX2_init 68 = .ok (.iload_n 1, 1) := by decide +kernel
theorem dX2_init_69 : decode cX2_init 69 = .ok (.putfield 28, 3) := by decide +kernel
theorem dX2_init_72 : decode cX2_init 72 = .ok (.return_, 1) := by decide +kernel
theorem dX2_thrown_0 : decode cX2_thrown 0 = .ok (.aload_n 0, 1) := by decide +kernel
theorem dX2_thrown_1 : decode cX2_thrown 1 = .ok (.getfield 32, 3) := by decide +kernel
theorem dX2_thrown_4 : decode cX2_thrown 4 = .ok (.ireturn, 1) := by decide +kernel
theorem dX2_in_0 : decode cX2_in 0 = .ok (.iload_n 0, 1) := by decide +kernel
theorem dX2_in_1 : decode cX2_in 1 = .ok (.iload_n 1, 1) := by decide +kernel
theorem dX2_in_2 : decode cX2_in 2 = .ok (.if_icmp .lt 12, 3) := by decide +kernel
theorem dX2_in_5 : decode cX2_in 5 = .ok (.iload_n 0, 1) := by decide +kernel
theorem dX2_in_6 : decode cX2_in 6 = .ok (.iload_n 2, 1) := by decide +kernel
theorem dX2_in_7 : decode cX2_in 7 = .ok (.if_icmp .gt 7, 3) := by decide +kernel
theorem dX2_in_10 : decode cX2_in 10 = .ok (.iconst 1, 1) := by decide +kernel
theorem dX2_in_11 : decode cX2_in 11 = .ok (.goto 4, 3) := by decide +kernel
theorem dX2_in_14 : decode cX2_in 14 = .ok (.iconst 0, 1) := by decide +kernel
theorem dX2_in_15 : decode cX2_in 15 = .ok (.ireturn, 1) := by decide +kernel
theorem dX2_stripes_0 : decode cX2_stripes 0 = .ok (.iconst 0, 1) := by decide +kernel
theorem dX2_stripes_1 : decode cX2_stripes 1 = .ok (.istore_n 1, 1) := by decide +kernel
theorem dX2_stripes_2 : decode cX2_stripes 2 = .ok (.iconst 0, 1) := by decide +kernel
theorem dX2_stripes_3 : decode cX2_stripes 3 = .ok (.istore_n 2, 1) := by decide +kernel
theorem dX2_stripes_4 : decode cX2_stripes 4 = .ok (.iload_n 2, 1) := by decide +kernel
theorem dX2_stripes_5 : decode cX2_stripes 5 = .ok (.iconst 3, 1) := by decide +kernel
theorem dX2_stripes_6 : decode cX2_stripes 6 = .ok (.if_icmp .ge 36, 3) := by decide +kernel
theorem dX2_stripes_9 : decode cX2_stripes 9 = .ok (.aload_n 0, 1) := by decide +kernel
theorem dX2_stripes_10 : decode cX2_stripes 10 = .ok (.getfield 13, 3) := by decide +kernel
theorem dX2_stripes_13 : decode cX2_stripes 13 = .ok (.iload_n 2, 1) := by decide +kernel
theorem dX2_stripes_14 : decode cX2_stripes 14 = .ok (.iaload, 1) := by decide +kernel
theorem dX2_stripes_15 : decode cX2_stripes 15 = .ok (.bipush 24, 2) := by decide +kernel
theorem dX2_stripes_17 : decode cX2_stripes 17 = .ok (.idiv, 1) := by decide +kernel
theorem dX2_stripes_18 : decode cX2_stripes 18 = .ok (.iload_n 1, 1) := by decide +kernel
theorem dX2_stripes_19 : decode cX2_stripes 19 = .ok (.if_icmp .le 15, 3) := by decide +kernel
theorem dX2_stripes_22 : decode cX2_stripes 22 = .ok (.aload_n 0, 1) := by decide +kernel
theorem dX2_stripes_23 : decode cX2_stripes 23 = .ok (.getfield 13, 3) := by decide +kernel
theorem dX2_stripes_26 : decode cX2_stripes 26 = .ok (.iload_n 2, 1) := by decide +kernel
theorem dX2_stripes_27 : decode cX2_stripes 27 = .ok (.iaload, 1) := by decide +kernel
theorem dX2_stripes_28 : decode cX2_stripes 28 = .ok (.bipush 24, 2) := by decide +kernel
theorem dX2_stripes_30 : decode cX2_stripes 30 = .ok (.idiv, 1) := by decide +kernel
theorem dX2_stripes_31 : decode cX2_stripes 31 = .ok (.goto 4, 3) := by decide +kernel
theorem dX2_stripes_34 : decode cX2_stripes 34 = .ok (.iload_n 1, 1) := by decide +kernel
theorem dX2_stripes_35 : decode cX2_stripes 35 = .ok (.istore_n 1, 1) := by decide +kernel
theorem dX2_stripes_36 : decode cX2_stripes 36 = .ok (.iinc 2 1, 3) := by decide +kernel
theorem dX2_stripes_39 : decode cX2_stripes 39 = .ok (.goto (-35), 3) := by decide +kernel
theorem dX2_stripes_42 : decode cX2_stripes 42 = .ok (.iload_n 1, 1) := by decide +kernel
theorem dX2_stripes_43 : decode cX2_stripes 43 = .ok (.ireturn, 1) := by decide +kernel
theorem dX2_turned_0 : decode cX2_turned 0 = .ok (.iload_n 0, 1) := by decide +kernel
theorem dX2_turned_1 : decode cX2_turned 1 = .ok (.iload_n 1, 1) := by decide +kernel
theorem dX2_turned_2 : decode cX2_turned 2 = .ok (.ixor, 1) := by decide +kernel
theorem dX2_turned_3 : decode cX2_turned 3 = .ok (.istore_n 2, 1) := by decide +kernel
theorem dX2_turned_4 : decode cX2_turned 4 = .ok (.iload_n 2, 1) := by decide +kernel
theorem dX2_turned_5 : decode cX2_turned 5 = .ok (.bipush 19, 2) := by decide +kernel
theorem dX2_turned_7 : decode cX2_turned 7 = .ok (.ishl, 1) := by decide +kernel
theorem dX2_turned_8 : decode cX2_turned 8 = .ok (.iload_n 2, 1) := by decide +kernel
theorem dX2_turned_9 : decode cX2_turned 9 = .ok (.bipush 13, 2) := by decide +kernel
theorem dX2_turned_11 : decode cX2_turned 11 = .ok (.iushr, 1) := by decide +kernel
theorem dX2_turned_12 : decode cX2_turned 12 = .ok (.ior, 1) := by decide +kernel
theorem dX2_turned_13 : decode cX2_turned 13 = .ok (.istore_n 2, 1) := by decide +kernel
theorem dX2_turned_14 : decode cX2_turned 14 = .ok (.iload_n 2, 1) := by decide +kernel
theorem dX2_turned_15 : decode cX2_turned 15 = .ok (.ldc 35, 2) := by decide +kernel
theorem dX2_turned_17 : decode cX2_turned 17 = .ok (.imul, 1) := by decide +kernel
theorem dX2_turned_18 : decode cX2_turned 18 = .ok (.ireturn, 1) := by decide +kernel
set_option maxRecDepth 20000 in
theorem ggX2_isGood_X2_turned : GoodIn wsX2_isGood wsX2_turned := goodIn_r _ [7, 8] (by decide +kernel) (by decide +kernel)
set_option maxRecDepth 20000 in
theorem gX2_isGood_X2_turned : GoodIn wsX2_isGood (va_wsS RX2 37 yX2_turned wsX2_turned) := goodIn_app (goodIn_of _ (by decide +kernel)) ggX2_isGood_X2_turned
theorem dX2_isGood_0 : decode cX2_isGood 0 = .ok (.sipush 1536, 3) := by decide +kernel
theorem dX2_isGood_3 : decode cX2_isGood 3 = .ok (.iload_n 1, 1) := by decide +kernel
theorem dX2_isGood_4 : decode cX2_isGood 4 = .ok (.imul, 1) := by decide +kernel
theorem dX2_isGood_5 : decode cX2_isGood 5 = .ok (.bipush 24, 2) := by decide +kernel
theorem dX2_isGood_7 : decode cX2_isGood 7 = .ok (.iload_n 2, 1) := by decide +kernel
theorem dX2_isGood_8 : decode cX2_isGood 8 = .ok (.imul, 1) := by decide +kernel
theorem dX2_isGood_9 : decode cX2_isGood 9 = .ok (.iadd, 1) := by decide +kernel
theorem dX2_isGood_10 : decode cX2_isGood 10 = .ok (.istore_n 3, 1) := by decide +kernel
theorem dX2_isGood_11 : decode cX2_isGood 11 = .ok (.bipush 24, 2) := by decide +kernel
theorem dX2_isGood_13 : decode cX2_isGood 13 = .ok (.iload_n 2, 1) := by decide +kernel
theorem dX2_isGood_14 : decode cX2_isGood 14 = .ok (.imul, 1) := by decide +kernel
theorem dX2_isGood_15 : decode cX2_isGood 15 = .ok (.bipush 24, 2) := by decide +kernel
theorem dX2_isGood_17 : decode cX2_isGood 17 = .ok (.iadd, 1) := by decide +kernel
theorem dX2_isGood_18 : decode cX2_isGood 18 = .ok (.aload_n 0, 1) := by decide +kernel
theorem dX2_isGood_19 : decode cX2_isGood 19 = .ok (.getfield 13, 3) := by decide +kernel
theorem dX2_isGood_22 : decode cX2_isGood 22 = .ok (.iload_n 1, 1) := by decide +kernel
theorem dX2_isGood_23 : decode cX2_isGood 23 = .ok (.iaload, 1) := by decide +kernel
theorem dX2_isGood_24 : decode cX2_isGood 24 = .ok (.if_icmp .gt 26, 3) := by decide +kernel
theorem dX2_isGood_27 : decode cX2_isGood 27 = .ok (.aload_n 0, 1) := by decide +kernel
theorem dX2_isGood_28 : decode cX2_isGood 28 = .ok (.getfield 7, 3) := by decide +kernel
theorem dX2_isGood_31 : decode cX2_isGood 31 = .ok (.iload_n 3, 1) := by decide +kernel
theorem dX2_isGood_32 : decode cX2_isGood 32 = .ok (.iaload, 1) := by decide +kernel
theorem dX2_isGood_33 : decode cX2_isGood 33 = .ok (.sipush 256, 3) := by decide +kernel
theorem dX2_isGood_36 : decode cX2_isGood 36 = .ok (.aload_n 0, 1) := by decide +kernel
theorem dX2_isGood_37 : decode cX2_isGood 37 = .ok (.getfield 7, 3) := by decide +kernel
theorem dX2_isGood_40 : decode cX2_isGood 40 = .ok (.iload_n 3, 1) := by decide +kernel
theorem dX2_isGood_41 : decode cX2_isGood 41 = .ok (.iconst 1, 1) := by decide +kernel
theorem dX2_isGood_42 : decode cX2_isGood 42 = .ok (.iadd, 1) := by decide +kernel
theorem dX2_isGood_43 : decode cX2_isGood 43 = .ok (.iaload, 1) := by decide +kernel
theorem dX2_isGood_44 : decode cX2_isGood 44 = .ok (.imul, 1) := by decide +kernel
theorem dX2_isGood_45 : decode cX2_isGood 45 = .ok (.iadd, 1) := by decide +kernel
theorem dX2_isGood_46 : decode cX2_isGood 46 = .ok (.iload_n 2, 1) := by decide +kernel
theorem dX2_isGood_47 : decode cX2_isGood 47 = .ok (.if_icmp .eq 5, 3) := by decide +kernel
theorem dX2_isGood_50 : decode cX2_isGood 50 = .ok (.iconst 0, 1) := by decide +kernel
theorem dX2_isGood_51 : decode cX2_isGood 51 = .ok (.ireturn, 1) := by decide +kernel
theorem dX2_isGood_52 : decode cX2_isGood 52 = .ok (.ldc 36, 2) := by decide +kernel
theorem dX2_isGood_54 : decode cX2_isGood 54 = .ok (.iload_n 1, 1) := by decide +kernel
theorem dX2_isGood_55 : decode cX2_isGood 55 = .ok (.iadd, 1) := by decide +kernel
theorem dX2_isGood_56 : decode cX2_isGood 56 = .ok (.istore 4, 2) := by decide +kernel
theorem dX2_isGood_58 : decode cX2_isGood 58 = .ok (.iconst 0, 1) := by decide +kernel
theorem dX2_isGood_59 : decode cX2_isGood 59 = .ok (.istore 5, 2) := by decide +kernel
theorem dX2_isGood_61 : decode cX2_isGood 61 = .ok (.iload 5, 2) := by decide +kernel
theorem dX2_isGood_63 : decode cX2_isGood 63 = .ok (.bipush 20, 2) := by decide +kernel
theorem dX2_isGood_65 : decode cX2_isGood 65 = .ok (.if_icmp .ge 25, 3) := by decide +kernel
theorem dX2_isGood_68 : decode cX2_isGood 68 = .ok (.iload 4, 2) := by decide +kernel
theorem dX2_isGood_70 : decode cX2_isGood 70 = .ok (.aload_n 0, 1) := by decide +kernel
theorem dX2_isGood_71 : decode cX2_isGood 71 = .ok (.getfield 7, 3) := by decide +kernel
theorem dX2_isGood_74 : decode cX2_isGood 74 = .ok (.iload_n 3, 1) := by decide +kernel
theorem dX2_isGood_75 : decode cX2_isGood 75 = .ok (.iload 5, 2) := by decide +kernel
theorem dX2_isGood_77 : decode cX2_isGood 77 = .ok (.iadd, 1) := by decide +kernel
theorem dX2_isGood_78 : decode cX2_isGood 78 = .ok (.iaload, 1) := by decide +kernel
theorem dX2_isGood_79 : decode cX2_isGood 79 = .ok (.invokestatic 37, 3) := by decide +kernel
theorem dX2_isGood_82 : decode cX2_isGood 82 = .ok (.istore 4, 2) := by decide +kernel
theorem dX2_isGood_84 : decode cX2_isGood 84 = .ok (.iinc 5 1, 3) := by decide +kernel
theorem dX2_isGood_87 : decode cX2_isGood 87 = .ok (.goto (-26), 3) := by decide +kernel
theorem dX2_isGood_90 : decode cX2_isGood 90 = .ok (.aload_n 0, 1) := by decide +kernel
theorem dX2_isGood_91 : decode cX2_isGood 91 = .ok (.getfield 7, 3) := by decide +kernel
theorem dX2_isGood_94 : decode cX2_isGood 94 = .ok (.iload_n 3, 1) := by decide +kernel
theorem dX2_isGood_95 : decode cX2_isGood 95 = .ok (.bipush 20, 2) := by decide +kernel
theorem dX2_isGood_97 : decode cX2_isGood 97 = .ok (.iadd, 1) := by decide +kernel
theorem dX2_isGood_98 : decode cX2_isGood 98 = .ok (.iaload, 1) := by decide +kernel
theorem dX2_isGood_99 : decode cX2_isGood 99 = .ok (.aload_n 0, 1) := by decide +kernel
theorem dX2_isGood_100 : decode cX2_isGood 100 = .ok (.getfield 7, 3) := by decide +kernel
theorem dX2_isGood_103 : decode cX2_isGood 103 = .ok (.iload_n 3, 1) := by decide +kernel
theorem dX2_isGood_104 : decode cX2_isGood 104 = .ok (.bipush 21, 2) := by decide +kernel
theorem dX2_isGood_106 : decode cX2_isGood 106 = .ok (.iadd, 1) := by decide +kernel
theorem dX2_isGood_107 : decode cX2_isGood 107 = .ok (.iaload, 1) := by decide +kernel
theorem dX2_isGood_108 : decode cX2_isGood 108 = .ok (.bipush 8, 2) := by decide +kernel
theorem dX2_isGood_110 : decode cX2_isGood 110 = .ok (.ishl, 1) := by decide +kernel
theorem dX2_isGood_111 : decode cX2_isGood 111 = .ok (.ior, 1) := by decide +kernel
theorem dX2_isGood_112 : decode cX2_isGood 112 = .ok (.aload_n 0, 1) := by decide +kernel
theorem dX2_isGood_113 : decode cX2_isGood 113 = .ok (.getfield 7, 3) := by decide +kernel
theorem dX2_isGood_116 : decode cX2_isGood 116 = .ok (.iload_n 3, 1) := by decide +kernel
theorem dX2_isGood_117 : decode cX2_isGood 117 = .ok (.bipush 22, 2) := by decide +kernel
theorem dX2_isGood_119 : decode cX2_isGood 119 = .ok (.iadd, 1) := by decide +kernel
theorem dX2_isGood_120 : decode cX2_isGood 120 = .ok (.iaload, 1) := by decide +kernel
theorem dX2_isGood_121 : decode cX2_isGood 121 = .ok (.bipush 16, 2) := by decide +kernel
theorem dX2_isGood_123 : decode cX2_isGood 123 = .ok (.ishl, 1) := by decide +kernel
theorem dX2_isGood_124 : decode cX2_isGood 124 = .ok (.ior, 1) := by decide +kernel
theorem dX2_isGood_125 : decode cX2_isGood 125 = .ok (.aload_n 0, 1) := by decide +kernel
theorem dX2_isGood_126 : decode cX2_isGood 126 = .ok (.getfield 7, 3) := by decide +kernel
theorem dX2_isGood_129 : decode cX2_isGood 129 = .ok (.iload_n 3, 1) := by decide +kernel
theorem dX2_isGood_130 : decode cX2_isGood 130 = .ok (.bipush 23, 2) := by decide +kernel
theorem dX2_isGood_132 : decode cX2_isGood 132 = .ok (.iadd, 1) := by decide +kernel
theorem dX2_isGood_133 : decode cX2_isGood 133 = .ok (.iaload, 1) := by decide +kernel
theorem dX2_isGood_134 : decode cX2_isGood 134 = .ok (.bipush 24, 2) := by decide +kernel
theorem dX2_isGood_136 : decode cX2_isGood 136 = .ok (.ishl, 1) := by decide +kernel
theorem dX2_isGood_137 : decode cX2_isGood 137 = .ok (.ior, 1) := by decide +kernel
theorem dX2_isGood_138 : decode cX2_isGood 138 = .ok (.istore 5, 2) := by decide +kernel
theorem dX2_isGood_140 : decode cX2_isGood 140 = .ok (.iload 5, 2) := by decide +kernel
theorem dX2_isGood_142 : decode cX2_isGood 142 = .ok (.iload 4, 2) := by decide +kernel
theorem dX2_isGood_144 : decode cX2_isGood 144 = .ok (.if_icmp .ne 7, 3) := by decide +kernel
theorem dX2_isGood_147 : decode cX2_isGood 147 = .ok (.iconst 1, 1) := by decide +kernel
theorem dX2_isGood_148 : decode cX2_isGood 148 = .ok (.goto 4, 3) := by decide +kernel
theorem dX2_isGood_151 : decode cX2_isGood 151 = .ok (.iconst 0, 1) := by decide +kernel
theorem dX2_isGood_152 : decode cX2_isGood 152 = .ok (.ireturn, 1) := by decide +kernel
set_option maxRecDepth 20000 in
theorem ggX2_othersGood_X2_isGood : GoodIn wsX2_othersGood wsX2_isGood := goodIn_r _ [5, 6, 7, 8, 9, 10, 4, 11, 12, 13, 14, 15, 16, 17, 18, 19, 20, 21, 22, 23, 24, 25] (by decide +kernel) (by decide +kernel)
set_option maxRecDepth 20000 in
theorem gX2_othersGood_X2_isGood : GoodIn wsX2_othersGood (wsV RX2 41 RX2 yX2_isGood wsX2_isGood) := goodIn_app (goodIn_of _ (by decide +kernel)) ggX2_othersGood_X2_isGood
theorem dX2_othersGood_0 : decode cX2_othersGood 0 = .ok (.aload_n 0, 1) := by decide +kernel
theorem dX2_othersGood_1 : decode cX2_othersGood 1 = .ok (.iload_n 1, 1) := by decide +kernel
theorem dX2_othersGood_2 : decode cX2_othersGood 2 = .ok (.iconst 1, 1) := by decide +kernel
theorem dX2_othersGood_3 : decode cX2_othersGood 3 = .ok (.iadd, 1) := by decide +kernel
theorem dX2_othersGood_4 : decode cX2_othersGood 4 = .ok (.iconst 3, 1) := by decide +kernel
theorem dX2_othersGood_5 : decode cX2_othersGood 5 = .ok (.irem, 1) := by decide +kernel
theorem dX2_othersGood_6 : decode cX2_othersGood 6 = .ok (.iload_n 2, 1) := by decide +kernel
theorem dX2_othersGood_7 : decode cX2_othersGood 7 = .ok (.invokevirtual 41, 3) := by decide +kernel
theorem dX2_othersGood_10 : decode cX2_othersGood 10 = .ok (.ifCond .eq 20, 3) := by decide +kernel
theorem dX2_othersGood_13 : decode cX2_othersGood 13 = .ok (.aload_n 0, 1) := by decide +kernel
theorem dX2_othersGood_14 : decode cX2_othersGood 14 = .ok (.iload_n 1, 1) := by decide +kernel
theorem dX2_othersGood_15 : decode cX2_othersGood 15 = .ok (.iconst 2, 1) := by decide +kernel
theorem dX2_othersGood_16 : decode cX2_othersGood 16 = .ok (.iadd, 1) := by decide +kernel
theorem dX2_othersGood_17 : decode cX2_othersGood 17 = .ok (.iconst 3, 1) := by decide +kernel
theorem dX2_othersGood_18 : decode cX2_othersGood 18 = .ok (.irem, 1) := by decide +kernel
theorem dX2_othersGood_19 : decode cX2_othersGood 19 = .ok (.iload_n 2, 1) := by decide +kernel
theorem dX2_othersGood_20 : decode cX2_othersGood 20 = .ok (.invokevirtual 41, 3) := by decide +kernel
theorem dX2_othersGood_23 : decode cX2_othersGood 23 = .ok (.ifCond .eq 7, 3) := by decide +kernel
theorem dX2_othersGood_26 : decode cX2_othersGood 26 = .ok (.iconst 1, 1) := by decide +kernel
theorem dX2_othersGood_27 : decode cX2_othersGood 27 = .ok (.goto 4, 3) := by decide +kernel
theorem dX2_othersGood_30 : decode cX2_othersGood 30 = .ok (.iconst 0, 1) := by decide +kernel
theorem dX2_othersGood_31 : decode cX2_othersGood 31 = .ok (.ireturn, 1) := by decide +kernel
set_option maxRecDepth 20000 in
theorem ggX2_finish_X2_turned : GoodIn wsX2_finish wsX2_turned := goodIn_r _ [6, 7] (by decide +kernel) (by decide +kernel)
set_option maxRecDepth 20000 in
theorem gX2_finish_X2_turned : GoodIn wsX2_finish (va_wsS RX2 37 yX2_turned wsX2_turned) := goodIn_app (goodIn_of _ (by decide +kernel)) ggX2_finish_X2_turned
theorem dX2_finish_0 : decode cX2_finish 0 = .ok (.aload_n 0, 1) := by decide +kernel
theorem dX2_finish_1 : decode cX2_finish 1 = .ok (.getfield 25, 3) := by decide +kernel
theorem dX2_finish_4 : decode cX2_finish 4 = .ok (.iconst 0, 1) := by decide +kernel
theorem dX2_finish_5 : decode cX2_finish 5 = .ok (.iload_n 2, 1) := by decide +kernel
theorem dX2_finish_6 : decode cX2_finish 6 = .ok (.sipush 255, 3) := by decide +kernel
theorem dX2_finish_9 : decode cX2_finish 9 = .ok (.iand, 1) := by decide +kernel
theorem dX2_finish_10 : decode cX2_finish 10 = .ok (.iastore, 1) := by decide +kernel
theorem dX2_finish_11 : decode cX2_finish 11 = .ok (.aload_n 0, 1) := by decide +kernel
theorem dX2_finish_12 : decode cX2_finish 12 = .ok (.getfield 25, 3) := by decide +kernel
theorem dX2_finish_15 : decode cX2_finish 15 = .ok (.iconst 1, 1) := by decide +kernel
theorem dX2_finish_16 : decode cX2_finish 16 = .ok (.iload_n 2, 1) := by decide +kernel
theorem dX2_finish_17 : decode cX2_finish 17 = .ok (.bipush 8, 2) := by decide +kernel
theorem dX2_finish_19 : decode cX2_finish 19 = .ok (.ishr, 1) := by decide +kernel
theorem dX2_finish_20 : decode cX2_finish 20 = .ok (.iastore, 1) := by decide +kernel
theorem dX2_finish_21 : decode cX2_finish 21 = .ok (.ldc 36, 2) := by decide +kernel
theorem dX2_finish_23 : decode cX2_finish 23 = .ok (.iload_n 1, 1) := by decide +kernel
theorem dX2_finish_24 : decode cX2_finish 24 = .ok (.iadd, 1) := by decide +kernel
theorem dX2_finish_25 : decode cX2_finish 25 = .ok (.istore_n 3, 1) := by decide +kernel
theorem dX2_finish_26 : decode cX2_finish 26 = .ok (.iconst 0, 1) := by decide +kernel
theorem dX2_finish_27 : decode cX2_finish 27 = .ok (.istore 4, 2) := by decide +kernel
theorem dX2_finish_29 : decode cX2_finish 29 = .ok (.iload 4, 2) := by decide +kernel
theorem dX2_finish_31 : decode cX2_finish 31 = .ok (.bipush 20, 2) := by decide +kernel
theorem dX2_finish_33 : decode cX2_finish 33 = .ok (.if_icmp .ge 21, 3) := by decide +kernel
theorem dX2_finish_36 : decode cX2_finish 36 = .ok (.iload_n 3, 1) := by decide +kernel
theorem dX2_finish_37 : decode cX2_finish 37 = .ok (.aload_n 0, 1) := by decide +kernel
theorem dX2_finish_38 : decode cX2_finish 38 = .ok (.getfield 25, 3) := by decide +kernel
theorem dX2_finish_41 : decode cX2_finish 41 = .ok (.iload 4, 2) := by decide +kernel
theorem dX2_finish_43 : decode cX2_finish 43 = .ok (.iaload, 1) := by decide +kernel
theorem dX2_finish_44 : decode cX2_finish 44 = .ok (.invokestatic 37, 3) := by decide +kernel
theorem dX2_finish_47 : decode cX2_finish 47 = .ok (.istore_n 3, 1) := by decide +kernel
theorem dX2_finish_48 : decode cX2_finish 48 = .ok (.iinc 4 1, 3) := by decide +kernel
theorem dX2_finish_51 : decode cX2_finish 51 = .ok (.goto (-22), 3) := by decide +kernel
theorem dX2_finish_54 : decode cX2_finish 54 = .ok (.iconst 0, 1) := by decide +kernel
theorem dX2_finish_55 : decode cX2_finish 55 = .ok (.istore 4, 2) := by decide +kernel
theorem dX2_finish_57 : decode cX2_finish 57 = .ok (.iload 4, 2) := by decide +kernel
theorem dX2_finish_59 : decode cX2_finish 59 = .ok (.iconst 4, 1) := by decide +kernel
theorem dX2_finish_60 : decode cX2_finish 60 = .ok (.if_icmp .ge 30, 3) := by decide +kernel
theorem dX2_finish_63 : decode cX2_finish 63 = .ok (.aload_n 0, 1) := by decide +kernel
theorem dX2_finish_64 : decode cX2_finish 64 = .ok (.getfield 25, 3) := by decide +kernel
theorem dX2_finish_67 : decode cX2_finish 67 = .ok (.bipush 20, 2) := by decide +kernel
theorem dX2_finish_69 : decode cX2_finish 69 = .ok (.iload 4, 2) := by decide +kernel
theorem dX2_finish_71 : decode cX2_finish 71 = .ok (.iadd, 1) := by decide +kernel
theorem dX2_finish_72 : decode cX2_finish 72 = .ok (.iload_n 3, 1) := by decide +kernel
theorem dX2_finish_73 : decode cX2_finish 73 = .ok (.bipush 8, 2) := by decide +kernel
theorem dX2_finish_75 : decode cX2_finish 75 = .ok (.iload 4, 2) := by decide +kernel
theorem dX2_finish_77 : decode cX2_finish 77 = .ok (.imul, 1) := by decide +kernel
theorem dX2_finish_78 : decode cX2_finish 78 = .ok (.iushr, 1) := by decide +kernel
theorem dX2_finish_79 : decode cX2_finish 79 = .ok (.sipush 255, 3) := by decide +kernel
theorem dX2_finish_82 : decode cX2_finish 82 = .ok (.iand, 1) := by decide +kernel
theorem dX2_finish_83 : decode cX2_finish 83 = .ok (.iastore, 1) := by decide +kernel
theorem dX2_finish_84 : decode cX2_finish 84 = .ok (.iinc 4 1, 3) := by decide +kernel
theorem dX2_finish_87 : decode cX2_finish 87 = .ok (.goto (-30), 3) := by decide +kernel
theorem dX2_finish_90 : decode cX2_finish 90 = .ok (.return_, 1) := by decide +kernel
set_option maxRecDepth 20000 in
theorem ggX2_makeByOthers_X2_finish : GoodIn wsX2_makeByOthers wsX2_finish := goodIn_r _ [7, 1, 8, 9, 10, 6, 11, 12, 13, 14, 15, 16, 17, 18, 19, 20, 21, 22, 23, 24, 25] (by decide +kernel) (by decide +kernel)
set_option maxRecDepth 20000 in
theorem gX2_makeByOthers_X2_finish : GoodIn wsX2_makeByOthers (wsV RX2 45 RX2 yX2_finish wsX2_finish) := goodIn_app (goodIn_of _ (by decide +kernel)) ggX2_makeByOthers_X2_finish
theorem dX2_makeByOthers_0 : decode cX2_makeByOthers 0 = .ok (.sipush 1536, 3) := by decide +kernel
theorem dX2_makeByOthers_3 : decode cX2_makeByOthers 3 = .ok (.iload_n 1, 1) := by decide +kernel
theorem dX2_makeByOthers_4 : decode cX2_makeByOthers 4 = .ok (.iconst 1, 1) := by decide +kernel
theorem dX2_makeByOthers_5 : decode cX2_makeByOthers 5 = .ok (.iadd, 1) := by decide +kernel
theorem dX2_makeByOthers_6 : decode cX2_makeByOthers 6 = .ok (.iconst 3, 1) := by decide +kernel
theorem dX2_makeByOthers_7 : decode cX2_makeByOthers 7 = .ok (.irem, 1) := by decide +kernel
theorem dX2_makeByOthers_8 : decode cX2_makeByOthers 8 = .ok (.imul, 1) := by decide +kernel
theorem dX2_makeByOthers_9 : decode cX2_makeByOthers 9 = .ok (.bipush 24, 2) := by decide +kernel
theorem dX2_makeByOthers_11 : decode cX2_makeByOthers 11 = .ok (.iload_n 2, 1) := by decide +kernel
theorem dX2_makeByOthers_12 : decode cX2_makeByOthers 12 = .ok (.imul, 1) := by decide +kernel
theorem dX2_makeByOthers_13 : decode cX2_makeByOthers 13 = .ok (.iadd, 1) := by decide +kernel
theorem dX2_makeByOthers_14 : decode cX2_makeByOthers 14 = .ok (.istore_n 3, 1) := by decide +kernel
theorem dX2_makeByOthers_15 : decode cX2_makeByOthers 15 = .ok (.sipush 1536, 3) := by decide +kernel
theorem dX2_makeByOthers_18 : decode cX2_makeByOthers 18 = .ok (.iload_n 1, 1) := by decide +kernel
theorem dX2_makeByOthers_19 : decode cX2_makeByOthers 19 = .ok (.iconst 2, 1) := by decide +kernel
theorem dX2_makeByOthers_20 : decode cX2_makeByOthers 20 = .ok (.iadd, 1) := by decide +kernel
theorem dX2_makeByOthers_21 : decode cX2_makeByOthers 21 = .ok (.iconst 3, 1) := by decide +kernel
theorem dX2_makeByOthers_22 : decode cX2_makeByOthers 22 = .ok (.irem, 1) := by decide +kernel
theorem dX2_makeByOthers_23 : decode cX2_makeByOthers 23 = .ok (.imul, 1) := by decide +kernel
theorem dX2_makeByOthers_24 : decode cX2_makeByOthers 24 = .ok (.bipush 24, 2) := by decide +kernel
theorem dX2_makeByOthers_26 : decode cX2_makeByOthers 26 = .ok (.iload_n 2, 1) := by decide +kernel
theorem dX2_makeByOthers_27 : decode cX2_makeByOthers 27 = .ok (.imul, 1) := by decide +kernel
theorem dX2_makeByOthers_28 : decode cX2_makeByOthers 28 = .ok (.iadd, 1) := by decide +kernel
theorem dX2_makeByOthers_29 : decode cX2_makeByOthers 29 = .ok (.istore 4, 2) := by decide +kernel
theorem dX2_makeByOthers_31 : decode cX2_makeByOthers 31 = .ok (.iconst 2, 1) := by decide +kernel
theorem dX2_makeByOthers_32 : decode cX2_makeByOthers 32 = .ok (.istore 5, 2) := by decide +kernel
theorem dX2_makeByOthers_34 : decode cX2_makeByOthers 34 = .ok (.iload 5, 2) := by decide +kernel
theorem dX2_makeByOthers_36 : decode cX2_makeByOthers 36 = .ok (.bipush 20, 2) := by decide +kernel
theorem dX2_makeByOthers_38 : decode cX2_makeByOthers 38 = .ok (.if_icmp .ge 36, 3) := by decide +kernel
theorem dX2_makeByOthers_41 : decode cX2_makeByOthers 41 = .ok (.aload_n 0, 1) := by decide +kernel
theorem dX2_makeByOthers_42 : decode cX2_makeByOthers 42 = .ok (.getfield 25, 3) := by decide +kernel
theorem dX2_makeByOthers_45 : decode cX2_makeByOthers 45 = .ok (.iload 5, 2) := by decide +kernel
theorem dX2_makeByOthers_47 : decode cX2_makeByOthers 47 = .ok (.aload_n 0, 1) := by decide +kernel
theorem dX2_makeByOthers_48 : decode cX2_makeByOthers 48 = .ok (.getfield 7, 3) := by decide +kernel
theorem dX2_makeByOthers_51 : decode cX2_makeByOthers 51 = .ok (.iload_n 3, 1) := by decide +kernel
theorem dX2_makeByOthers_52 : decode cX2_makeByOthers 52 = .ok (.iload 5, 2) := by decide +kernel
theorem dX2_makeByOthers_54 : decode cX2_makeByOthers 54 = .ok (.iadd, 1) := by decide +kernel
theorem dX2_makeByOthers_55 : decode cX2_makeByOthers 55 = .ok (.iaload, 1) := by decide +kernel
theorem dX2_makeByOthers_56 : decode cX2_makeByOthers 56 = .ok (.aload_n 0, 1) := by decide +kernel
theorem dX2_makeByOthers_57 : decode cX2_makeByOthers 57 = .ok (.getfield 7, 3) := by decide +kernel
theorem dX2_makeByOthers_60 : decode cX2_makeByOthers 60 = .ok (.iload 4, 2) := by decide +kernel
theorem dX2_makeByOthers_62 : decode cX2_makeByOthers 62 = .ok (.iload 5, 2) := by decide +kernel
theorem dX2_makeByOthers_64 : decode cX2_makeByOthers 64 = .ok (.iadd, 1) := by decide +kernel
theorem dX2_makeByOthers_65 : decode cX2_makeByOthers 65 = .ok (.iaload, 1) := by decide +kernel
theorem dX2_makeByOthers_66 : decode cX2_makeByOthers 66 = .ok (.ixor, 1) := by decide +kernel
theorem dX2_makeByOthers_67 : decode cX2_makeByOthers 67 = .ok (.iastore, 1) := by decide +kernel
theorem dX2_makeByOthers_68 : decode cX2_makeByOthers 68 = .ok (.iinc 5 1, 3) := by decide +kernel
theorem dX2_makeByOthers_71 : decode cX2_makeByOthers 71 = .ok (.goto (-37), 3) := by decide +kernel
theorem dX2_makeByOthers_74 : decode cX2_makeByOthers 74 = .ok (.aload_n 0, 1) := by decide +kernel
theorem dX2_makeByOthers_75 : decode cX2_makeByOthers 75 = .ok (.iload_n 1, 1) := by decide +kernel
theorem dX2_makeByOthers_76 : decode cX2_makeByOthers 76 = .ok (.iload_n 2, 1) := by decide +kernel
theorem dX2_makeByOthers_77 : decode cX2_makeByOthers 77 = .ok (.invokevirtual 45, 3) := by decide +kernel
theorem dX2_makeByOthers_80 : decode cX2_makeByOthers 80 = .ok (.return_, 1) := by decide +kernel
theorem dX2_write_0 : decode cX2_write 0 = .ok (.bipush 24, 2) := by decide +kernel
theorem dX2_write_2 : decode cX2_write 2 = .ok (.iload_n 2, 1) := by decide +kernel
theorem dX2_write_3 : decode cX2_write 3 = .ok (.imul, 1) := by decide +kernel
theorem dX2_write_4 : decode cX2_write 4 = .ok (.bipush 24, 2) := by decide +kernel
theorem dX2_write_6 : decode cX2_write 6 = .ok (.iadd, 1) := by decide +kernel
theorem dX2_write_7 : decode cX2_write 7 = .ok (.istore_n 3, 1) := by decide +kernel
theorem dX2_write_8 : decode cX2_write 8 = .ok (.aload_n 0, 1) := by decide +kernel
theorem dX2_write_9 : decode cX2_write 9 = .ok (.getfield 13, 3) := by decide +kernel
theorem dX2_write_12 : decode cX2_write 12 = .ok (.iload_n 1, 1) := by decide +kernel
theorem dX2_write_13 : decode cX2_write 13 = .ok (.iaload, 1) := by decide +kernel
theorem dX2_write_14 : decode cX2_write 14 = .ok (.istore 4, 2) := by decide +kernel
theorem dX2_write_16 : decode cX2_write 16 = .ok (.iload 4, 2) := by decide +kernel
theorem dX2_write_18 : decode cX2_write 18 = .ok (.iload_n 3, 1) := by decide +kernel
theorem dX2_write_19 : decode cX2_write 19 = .ok (.if_icmp .ge 23, 3) := by decide +kernel
theorem dX2_write_22 : decode cX2_write 22 = .ok (.aload_n 0, 1) := by decide +kernel
theorem dX2_write_23 : decode cX2_write 23 = .ok (.getfield 7, 3) := by decide +kernel
theorem dX2_write_26 : decode cX2_write 26 = .ok (.sipush 1536, 3) := by decide +kernel
theorem dX2_write_29 : decode cX2_write 29 = .ok (.iload_n 1, 1) := by decide +kernel
theorem dX2_write_30 : decode cX2_write 30 = .ok (.imul, 1) := by decide +kernel
theorem dX2_write_31 : decode cX2_write 31 = .ok (.iload 4, 2) := by decide +kernel
theorem dX2_write_33 : decode cX2_write 33 = .ok (.iadd, 1) := by decide +kernel
theorem dX2_write_34 : decode cX2_write 34 = .ok (.iconst 0, 1) := by decide +kernel
theorem dX2_write_35 : decode cX2_write 35 = .ok (.iastore, 1) := by decide +kernel
theorem dX2_write_36 : decode cX2_write 36 = .ok (.iinc 4 1, 3) := by decide +kernel
theorem dX2_write_39 : decode cX2_write 39 = .ok (.goto (-23), 3) := by decide +kernel
theorem dX2_write_42 : decode cX2_write 42 = .ok (.aload_n 0, 1) := by decide +kernel
theorem dX2_write_43 : decode cX2_write 43 = .ok (.getfield 13, 3) := by decide +kernel
theorem dX2_write_46 : decode cX2_write 46 = .ok (.iload_n 1, 1) := by decide +kernel
theorem dX2_write_47 : decode cX2_write 47 = .ok (.aload_n 0, 1) := by decide +kernel
theorem dX2_write_48 : decode cX2_write 48 = .ok (.getfield 13, 3) := by decide +kernel
theorem dX2_write_51 : decode cX2_write 51 = .ok (.iload_n 1, 1) := by decide +kernel
theorem dX2_write_52 : decode cX2_write 52 = .ok (.iaload, 1) := by decide +kernel
theorem dX2_write_53 : decode cX2_write 53 = .ok (.iload_n 3, 1) := by decide +kernel
theorem dX2_write_54 : decode cX2_write 54 = .ok (.if_icmp .ge 7, 3) := by decide +kernel
theorem dX2_write_57 : decode cX2_write 57 = .ok (.iload_n 3, 1) := by decide +kernel
theorem dX2_write_58 : decode cX2_write 58 = .ok (.goto 9, 3) := by decide +kernel
theorem dX2_write_61 : decode cX2_write 61 = .ok (.aload_n 0, 1) := by decide +kernel
theorem dX2_write_62 : decode cX2_write 62 = .ok (.getfield 13, 3) := by decide +kernel
theorem dX2_write_65 : decode cX2_write 65 = .ok (.iload_n 1, 1) := by decide +kernel
theorem dX2_write_66 : decode cX2_write 66 = .ok (.iaload, 1) := by decide +kernel
theorem dX2_write_67 : decode cX2_write 67 = .ok (.iastore, 1) := by decide +kernel
theorem dX2_write_68 : decode cX2_write 68 = .ok (.iconst 0, 1) := by decide +kernel
theorem dX2_write_69 : decode cX2_write 69 = .ok (.istore 4, 2) := by decide +kernel
theorem dX2_write_71 : decode cX2_write 71 = .ok (.iload 4, 2) := by decide +kernel
theorem dX2_write_73 : decode cX2_write 73 = .ok (.bipush 24, 2) := by decide +kernel
theorem dX2_write_75 : decode cX2_write 75 = .ok (.if_icmp .ge 34, 3) := by decide +kernel
theorem dX2_write_78 : decode cX2_write 78 = .ok (.aload_n 0, 1) := by decide +kernel
theorem dX2_write_79 : decode cX2_write 79 = .ok (.getfield 7, 3) := by decide +kernel
theorem dX2_write_82 : decode cX2_write 82 = .ok (.sipush 1536, 3) := by decide +kernel
theorem dX2_write_85 : decode cX2_write 85 = .ok (.iload_n 1, 1) := by decide +kernel
theorem dX2_write_86 : decode cX2_write 86 = .ok (.imul, 1) := by decide +kernel
theorem dX2_write_87 : decode cX2_write 87 = .ok (.bipush 24, 2) := by decide +kernel
theorem dX2_write_89 : decode cX2_write 89 = .ok (.iload_n 2, 1) := by decide +kernel
theorem dX2_write_90 : decode cX2_write 90 = .ok (.imul, 1) := by decide +kernel
theorem dX2_write_91 : decode cX2_write 91 = .ok (.iadd, 1) := by decide +kernel
theorem dX2_write_92 : decode cX2_write 92 = .ok (.iload 4, 2) := by decide +kernel
theorem dX2_write_94 : decode cX2_write 94 = .ok (.iadd, 1) := by decide +kernel
theorem dX2_write_95 : decode cX2_write 95 = .ok (.aload_n 0, 1) := by decide +kernel
theorem dX2_write_96 : decode cX2_write 96 = .ok (.getfield 25, 3) := by decide +kernel
theorem dX2_write_99 : decode cX2_write 99 = .ok (.iload 4, 2) := by decide +kernel
theorem dX2_write_101 : decode cX2_write 101 = .ok (.iaload, 1) := by decide +kernel
theorem dX2_write_102 : decode cX2_write 102 = .ok (.iastore, 1) := by decide +kernel
theorem dX2_write_103 : decode cX2_write 103 = .ok (.iinc 4 1, 3) := by decide +kernel
theorem dX2_write_106 : decode cX2_write 106 = .ok (.goto (-35), 3) := by decide +kernel
theorem dX2_write_109 : decode cX2_write 109 = .ok (.return_, 1) := by decide +kernel
set_option maxRecDepth 20000 in
theorem ggX2_writePlain_X2_finish : GoodIn wsX2_writePlain wsX2_finish := goodIn_r _ [6, 1, 7, 8, 9, 5, 10, 11, 18, 19, 20, 21, 22, 23, 24, 25, 26, 27, 28, 29, 30] (by decide +kernel) (by decide +kernel)
set_option maxRecDepth 20000 in
theorem gX2_writePlain_X2_finish : GoodIn wsX2_writePlain (wsV RX2 45 RX2 yX2_finish wsX2_finish) := goodIn_app (goodIn_of _ (by decide +kernel)) ggX2_writePlain_X2_finish
set_option maxRecDepth 20000 in
theorem ggX2_writePlain_X2_write : GoodIn wsX2_writePlain wsX2_write := goodIn_r _ [15, 16, 17, 1, 18, 19, 20, 21, 22, 23, 24, 25, 26, 27, 28, 29, 30] (by decide +kernel) (by decide +kernel)
set_option maxRecDepth 20000 in
theorem gX2_writePlain_X2_write : GoodIn wsX2_writePlain (wsV RX2 49 RX2 yX2_write wsX2_write) := goodIn_app (goodIn_of _ (by decide +kernel)) ggX2_writePlain_X2_write
theorem dX2_writePlain_0 : decode cX2_writePlain 0 = .ok (.iconst 2, 1) := by decide +kernel
theorem dX2_writePlain_1 : decode cX2_writePlain 1 = .ok (.istore 4, 2) := by decide +kernel
theorem dX2_writePlain_3 : decode cX2_writePlain 3 = .ok (.iload 4, 2) := by decide +kernel
theorem dX2_writePlain_5 : decode cX2_writePlain 5 = .ok (.bipush 20, 2) := by decide +kernel
theorem dX2_writePlain_7 : decode cX2_writePlain 7 = .ok (.if_icmp .ge 17, 3) := by decide +kernel
theorem dX2_writePlain_10 : decode cX2_writePlain 10 = .ok (.aload_n 0, 1) := by decide +kernel
theorem dX2_writePlain_11 : decode cX2_writePlain 11 = .ok (.getfield 25, 3) := by decide +kernel
theorem dX2_writePlain_14 : decode cX2_writePlain 14 = .ok (.iload 4, 2) := by decide +kernel
theorem dX2_writePlain_16 : decode cX2_writePlain 16 = .ok (.iconst 0, 1) := by decide +kernel
theorem dX2_writePlain_17 : decode cX2_writePlain 17 = .ok (.iastore, 1) := by decide +kernel
theorem dX2_writePlain_18 : decode cX2_writePlain 18 = .ok (.iinc 4 1, 3) := by decide +kernel
theorem dX2_writePlain_21 : decode cX2_writePlain 21 = .ok (.goto (-18), 3) := by decide +kernel
theorem dX2_writePlain_24 : decode cX2_writePlain 24 = .ok (.aload_n 0, 1) := by decide +kernel
theorem dX2_writePlain_25 : decode cX2_writePlain 25 = .ok (.getfield 25, 3) := by decide +kernel
theorem dX2_writePlain_28 : decode cX2_writePlain 28 = .ok (.iconst 2, 1) := by decide +kernel
theorem dX2_writePlain_29 : decode cX2_writePlain 29 = .ok (.iload_n 3, 1) := by decide +kernel
theorem dX2_writePlain_30 : decode cX2_writePlain 30 = .ok (.iastore, 1) := by decide +kernel
theorem dX2_writePlain_31 : decode cX2_writePlain 31 = .ok (.aload_n 0, 1) := by decide +kernel
theorem dX2_writePlain_32 : decode cX2_writePlain 32 = .ok (.iload_n 1, 1) := by decide +kernel
theorem dX2_writePlain_33 : decode cX2_writePlain 33 = .ok (.iload_n 2, 1) := by decide +kernel
theorem dX2_writePlain_34 : decode cX2_writePlain 34 = .ok (.invokevirtual 45, 3) := by decide +kernel
theorem dX2_writePlain_37 : decode cX2_writePlain 37 = .ok (.aload_n 0, 1) := by decide +kernel
theorem dX2_writePlain_38 : decode cX2_writePlain 38 = .ok (.iload_n 1, 1) := by decide +kernel
theorem dX2_writePlain_39 : decode cX2_writePlain 39 = .ok (.iload_n 2, 1) := by decide +kernel
theorem dX2_writePlain_40 : decode cX2_writePlain 40 = .ok (.invokevirtual 49, 3) := by decide +kernel
theorem dX2_writePlain_43 : decode cX2_writePlain 43 = .ok (.return_, 1) := by decide +kernel
set_option maxRecDepth 20000 in
theorem ggX2_writeSum_X2_makeByOthers : GoodIn wsX2_writeSum wsX2_makeByOthers := goodIn_r _ [5, 6, 7, 8, 9, 10, 4, 11, 12, 13, 14, 15, 16, 22, 23, 24, 25, 26, 27, 28, 29, 30, 31, 32, 33, 34] (by decide +kernel) (by decide +kernel)
set_option maxRecDepth 20000 in
theorem gX2_writeSum_X2_makeByOthers : GoodIn wsX2_writeSum (wsV RX2 52 RX2 yX2_makeByOthers wsX2_makeByOthers) := goodIn_app (goodIn_of _ (by decide +kernel)) ggX2_writeSum_X2_makeByOthers
set_option maxRecDepth 20000 in
theorem ggX2_writeSum_X2_write : GoodIn wsX2_writeSum wsX2_write := goodIn_r _ [20, 21, 7, 6, 22, 23, 24, 25, 26, 27, 28, 29, 30, 31, 32, 33, 34] (by decide +kernel) (by decide +kernel)
set_option maxRecDepth 20000 in
theorem gX2_writeSum_X2_write : GoodIn wsX2_writeSum (wsV RX2 49 RX2 yX2_write wsX2_write) := goodIn_app (goodIn_of _ (by decide +kernel)) ggX2_writeSum_X2_write
theorem dX2_writeSum_0 : decode cX2_writeSum 0 = .ok (.aload_n 0, 1) := by decide +kernel
theorem dX2_writeSum_1 : decode cX2_writeSum 1 = .ok (.iload_n 1, 1) := by decide +kernel
theorem dX2_writeSum_2 : decode cX2_writeSum 2 = .ok (.iconst 3, 1) := by decide +kernel
theorem dX2_writeSum_3 : decode cX2_writeSum 3 = .ok (.irem, 1) := by decide +kernel
theorem dX2_writeSum_4 : decode cX2_writeSum 4 = .ok (.iload_n 1, 1) := by decide +kernel
theorem dX2_writeSum_5 : decode cX2_writeSum 5 = .ok (.invokevirtual 52, 3) := by decide +kernel
theorem dX2_writeSum_8 : decode cX2_writeSum 8 = .ok (.aload_n 0, 1) := by decide +kernel
theorem dX2_writeSum_9 : decode cX2_writeSum 9 = .ok (.iload_n 1, 1) := by decide +kernel
theorem dX2_writeSum_10 : decode cX2_writeSum 10 = .ok (.iconst 3, 1) := by decide +kernel
theorem dX2_writeSum_11 : decode cX2_writeSum 11 = .ok (.irem, 1) := by decide +kernel
theorem dX2_writeSum_12 : decode cX2_writeSum 12 = .ok (.iload_n 1, 1) := by decide +kernel
theorem dX2_writeSum_13 : decode cX2_writeSum 13 = .ok (.invokevirtual 49, 3) := by decide +kernel
theorem dX2_writeSum_16 : decode cX2_writeSum 16 = .ok (.return_, 1) := by decide +kernel
set_option maxRecDepth 20000 in
theorem ggX2_read_X2_isGood : GoodIn wsX2_read wsX2_isGood := goodIn_r _ [7, 8, 2, 9, 10, 11, 6, 12, 13, 26, 27, 28, 29, 30, 31, 32, 33, 34, 35, 36, 37, 38] (by decide +kernel) (by decide +kernel)
set_option maxRecDepth 20000 in
theorem gX2_read_X2_isGood : GoodIn wsX2_read (wsV RX2 41 RX2 yX2_isGood wsX2_isGood) := goodIn_app (goodIn_of _ (by decide +kernel)) ggX2_read_X2_isGood
set_option maxRecDepth 20000 in
theorem ggX2_read_X2_othersGood : GoodIn wsX2_read wsX2_othersGood := goodIn_r _ [17, 3, 4, 5, 6, 7, 8, 2, 9, 10, 11, 12, 13, 26, 27, 28, 29, 30, 31, 32, 33, 34, 35, 36, 37, 38] (by decide +kernel) (by decide +kernel)
set_option maxRecDepth 20000 in
theorem gX2_read_X2_othersGood : GoodIn wsX2_read (wsV RX2 55 RX2 yX2_othersGood wsX2_othersGood) := goodIn_app (goodIn_of _ (by decide +kernel)) ggX2_read_X2_othersGood
set_option maxRecDepth 20000 in
theorem ggX2_read_X2_makeByOthers : GoodIn wsX2_read wsX2_makeByOthers := goodIn_r _ [21, 1, 2, 22, 23, 24, 6, 25, 9, 10, 11, 12, 13, 26, 27, 28, 29, 30, 31, 32, 33, 34, 35, 36, 37, 38] (by decide +kernel) (by decide +kernel)
set_option maxRecDepth 20000 in
theorem gX2_read_X2_makeByOthers : GoodIn wsX2_read (wsV RX2 52 RX2 yX2_makeByOthers wsX2_makeByOthers) := goodIn_app (goodIn_of _ (by decide +kernel)) ggX2_read_X2_makeByOthers
theorem dX2_read_0 : decode cX2_read 0 = .ok (.aload_n 0, 1) := by decide +kernel
theorem dX2_read_1 : decode cX2_read 1 = .ok (.iload_n 1, 1) := by decide +kernel
theorem dX2_read_2 : decode cX2_read 2 = .ok (.iload_n 2, 1) := by decide +kernel
theorem dX2_read_3 : decode cX2_read 3 = .ok (.invokevirtual 41, 3) := by decide +kernel
theorem dX2_read_6 : decode cX2_read 6 = .ok (.ifCond .eq 42, 3) := by decide +kernel
theorem dX2_read_9 : decode cX2_read 9 = .ok (.iconst 0, 1) := by decide +kernel
theorem dX2_read_10 : decode cX2_read 10 = .ok (.istore_n 3, 1) := by decide +kernel
theorem dX2_read_11 : decode cX2_read 11 = .ok (.iload_n 3, 1) := by decide +kernel
theorem dX2_read_12 : decode cX2_read 12 = .ok (.bipush 24, 2) := by decide +kernel
theorem dX2_read_14 : decode cX2_read 14 = .ok (.if_icmp .ge 32, 3) := by decide +kernel
theorem dX2_read_17 : decode cX2_read 17 = .ok (.aload_n 0, 1) := by decide +kernel
theorem dX2_read_18 : decode cX2_read 18 = .ok (.getfield 25, 3) := by decide +kernel
theorem dX2_read_21 : decode cX2_read 21 = .ok (.iload_n 3, 1) := by decide +kernel
theorem dX2_read_22 : decode cX2_read 22 = .ok (.aload_n 0, 1) := by decide +kernel
theorem dX2_read_23 : decode cX2_read 23 = .ok (.getfield 7, 3) := by decide +kernel
theorem dX2_read_26 : decode cX2_read 26 = .ok (.sipush 1536, 3) := by decide +kernel
theorem dX2_read_29 : decode cX2_read 29 = .ok (.iload_n 1, 1) := by decide +kernel
theorem dX2_read_30 : decode cX2_read 30 = .ok (.imul, 1) := by decide +kernel
theorem dX2_read_31 : decode cX2_read 31 = .ok (.bipush 24, 2) := by decide +kernel
theorem dX2_read_33 : decode cX2_read 33 = .ok (.iload_n 2, 1) := by decide +kernel
theorem dX2_read_34 : decode cX2_read 34 = .ok (.imul, 1) := by decide +kernel
theorem dX2_read_35 : decode cX2_read 35 = .ok (.iadd, 1) := by decide +kernel
theorem dX2_read_36 : decode cX2_read 36 = .ok (.iload_n 3, 1) := by decide +kernel
theorem dX2_read_37 : decode cX2_read 37 = .ok (.iadd, 1) := by decide +kernel
theorem dX2_read_38 : decode cX2_read 38 = .ok (.iaload, 1) := by decide +kernel
theorem dX2_read_39 : decode cX2_read 39 = .ok (.iastore, 1) := by decide +kernel
theorem dX2_read_40 : decode cX2_read 40 = .ok (.iinc 3 1, 3) := by decide +kernel
theorem dX2_read_43 : decode cX2_read 43 = .ok (.goto (-32), 3) := by decide +kernel
theorem dX2_read_46 : decode cX2_read 46 = .ok (.iconst 1, 1) := by decide +kernel
theorem dX2_read_47 : decode cX2_read 47 = .ok (.ireturn, 1) := by decide +kernel
theorem dX2_read_48 : decode cX2_read 48 = .ok (.aload_n 0, 1) := by decide +kernel
theorem dX2_read_49 : decode cX2_read 49 = .ok (.iload_n 1, 1) := by decide +kernel
theorem dX2_read_50 : decode cX2_read 50 = .ok (.iload_n 2, 1) := by decide +kernel
theorem dX2_read_51 : decode cX2_read 51 = .ok (.invokevirtual 55, 3) := by decide +kernel
theorem dX2_read_54 : decode cX2_read 54 = .ok (.istore_n 3, 1) := by decide +kernel
theorem dX2_read_55 : decode cX2_read 55 = .ok (.iload_n 3, 1) := by decide +kernel
theorem dX2_read_56 : decode cX2_read 56 = .ok (.ifCond .eq 9, 3) := by decide +kernel
theorem dX2_read_59 : decode cX2_read 59 = .ok (.aload_n 0, 1) := by decide +kernel
theorem dX2_read_60 : decode cX2_read 60 = .ok (.iload_n 1, 1) := by decide +kernel
theorem dX2_read_61 : decode cX2_read 61 = .ok (.iload_n 2, 1) := by decide +kernel
theorem dX2_read_62 : decode cX2_read 62 = .ok (.invokevirtual 52, 3) := by decide +kernel
theorem dX2_read_65 : decode cX2_read 65 = .ok (.iload_n 3, 1) := by decide +kernel
theorem dX2_read_66 : decode cX2_read 66 = .ok (.ireturn, 1) := by decide +kernel
theorem dX2_fileOf_0 : decode cX2_fileOf 0 = .ok (.iload_n 0, 1) := by decide +kernel
theorem dX2_fileOf_1 : decode cX2_fileOf 1 = .ok (.iconst 2, 1) := by decide +kernel
theorem dX2_fileOf_2 : decode cX2_fileOf 2 = .ok (.idiv, 1) := by decide +kernel
theorem dX2_fileOf_3 : decode cX2_fileOf 3 = .ok (.iconst 1, 1) := by decide +kernel
theorem dX2_fileOf_4 : decode cX2_fileOf 4 = .ok (.iadd, 1) := by decide +kernel
theorem dX2_fileOf_5 : decode cX2_fileOf 5 = .ok (.iload_n 0, 1) := by decide +kernel
theorem dX2_fileOf_6 : decode cX2_fileOf 6 = .ok (.iconst 2, 1) := by decide +kernel
theorem dX2_fileOf_7 : decode cX2_fileOf 7 = .ok (.irem, 1) := by decide +kernel
theorem dX2_fileOf_8 : decode cX2_fileOf 8 = .ok (.iadd, 1) := by decide +kernel
theorem dX2_fileOf_9 : decode cX2_fileOf 9 = .ok (.iconst 3, 1) := by decide +kernel
theorem dX2_fileOf_10 : decode cX2_fileOf 10 = .ok (.irem, 1) := by decide +kernel
theorem dX2_fileOf_11 : decode cX2_fileOf 11 = .ok (.ireturn, 1) := by decide +kernel
set_option maxRecDepth 20000 in
theorem ggX2_mend_X2_isGood : GoodIn wsX2_mend wsX2_isGood := goodIn_r _ [6, 7, 8, 9, 10, 11, 5, 12, 13, 31, 32, 33, 34, 35, 36, 37, 38, 39, 40, 41, 42, 43] (by decide +kernel) (by decide +kernel)
set_option maxRecDepth 20000 in
theorem gX2_mend_X2_isGood : GoodIn wsX2_mend (wsV RX2 41 RX2 yX2_isGood wsX2_isGood) := goodIn_app (goodIn_of _ (by decide +kernel)) ggX2_mend_X2_isGood
set_option maxRecDepth 20000 in
theorem ggX2_mend_X2_othersGood : GoodIn wsX2_mend wsX2_othersGood := goodIn_r _ [17, 2, 3, 4, 5, 6, 7, 8, 9, 10, 11, 12, 13, 31, 32, 33, 34, 35, 36, 37, 38, 39, 40, 41, 42, 43] (by decide +kernel) (by decide +kernel)
set_option maxRecDepth 20000 in
theorem gX2_mend_X2_othersGood : GoodIn wsX2_mend (wsV RX2 55 RX2 yX2_othersGood wsX2_othersGood) := goodIn_app (goodIn_of _ (by decide +kernel)) ggX2_mend_X2_othersGood
set_option maxRecDepth 20000 in
theorem ggX2_mend_X2_makeByOthers : GoodIn wsX2_mend wsX2_makeByOthers := goodIn_r _ [21, 22, 8, 23, 24, 25, 5, 26, 9, 10, 11, 12, 13, 31, 32, 33, 34, 35, 36, 37, 38, 39, 40, 41, 42, 43] (by decide +kernel) (by decide +kernel)
set_option maxRecDepth 20000 in
theorem gX2_mend_X2_makeByOthers : GoodIn wsX2_mend (wsV RX2 52 RX2 yX2_makeByOthers wsX2_makeByOthers) := goodIn_app (goodIn_of _ (by decide +kernel)) ggX2_mend_X2_makeByOthers
set_option maxRecDepth 20000 in
theorem ggX2_mend_X2_write : GoodIn wsX2_mend wsX2_write := goodIn_r _ [30, 7, 8, 22, 31, 32, 33, 34, 35, 36, 37, 38, 39, 40, 41, 42, 43] (by decide +kernel) (by decide +kernel)
set_option maxRecDepth 20000 in
theorem gX2_mend_X2_write : GoodIn wsX2_mend (wsV RX2 49 RX2 yX2_write wsX2_write) := goodIn_app (goodIn_of _ (by decide +kernel)) ggX2_mend_X2_write
theorem dX2_mend_0 : decode cX2_mend 0 = .ok (.aload_n 0, 1) := by decide +kernel
theorem dX2_mend_1 : decode cX2_mend 1 = .ok (.iload_n 1, 1) := by decide +kernel
theorem dX2_mend_2 : decode cX2_mend 2 = .ok (.iload_n 2, 1) := by decide +kernel
theorem dX2_mend_3 : decode cX2_mend 3 = .ok (.invokevirtual 41, 3) := by decide +kernel
theorem dX2_mend_6 : decode cX2_mend 6 = .ok (.ifCond .ne 16, 3) := by decide +kernel
theorem dX2_mend_9 : decode cX2_mend 9 = .ok (.aload_n 0, 1) := by decide +kernel
theorem dX2_mend_10 : decode cX2_mend 10 = .ok (.iload_n 1, 1) := by decide +kernel
theorem dX2_mend_11 : decode cX2_mend 11 = .ok (.iload_n 2, 1) := by decide +kernel
theorem dX2_mend_12 : decode cX2_mend 12 = .ok (.invokevirtual 55, 3) := by decide +kernel
theorem dX2_mend_15 : decode cX2_mend 15 = .ok (.ifCond .eq 7, 3) := by decide +kernel
theorem dX2_mend_18 : decode cX2_mend 18 = .ok (.iconst 1, 1) := by decide +kernel
theorem dX2_mend_19 : decode cX2_mend 19 = .ok (.goto 4, 3) := by decide +kernel
theorem dX2_mend_22 : decode cX2_mend 22 = .ok (.iconst 0, 1) := by decide +kernel
theorem dX2_mend_23 : decode cX2_mend 23 = .ok (.istore_n 3, 1) := by decide +kernel
theorem dX2_mend_24 : decode cX2_mend 24 = .ok (.iload_n 3, 1) := by decide +kernel
theorem dX2_mend_25 : decode cX2_mend 25 = .ok (.ifCond .eq 25, 3) := by decide +kernel
theorem dX2_mend_28 : decode cX2_mend 28 = .ok (.aload_n 0, 1) := by decide +kernel
theorem dX2_mend_29 : decode cX2_mend 29 = .ok (.iload_n 1, 1) := by decide +kernel
theorem dX2_mend_30 : decode cX2_mend 30 = .ok (.iload_n 2, 1) := by decide +kernel
theorem dX2_mend_31 : decode cX2_mend 31 = .ok (.invokevirtual 52, 3) := by decide +kernel
theorem dX2_mend_34 : decode cX2_mend 34 = .ok (.aload_n 0, 1) := by decide +kernel
theorem dX2_mend_35 : decode cX2_mend 35 = .ok (.iload_n 1, 1) := by decide +kernel
theorem dX2_mend_36 : decode cX2_mend 36 = .ok (.iload_n 2, 1) := by decide +kernel
theorem dX2_mend_37 : decode cX2_mend 37 = .ok (.invokevirtual 49, 3) := by decide +kernel
theorem dX2_mend_40 : decode cX2_mend 40 = .ok (.aload_n 0, 1) := by decide +kernel
theorem dX2_mend_41 : decode cX2_mend 41 = .ok (.dup, 1) := by decide +kernel
theorem dX2_mend_42 : decode cX2_mend 42 = .ok (.getfield 58, 3) := by decide +kernel
theorem dX2_mend_45 : decode cX2_mend 45 = .ok (.iconst 1, 1) := by decide +kernel
theorem dX2_mend_46 : decode cX2_mend 46 = .ok (.iadd, 1) := by decide +kernel
theorem dX2_mend_47 : decode cX2_mend 47 = .ok (.putfield 58, 3) := by decide +kernel
theorem dX2_mend_50 : decode cX2_mend 50 = .ok (.iload_n 3, 1) := by decide +kernel
theorem dX2_mend_51 : decode cX2_mend 51 = .ok (.ireturn, 1) := by decide +kernel
set_option maxRecDepth 20000 in
theorem ggX2_feed_X2_in : GoodIn wsX2_feed wsX2_in := goodIn_r _ [7] (by decide +kernel) (by decide +kernel)
set_option maxRecDepth 20000 in
theorem gX2_feed_X2_in : GoodIn wsX2_feed (va_wsS RX2 61 yX2_in wsX2_in) := goodIn_app (goodIn_of _ (by decide +kernel)) ggX2_feed_X2_in
theorem dX2_feed_0 : decode cX2_feed 0 = .ok (.aload_n 0, 1) := by decide +kernel
theorem dX2_feed_1 : decode cX2_feed 1 = .ok (.iconst 0, 1) := by decide +kernel
theorem dX2_feed_2 : decode cX2_feed 2 = .ok (.putfield 32, 3) := by decide +kernel
theorem dX2_feed_5 : decode cX2_feed 5 = .ok (.iload_n 1, 1) := by decide +kernel
theorem dX2_feed_6 : decode cX2_feed 6 = .ok (.iconst 0, 1) := by decide +kernel
theorem dX2_feed_7 : decode cX2_feed 7 = .ok (.sipush 255, 3) := by decide +kernel
theorem dX2_feed_10 : decode cX2_feed 10 = .ok (.invokestatic 61, 3) := by decide +kernel
theorem dX2_feed_13 : decode cX2_feed 13 = .ok (.ifCond .eq 12, 3) := by decide +kernel
theorem dX2_feed_16 : decode cX2_feed 16 = .ok (.aload_n 0, 1) := by decide +kernel
theorem dX2_feed_17 : decode cX2_feed 17 = .ok (.getfield 65, 3) := by decide +kernel
theorem dX2_feed_20 : decode cX2_feed 20 = .ok (.bipush 16, 2) := by decide +kernel
theorem dX2_feed_22 : decode cX2_feed 22 = .ok (.if_icmp .ne 5, 3) := by decide +kernel
theorem dX2_feed_25 : decode cX2_feed 25 = .ok (.iconst 0, 1) := by decide +kernel
theorem dX2_feed_26 : decode cX2_feed 26 = .ok (.ireturn, 1) := by decide +kernel
theorem dX2_feed_27 : decode cX2_feed 27 = .ok (.aload_n 0, 1) := by decide +kernel
theorem dX2_feed_28 : decode cX2_feed 28 = .ok (.getfield 22, 3) := by decide +kernel
theorem dX2_feed_31 : decode cX2_feed 31 = .ok (.aload_n 0, 1) := by decide +kernel
theorem dX2_feed_32 : decode cX2_feed 32 = .ok (.getfield 65, 3) := by decide +kernel
theorem dX2_feed_35 : decode cX2_feed 35 = .ok (.iload_n 1, 1) := by decide +kernel
theorem dX2_feed_36 : decode cX2_feed 36 = .ok (.iastore, 1) := by decide +kernel
theorem dX2_feed_37 : decode cX2_feed 37 = .ok (.aload_n 0, 1) := by decide +kernel
theorem dX2_feed_38 : decode cX2_feed 38 = .ok (.dup, 1) := by decide +kernel
theorem dX2_feed_39 : decode cX2_feed 39 = .ok (.getfield 65, 3) := by decide +kernel
theorem dX2_feed_42 : decode cX2_feed 42 = .ok (.iconst 1, 1) := by decide +kernel
theorem dX2_feed_43 : decode cX2_feed 43 = .ok (.iadd, 1) := by decide +kernel
theorem dX2_feed_44 : decode cX2_feed 44 = .ok (.putfield 65, 3) := by decide +kernel
theorem dX2_feed_47 : decode cX2_feed 47 = .ok (.iconst 1, 1) := by decide +kernel
theorem dX2_feed_48 : decode cX2_feed 48 = .ok (.ireturn, 1) := by decide +kernel
set_option maxRecDepth 20000 in
theorem ggX2_writeRow_X2_fileOf : GoodIn wsX2_writeRow wsX2_fileOf := goodIn_r _ [7] (by decide +kernel) (by decide +kernel)
set_option maxRecDepth 20000 in
theorem gX2_writeRow_X2_fileOf : GoodIn wsX2_writeRow (va_wsS RX2 68 yX2_fileOf wsX2_fileOf) := goodIn_app (goodIn_of _ (by decide +kernel)) ggX2_writeRow_X2_fileOf
set_option maxRecDepth 20000 in
theorem ggX2_writeRow_X2_finish : GoodIn wsX2_writeRow wsX2_finish := goodIn_r _ [11, 1, 12, 13, 14, 6, 15, 16, 23, 24, 25, 26, 27, 28, 29, 30, 31, 32, 33, 34, 35] (by decide +kernel) (by decide +kernel)
set_option maxRecDepth 20000 in
theorem gX2_writeRow_X2_finish : GoodIn wsX2_writeRow (wsV RX2 45 RX2 yX2_finish wsX2_finish) := goodIn_app (goodIn_of _ (by decide +kernel)) ggX2_writeRow_X2_finish
set_option maxRecDepth 20000 in
theorem ggX2_writeRow_X2_write : GoodIn wsX2_writeRow wsX2_write := goodIn_r _ [20, 21, 22, 1, 23, 24, 25, 26, 27, 28, 29, 30, 31, 32, 33, 34, 35] (by decide +kernel) (by decide +kernel)
set_option maxRecDepth 20000 in
theorem gX2_writeRow_X2_write : GoodIn wsX2_writeRow (wsV RX2 49 RX2 yX2_write wsX2_write) := goodIn_app (goodIn_of _ (by decide +kernel)) ggX2_writeRow_X2_write
theorem dX2_writeRow_0 : decode cX2_writeRow 0 = .ok (.iconst 0, 1) := by decide +kernel
theorem dX2_writeRow_1 : decode cX2_writeRow 1 = .ok (.istore_n 3, 1) := by decide +kernel
theorem dX2_writeRow_2 : decode cX2_writeRow 2 = .ok (.iload_n 3, 1) := by decide +kernel
theorem dX2_writeRow_3 : decode cX2_writeRow 3 = .ok (.bipush 16, 2) := by decide +kernel
theorem dX2_writeRow_5 : decode cX2_writeRow 5 = .ok (.if_icmp .ge 35, 3) := by decide +kernel
theorem dX2_writeRow_8 : decode cX2_writeRow 8 = .ok (.aload_n 0, 1) := by decide +kernel
theorem dX2_writeRow_9 : decode cX2_writeRow 9 = .ok (.getfield 25, 3) := by decide +kernel
theorem dX2_writeRow_12 : decode cX2_writeRow 12 = .ok (.iconst 4, 1) := by decide +kernel
theorem dX2_writeRow_13 : decode cX2_writeRow 13 = .ok (.iload_n 3, 1) := by decide +kernel
theorem dX2_writeRow_14 : decode cX2_writeRow 14 = .ok (.iadd, 1) := by decide +kernel
theorem dX2_writeRow_15 : decode cX2_writeRow 15 = .ok (.iload_n 3, 1) := by decide +kernel
theorem dX2_writeRow_16 : decode cX2_writeRow 16 = .ok (.aload_n 0, 1) := by decide +kernel
theorem dX2_writeRow_17 : decode cX2_writeRow 17 = .ok (.getfield 65, 3) := by decide +kernel
theorem dX2_writeRow_20 : decode cX2_writeRow 20 = .ok (.if_icmp .ge 12, 3) := by decide +kernel
theorem dX2_writeRow_23 : decode cX2_writeRow 23 = .ok (.aload_n 0, 1) := by decide +kernel
theorem dX2_writeRow_24 : decode cX2_writeRow 24 = .ok (.getfield 22, 3) := by decide +kernel
theorem dX2_writeRow_27 : decode cX2_writeRow 27 = .ok (.iload_n 3, 1) := by decide +kernel
theorem dX2_writeRow_28 : decode cX2_writeRow 28 = .ok (.iaload, 1) := by decide +kernel
theorem dX2_writeRow_29 : decode cX2_writeRow 29 = .ok (.goto 4, 3) := by decide +kernel
theorem dX2_writeRow_32 : decode cX2_writeRow 32 = .ok (.iconst 0, 1) := by decide +kernel
theorem dX2_writeRow_33 : decode cX2_writeRow 33 = .ok (.iastore, 1) := by decide +kernel
theorem dX2_writeRow_34 : decode cX2_writeRow 34 = .ok (.iinc 3 1, 3) := by decide +kernel
theorem dX2_writeRow_37 : decode cX2_writeRow 37 = .ok (.goto (-35), 3) := by decide +kernel
theorem dX2_writeRow_40 : decode cX2_writeRow 40 = .ok (.aload_n 0, 1) := by decide +kernel
theorem dX2_writeRow_41 : decode cX2_writeRow 41 = .ok (.getfield 25, 3) := by decide +kernel
theorem dX2_writeRow_44 : decode cX2_writeRow 44 = .ok (.iconst 2, 1) := by decide +kernel
theorem dX2_writeRow_45 : decode cX2_writeRow 45 = .ok (.iload_n 2, 1) := by decide +kernel
theorem dX2_writeRow_46 : decode cX2_writeRow 46 = .ok (.iastore, 1) := by decide +kernel
theorem dX2_writeRow_47 : decode cX2_writeRow 47 = .ok (.aload_n 0, 1) := by decide +kernel
theorem dX2_writeRow_48 : decode cX2_writeRow 48 = .ok (.getfield 25, 3) := by decide +kernel
theorem dX2_writeRow_51 : decode cX2_writeRow 51 = .ok (.iconst 3, 1) := by decide +kernel
theorem dX2_writeRow_52 : decode cX2_writeRow 52 = .ok (.aload_n 0, 1) := by decide +kernel
theorem dX2_writeRow_53 : decode cX2_writeRow 53 = .ok (.getfield 65, 3) := by decide +kernel
theorem dX2_writeRow_56 : decode cX2_writeRow 56 = .ok (.iastore, 1) := by decide +kernel
theorem dX2_writeRow_57 : decode cX2_writeRow 57 = .ok (.aload_n 0, 1) := by decide +kernel
theorem dX2_writeRow_58 : decode cX2_writeRow 58 = .ok (.iload_n 1, 1) := by decide +kernel
theorem dX2_writeRow_59 : decode cX2_writeRow 59 = .ok (.invokestatic 68, 3) := by decide +kernel
theorem dX2_writeRow_62 : decode cX2_writeRow 62 = .ok (.iload_n 1, 1) := by decide +kernel
theorem dX2_writeRow_63 : decode cX2_writeRow 63 = .ok (.iconst 2, 1) := by decide +kernel
theorem dX2_writeRow_64 : decode cX2_writeRow 64 = .ok (.idiv, 1) := by decide +kernel
theorem dX2_writeRow_65 : decode cX2_writeRow 65 = .ok (.invokevirtual 45, 3) := by decide +kernel
theorem dX2_writeRow_68 : decode cX2_writeRow 68 = .ok (.aload_n 0, 1) := by decide +kernel
theorem dX2_writeRow_69 : decode cX2_writeRow 69 = .ok (.iload_n 1, 1) := by decide +kernel
theorem dX2_writeRow_70 : decode cX2_writeRow 70 = .ok (.invokestatic 68, 3) := by decide +kernel
theorem dX2_writeRow_73 : decode cX2_writeRow 73 = .ok (.iload_n 1, 1) := by decide +kernel
theorem dX2_writeRow_74 : decode cX2_writeRow 74 = .ok (.iconst 2, 1) := by decide +kernel
theorem dX2_writeRow_75 : decode cX2_writeRow 75 = .ok (.idiv, 1) := by decide +kernel
theorem dX2_writeRow_76 : decode cX2_writeRow 76 = .ok (.invokevirtual 49, 3) := by decide +kernel
theorem dX2_writeRow_79 : decode cX2_writeRow 79 = .ok (.return_, 1) := by decide +kernel
set_option maxRecDepth 20000 in
theorem ggX2_row_X2_in : GoodIn wsX2_row wsX2_in := goodIn_r _ [9] (by decide +kernel) (by decide +kernel)
set_option maxRecDepth 20000 in
theorem gX2_row_X2_in : GoodIn wsX2_row (va_wsS RX2 61 yX2_in wsX2_in) := goodIn_app (goodIn_of _ (by decide +kernel)) ggX2_row_X2_in
set_option maxRecDepth 20000 in
theorem ggX2_row_X2_stripes : GoodIn wsX2_row wsX2_stripes := goodIn_r _ [13, 14, 53, 54, 55, 56, 57, 58, 59, 60, 61, 62, 63, 64, 65] (by decide +kernel) (by decide +kernel)
set_option maxRecDepth 20000 in
theorem gX2_row_X2_stripes : GoodIn wsX2_row (wsV RX2 76 RX2 yX2_stripes wsX2_stripes) := goodIn_app (goodIn_of _ (by decide +kernel)) ggX2_row_X2_stripes
set_option maxRecDepth 20000 in
theorem ggX2_row_X2_fileOf : GoodIn wsX2_row wsX2_fileOf := goodIn_r _ [17] (by decide +kernel) (by decide +kernel)
set_option maxRecDepth 20000 in
theorem gX2_row_X2_fileOf : GoodIn wsX2_row (va_wsS RX2 68 yX2_fileOf wsX2_fileOf) := goodIn_app (goodIn_of _ (by decide +kernel)) ggX2_row_X2_fileOf
set_option maxRecDepth 20000 in
theorem ggX2_row_X2_isGood : GoodIn wsX2_row wsX2_isGood := goodIn_r _ [21, 14, 4, 22, 23, 24, 8, 25, 26, 53, 54, 55, 56, 57, 58, 59, 60, 61, 62, 63, 64, 65] (by decide +kernel) (by decide +kernel)
set_option maxRecDepth 20000 in
theorem gX2_row_X2_isGood : GoodIn wsX2_row (wsV RX2 41 RX2 yX2_isGood wsX2_isGood) := goodIn_app (goodIn_of _ (by decide +kernel)) ggX2_row_X2_isGood
set_option maxRecDepth 20000 in
theorem ggX2_row_X2_writeRow : GoodIn wsX2_row wsX2_writeRow := goodIn_r _ [30, 31, 3, 32, 15, 16, 8, 17, 33, 34, 35, 36, 22, 23, 24, 25, 26, 37, 38, 39, 40, 14, 4, 53, 54, 55, 56, 57, 58, 59, 60, 61, 62, 63, 64, 65] (by decide +kernel) (by decide +kernel)
set_option maxRecDepth 20000 in
theorem gX2_row_X2_writeRow : GoodIn wsX2_row (wsV RX2 80 RX2 yX2_writeRow wsX2_writeRow) := goodIn_app (goodIn_of _ (by decide +kernel)) ggX2_row_X2_writeRow
set_option maxRecDepth 20000 in
theorem ggX2_row_X2_writePlain : GoodIn wsX2_row wsX2_writePlain := goodIn_r _ [44, 31, 33, 34, 35, 8, 36, 22, 23, 24, 25, 26, 37, 38, 39, 40, 14, 4, 53, 54, 55, 56, 57, 58, 59, 60, 61, 62, 63, 64, 65] (by decide +kernel) (by decide +kernel)
set_option maxRecDepth 20000 in
theorem gX2_row_X2_writePlain : GoodIn wsX2_row (wsV RX2 83 RX2 yX2_writePlain wsX2_writePlain) := goodIn_app (goodIn_of _ (by decide +kernel)) ggX2_row_X2_writePlain
set_option maxRecDepth 20000 in
theorem ggX2_row_X2_writeSum : GoodIn wsX2_row wsX2_writeSum := goodIn_r _ [48, 49, 50, 51, 8, 52, 31, 4, 33, 34, 35, 36, 22, 23, 24, 25, 26, 37, 38, 39, 40, 14, 53, 54, 55, 56, 57, 58, 59, 60, 61, 62, 63, 64, 65] (by decide +kernel) (by decide +kernel)
set_option maxRecDepth 20000 in
theorem gX2_row_X2_writeSum : GoodIn wsX2_row (wsV RX2 87 RX2 yX2_writeSum wsX2_writeSum) := goodIn_app (goodIn_of _ (by decide +kernel)) ggX2_row_X2_writeSum
theorem dX2_row_0 : decode cX2_row 0 = .ok (.aload_n 0, 1) := by decide +kernel
theorem dX2_row_1 : decode cX2_row 1 = .ok (.iconst 0, 1) := by decide +kernel
theorem dX2_row_2 : decode cX2_row 2 = .ok (.putfield 32, 3) := by decide +kernel
theorem dX2_row_5 : decode cX2_row 5 = .ok (.aload_n 0, 1) := by decide +kernel
theorem dX2_row_6 : decode cX2_row 6 = .ok (.getfield 72, 3) := by decide +kernel
theorem dX2_row_9 : decode cX2_row 9 = .ok (.ifCond .ne 20, 3) := by decide +kernel
theorem dX2_row_12 : decode cX2_row 12 = .ok (.aload_n 0, 1) := by decide +kernel
theorem dX2_row_13 : decode cX2_row 13 = .ok (.getfield 65, 3) := by decide +kernel
theorem dX2_row_16 : decode cX2_row 16 = .ok (.ifCond .eq 13, 3) := by decide +kernel
theorem dX2_row_19 : decode cX2_row 19 = .ok (.iload_n 1, 1) := by decide +kernel
theorem dX2_row_20 : decode cX2_row 20 = .ok (.iconst 1, 1) := by decide +kernel
theorem dX2_row_21 : decode cX2_row 21 = .ok (.bipush 100, 2) := by decide +kernel
theorem dX2_row_23 : decode cX2_row 23 = .ok (.invokestatic 61, 3) := by decide +kernel
theorem dX2_row_26 : decode cX2_row 26 = .ok (.ifCond .ne 5, 3) := by decide +kernel
theorem dX2_row_29 : decode cX2_row 29 = .ok (.iconst (-1), 1) := by decide +kernel
theorem dX2_row_30 : decode cX2_row 30 = .ok (.ireturn, 1) := by decide +kernel
theorem dX2_row_31 : decode cX2_row 31 = .ok (.aload_n 0, 1) := by decide +kernel
theorem dX2_row_32 : decode cX2_row 32 = .ok (.invokevirtual 76, 3) := by decide +kernel
theorem dX2_row_35 : decode cX2_row 35 = .ok (.iconst 1, 1) := by decide +kernel
theorem dX2_row_36 : decode cX2_row 36 = .ok (.isub, 1) := by decide +kernel
theorem dX2_row_37 : decode cX2_row 37 = .ok (.istore_n 2, 1) := by decide +kernel
theorem dX2_row_38 : decode cX2_row 38 = .ok (.iconst 0, 1) := by decide +kernel
theorem dX2_row_39 : decode cX2_row 39 = .ok (.istore_n 3, 1) := by decide +kernel
theorem dX2_row_40 : decode cX2_row 40 = .ok (.iload_n 2, 1) := by decide +kernel
theorem dX2_row_41 : decode cX2_row 41 = .ok (.ifCond .lt 79, 3) := by decide +kernel
theorem dX2_row_44 : decode cX2_row 44 = .ok (.iconst 2, 1) := by decide +kernel
theorem dX2_row_45 : decode cX2_row 45 = .ok (.iload_n 2, 1) := by decide +kernel
theorem dX2_row_46 : decode cX2_row 46 = .ok (.imul, 1) := by decide +kernel
theorem dX2_row_47 : decode cX2_row 47 = .ok (.iconst 1, 1) := by decide +kernel
theorem dX2_row_48 : decode cX2_row 48 = .ok (.iadd, 1) := by decide +kernel
theorem dX2_row_49 : decode cX2_row 49 = .ok (.invokestatic 68, 3) := by decide +kernel
theorem dX2_row_52 : decode cX2_row 52 = .ok (.istore 4, 2) := by decide +kernel
theorem dX2_row_54 : decode cX2_row 54 = .ok (.aload_n 0, 1) := by decide +kernel
theorem dX2_row_55 : decode cX2_row 55 = .ok (.iconst 0, 1) := by decide +kernel
theorem dX2_row_56 : decode cX2_row 56 = .ok (.iload_n 2, 1) := by decide +kernel
theorem dX2_row_57 : decode cX2_row 57 = .ok (.invokevirtual 41, 3) := by decide +kernel
theorem dX2_row_60 : decode cX2_row 60 = .ok (.ifCond .eq 25, 3) := by decide +kernel
theorem dX2_row_63 : decode cX2_row 63 = .ok (.aload_n 0, 1) := by decide +kernel
theorem dX2_row_64 : decode cX2_row 64 = .ok (.iconst 1, 1) := by decide +kernel
theorem dX2_row_65 : decode cX2_row 65 = .ok (.iload_n 2, 1) := by decide +kernel
theorem dX2_row_66 : decode cX2_row 66 = .ok (.invokevirtual 41, 3) := by decide +kernel
theorem dX2_row_69 : decode cX2_row 69 = .ok (.ifCond .eq 16, 3) := by decide +kernel
theorem dX2_row_72 : decode cX2_row 72 = .ok (.aload_n 0, 1) := by decide +kernel
theorem dX2_row_73 : decode cX2_row 73 = .ok (.iconst 2, 1) := by decide +kernel
theorem dX2_row_74 : decode cX2_row 74 = .ok (.iload_n 2, 1) := by decide +kernel
theorem dX2_row_75 : decode cX2_row 75 = .ok (.invokevirtual 41, 3) := by decide +kernel
theorem dX2_row_78 : decode cX2_row 78 = .ok (.ifCond .eq 7, 3) := by decide +kernel
theorem dX2_row_81 : decode cX2_row 81 = .ok (.iconst 1, 1) := by decide +kernel
theorem dX2_row_82 : decode cX2_row 82 = .ok (.goto 4, 3) := by decide +kernel
theorem dX2_row_85 : decode cX2_row 85 = .ok (.iconst 0, 1) := by decide +kernel
theorem dX2_row_86 : decode cX2_row 86 = .ok (.istore 5, 2) := by decide +kernel
theorem dX2_row_88 : decode cX2_row 88 = .ok (.iload 5, 2) := by decide +kernel
theorem dX2_row_90 : decode cX2_row 90 = .ok (.ifCond .eq 28, 3) := by decide +kernel
theorem dX2_row_93 : decode cX2_row 93 = .ok (.aload_n 0, 1) := by decide +kernel
theorem dX2_row_94 : decode cX2_row 94 = .ok (.getfield 7, 3) := by decide +kernel
theorem dX2_row_97 : decode cX2_row 97 = .ok (.sipush 1536, 3) := by decide +kernel
theorem dX2_row_100 : decode cX2_row 100 = .ok (.iload 4, 2) := by decide +kernel
theorem dX2_row_102 : decode cX2_row 102 = .ok (.imul, 1) := by decide +kernel
theorem dX2_row_103 : decode cX2_row 103 = .ok (.bipush 24, 2) := by decide +kernel
theorem dX2_row_105 : decode cX2_row 105 = .ok (.iload_n 2, 1) := by decide +kernel
theorem dX2_row_106 : decode cX2_row 106 = .ok (.imul, 1) := by decide +kernel
theorem dX2_row_107 : decode cX2_row 107 = .ok (.iadd, 1) := by decide +kernel
theorem dX2_row_108 : decode cX2_row 108 = .ok (.iconst 2, 1) := by decide +kernel
theorem dX2_row_109 : decode cX2_row 109 = .ok (.iadd, 1) := by decide +kernel
theorem dX2_row_110 : decode cX2_row 110 = .ok (.iaload, 1) := by decide +kernel
theorem dX2_row_111 : decode cX2_row 111 = .ok (.ifCond .ne 7, 3) := by decide +kernel
theorem dX2_row_114 : decode cX2_row 114 = .ok (.iconst 1, 1) := by decide +kernel
theorem dX2_row_115 : decode cX2_row 115 = .ok (.goto 4, 3) := by decide +kernel
theorem dX2_row_118 : decode cX2_row 118 = .ok (.iconst 0, 1) := by decide +kernel
theorem dX2_row_119 : decode cX2_row 119 = .ok (.istore_n 3, 1) := by decide +kernel
theorem dX2_row_120 : decode cX2_row 120 = .ok (.iload_n 3, 1) := by decide +kernel
theorem dX2_row_121 : decode cX2_row 121 = .ok (.ifCond .ne 15, 3) := by decide +kernel
theorem dX2_row_124 : decode cX2_row 124 = .ok (.iload_n 2, 1) := by decide +kernel
theorem dX2_row_125 : decode cX2_row 125 = .ok (.iconst 1, 1) := by decide +kernel
theorem dX2_row_126 : decode cX2_row 126 = .ok (.iadd, 1) := by decide +kernel
theorem dX2_row_127 : decode cX2_row 127 = .ok (.aload_n 0, 1) := by decide +kernel
theorem dX2_row_128 : decode cX2_row 128 = .ok (.getfield 28, 3) := by decide +kernel
theorem dX2_row_131 : decode cX2_row 131 = .ok (.if_icmp .ne 5, 3) := by decide +kernel
theorem dX2_row_134 : decode cX2_row 134 = .ok (.iconst (-1), 1) := by decide +kernel
theorem dX2_row_135 : decode cX2_row 135 = .ok (.ireturn, 1) := by decide +kernel
theorem dX2_row_136 : decode cX2_row 136 = .ok (.iload_n 3, 1) := by decide +kernel
theorem dX2_row_137 : decode cX2_row 137 = .ok (.ifCond .eq 11, 3) := by decide +kernel
theorem dX2_row_140 : decode cX2_row 140 = .ok (.iconst 2, 1) := by decide +kernel
theorem dX2_row_141 : decode cX2_row 141 = .ok (.iload_n 2, 1) := by decide +kernel
theorem dX2_row_142 : decode cX2_row 142 = .ok (.imul, 1) := by decide +kernel
theorem dX2_row_143 : decode cX2_row 143 = .ok (.iconst 1, 1) := by decide +kernel
theorem dX2_row_144 : decode cX2_row 144 = .ok (.iadd, 1) := by decide +kernel
theorem dX2_row_145 : decode cX2_row 145 = .ok (.goto 8, 3) := by decide +kernel
theorem dX2_row_148 : decode cX2_row 148 = .ok (.iconst 2, 1) := by decide +kernel
theorem dX2_row_149 : decode cX2_row 149 = .ok (.iload_n 2, 1) := by decide +kernel
theorem dX2_row_150 : decode cX2_row 150 = .ok (.imul, 1) := by decide +kernel
theorem dX2_row_151 : decode cX2_row 151 = .ok (.iconst 2, 1) := by decide +kernel
theorem dX2_row_152 : decode cX2_row 152 = .ok (.iadd, 1) := by decide +kernel
theorem dX2_row_153 : decode cX2_row 153 = .ok (.istore 4, 2) := by decide +kernel
theorem dX2_row_155 : decode cX2_row 155 = .ok (.aload_n 0, 1) := by decide +kernel
theorem dX2_row_156 : decode cX2_row 156 = .ok (.iload 4, 2) := by decide +kernel
theorem dX2_row_158 : decode cX2_row 158 = .ok (.iload_n 1, 1) := by decide +kernel
theorem dX2_row_159 : decode cX2_row 159 = .ok (.invokevirtual 80, 3) := by decide +kernel
theorem dX2_row_162 : decode cX2_row 162 = .ok (.iload_n 3, 1) := by decide +kernel
theorem dX2_row_163 : decode cX2_row 163 = .ok (.ifCond .ne 18, 3) := by decide +kernel
theorem dX2_row_166 : decode cX2_row 166 = .ok (.aload_n 0, 1) := by decide +kernel
theorem dX2_row_167 : decode cX2_row 167 = .ok (.iload 4, 2) := by decide +kernel
theorem dX2_row_169 : decode cX2_row 169 = .ok (.iconst 1, 1) := by decide +kernel
theorem dX2_row_170 : decode cX2_row 170 = .ok (.iadd, 1) := by decide +kernel
theorem dX2_row_171 : decode cX2_row 171 = .ok (.invokestatic 68, 3) := by decide +kernel
theorem dX2_row_174 : decode cX2_row 174 = .ok (.iload_n 2, 1) := by decide +kernel
theorem dX2_row_175 : decode cX2_row 175 = .ok (.iconst 1, 1) := by decide +kernel
theorem dX2_row_176 : decode cX2_row 176 = .ok (.iadd, 1) := by decide +kernel
theorem dX2_row_177 : decode cX2_row 177 = .ok (.iconst 0, 1) := by decide +kernel
theorem dX2_row_178 : decode cX2_row 178 = .ok (.invokevirtual 83, 3) := by decide +kernel
theorem dX2_row_181 : decode cX2_row 181 = .ok (.aload_n 0, 1) := by decide +kernel
theorem dX2_row_182 : decode cX2_row 182 = .ok (.iload 4, 2) := by decide +kernel
theorem dX2_row_184 : decode cX2_row 184 = .ok (.iconst 2, 1) := by decide +kernel
theorem dX2_row_185 : decode cX2_row 185 = .ok (.idiv, 1) := by decide +kernel
theorem dX2_row_186 : decode cX2_row 186 = .ok (.invokevirtual 87, 3) := by decide +kernel
theorem dX2_row_189 : decode cX2_row 189 = .ok (.aload_n 0, 1) := by decide +kernel
theorem dX2_row_190 : decode cX2_row 190 = .ok (.iconst 0, 1) := by decide +kernel
theorem dX2_row_191 : decode cX2_row 191 = .ok (.putfield 65, 3) := by decide +kernel
theorem dX2_row_194 : decode cX2_row 194 = .ok (.iload 4, 2) := by decide +kernel
theorem dX2_row_196 : decode cX2_row 196 = .ok (.ireturn, 1) := by decide +kernel
set_option maxRecDepth 20000 in
theorem ggX2_find_X2_stripes : GoodIn wsX2_find wsX2_stripes := goodIn_r _ [7, 8, 41, 42, 43, 44, 45, 46, 47, 48, 49, 50, 51, 52, 53] (by decide +kernel) (by decide +kernel)
set_option maxRecDepth 20000 in
theorem gX2_find_X2_stripes : GoodIn wsX2_find (wsV RX2 76 RX2 yX2_stripes wsX2_stripes) := goodIn_app (goodIn_of _ (by decide +kernel)) ggX2_find_X2_stripes
set_option maxRecDepth 20000 in
theorem ggX2_find_X2_in : GoodIn wsX2_find wsX2_in := goodIn_r _ [11] (by decide +kernel) (by decide +kernel)
set_option maxRecDepth 20000 in
theorem gX2_find_X2_in : GoodIn wsX2_find (va_wsS RX2 61 yX2_in wsX2_in) := goodIn_app (goodIn_of _ (by decide +kernel)) ggX2_find_X2_in
set_option maxRecDepth 20000 in
theorem ggX2_find_X2_fileOf : GoodIn wsX2_find wsX2_fileOf := goodIn_r _ [14] (by decide +kernel) (by decide +kernel)
set_option maxRecDepth 20000 in
theorem gX2_find_X2_fileOf : GoodIn wsX2_find (va_wsS RX2 68 yX2_fileOf wsX2_fileOf) := goodIn_app (goodIn_of _ (by decide +kernel)) ggX2_find_X2_fileOf
set_option maxRecDepth 20000 in
theorem ggX2_find_X2_read : GoodIn wsX2_find wsX2_read := goodIn_r _ [18, 2, 19, 20, 21, 22, 6, 23, 8, 24, 25, 26, 27, 28, 29, 30, 31, 32, 33, 34, 35, 36, 37, 38, 39, 40, 41, 42, 43, 44, 45, 46, 47, 48, 49, 50, 51, 52, 53] (by decide +kernel) (by decide +kernel)
set_option maxRecDepth 20000 in
theorem gX2_find_X2_read : GoodIn wsX2_find (wsV RX2 91 RX2 yX2_read wsX2_read) := goodIn_app (goodIn_of _ (by decide +kernel)) ggX2_find_X2_read
theorem dX2_find_0 : decode cX2_find 0 = .ok (.aload_n 0, 1) := by decide +kernel
theorem dX2_find_1 : decode cX2_find 1 = .ok (.iconst 0, 1) := by decide +kernel
theorem dX2_find_2 : decode cX2_find 2 = .ok (.putfield 32, 3) := by decide +kernel
theorem dX2_find_5 : decode cX2_find 5 = .ok (.iload_n 1, 1) := by decide +kernel
theorem dX2_find_6 : decode cX2_find 6 = .ok (.ifCond .lt 37, 3) := by decide +kernel
theorem dX2_find_9 : decode cX2_find 9 = .ok (.iload_n 1, 1) := by decide +kernel
theorem dX2_find_10 : decode cX2_find 10 = .ok (.iconst 2, 1) := by decide +kernel
theorem dX2_find_11 : decode cX2_find 11 = .ok (.idiv, 1) := by decide +kernel
theorem dX2_find_12 : decode cX2_find 12 = .ok (.aload_n 0, 1) := by decide +kernel
theorem dX2_find_13 : decode cX2_find 13 = .ok (.invokevirtual 76, 3) := by decide +kernel
theorem dX2_find_16 : decode cX2_find 16 = .ok (.if_icmp .ge 27, 3) := by decide +kernel
theorem dX2_find_19 : decode cX2_find 19 = .ok (.iload_n 2, 1) := by decide +kernel
theorem dX2_find_20 : decode cX2_find 20 = .ok (.iconst 0, 1) := by decide +kernel
theorem dX2_find_21 : decode cX2_find 21 = .ok (.bipush 15, 2) := by decide +kernel
theorem dX2_find_23 : decode cX2_find 23 = .ok (.invokestatic 61, 3) := by decide +kernel
theorem dX2_find_26 : decode cX2_find 26 = .ok (.ifCond .eq 17, 3) := by decide +kernel
theorem dX2_find_29 : decode cX2_find 29 = .ok (.aload_n 0, 1) := by decide +kernel
theorem dX2_find_30 : decode cX2_find 30 = .ok (.iload_n 1, 1) := by decide +kernel
theorem dX2_find_31 : decode cX2_find 31 = .ok (.invokestatic 68, 3) := by decide +kernel
theorem dX2_find_34 : decode cX2_find 34 = .ok (.iload_n 1, 1) := by decide +kernel
theorem dX2_find_35 : decode cX2_find 35 = .ok (.iconst 2, 1) := by decide +kernel
theorem dX2_find_36 : decode cX2_find 36 = .ok (.idiv, 1) := by decide +kernel
theorem dX2_find_37 : decode cX2_find 37 = .ok (.invokevirtual 91, 3) := by decide +kernel
theorem dX2_find_40 : decode cX2_find 40 = .ok (.ifCond .ne 5, 3) := by decide +kernel
theorem dX2_find_43 : decode cX2_find 43 = .ok (.iconst (-1), 1) := by decide +kernel
theorem dX2_find_44 : decode cX2_find 44 = .ok (.ireturn, 1) := by decide +kernel
theorem dX2_find_45 : decode cX2_find 45 = .ok (.iload_n 2, 1) := by decide +kernel
theorem dX2_find_46 : decode cX2_find 46 = .ok (.aload_n 0, 1) := by decide +kernel
theorem dX2_find_47 : decode cX2_find 47 = .ok (.getfield 25, 3) := by decide +kernel
theorem dX2_find_50 : decode cX2_find 50 = .ok (.iconst 3, 1) := by decide +kernel
theorem dX2_find_51 : decode cX2_find 51 = .ok (.iaload, 1) := by decide +kernel
theorem dX2_find_52 : decode cX2_find 52 = .ok (.if_icmp .ge 14, 3) := by decide +kernel
theorem dX2_find_55 : decode cX2_find 55 = .ok (.aload_n 0, 1) := by decide +kernel
theorem dX2_find_56 : decode cX2_find 56 = .ok (.getfield 25, 3) := by decide +kernel
theorem dX2_find_59 : decode cX2_find 59 = .ok (.iconst 4, 1) := by decide +kernel
theorem dX2_find_60 : decode cX2_find 60 = .ok (.iload_n 2, 1) := by decide +kernel
theorem dX2_find_61 : decode cX2_find 61 = .ok (.iadd, 1) := by decide +kernel
theorem dX2_find_62 : decode cX2_find 62 = .ok (.iaload, 1) := by decide +kernel
theorem dX2_find_63 : decode cX2_find 63 = .ok (.goto 4, 3) := by decide +kernel
theorem dX2_find_66 : decode cX2_find 66 = .ok (.iconst (-1), 1) := by decide +kernel
theorem dX2_find_67 : decode cX2_find 67 = .ok (.ireturn, 1) := by decide +kernel
set_option maxRecDepth 20000 in
theorem ggX2_rows_X2_stripes : GoodIn wsX2_rows wsX2_stripes := goodIn_r _ [7, 8, 41, 42, 43, 44, 45, 46, 47, 48, 49, 50, 51, 52, 53] (by decide +kernel) (by decide +kernel)
set_option maxRecDepth 20000 in
theorem gX2_rows_X2_stripes : GoodIn wsX2_rows (wsV RX2 76 RX2 yX2_stripes wsX2_stripes) := goodIn_app (goodIn_of _ (by decide +kernel)) ggX2_rows_X2_stripes
set_option maxRecDepth 20000 in
theorem ggX2_rows_X2_in : GoodIn wsX2_rows wsX2_in := goodIn_r _ [11] (by decide +kernel) (by decide +kernel)
set_option maxRecDepth 20000 in
theorem gX2_rows_X2_in : GoodIn wsX2_rows (va_wsS RX2 61 yX2_in wsX2_in) := goodIn_app (goodIn_of _ (by decide +kernel)) ggX2_rows_X2_in
set_option maxRecDepth 20000 in
theorem ggX2_rows_X2_fileOf : GoodIn wsX2_rows wsX2_fileOf := goodIn_r _ [14] (by decide +kernel) (by decide +kernel)
set_option maxRecDepth 20000 in
theorem gX2_rows_X2_fileOf : GoodIn wsX2_rows (va_wsS RX2 68 yX2_fileOf wsX2_fileOf) := goodIn_app (goodIn_of _ (by decide +kernel)) ggX2_rows_X2_fileOf
set_option maxRecDepth 20000 in
theorem ggX2_rows_X2_read : GoodIn wsX2_rows wsX2_read := goodIn_r _ [18, 2, 19, 20, 21, 22, 6, 23, 8, 24, 25, 26, 27, 28, 29, 30, 31, 32, 33, 34, 35, 36, 37, 38, 39, 40, 41, 42, 43, 44, 45, 46, 47, 48, 49, 50, 51, 52, 53] (by decide +kernel) (by decide +kernel)
set_option maxRecDepth 20000 in
theorem gX2_rows_X2_read : GoodIn wsX2_rows (wsV RX2 91 RX2 yX2_read wsX2_read) := goodIn_app (goodIn_of _ (by decide +kernel)) ggX2_rows_X2_read
theorem dX2_rows_0 : decode cX2_rows 0 = .ok (.aload_n 0, 1) := by decide +kernel
theorem dX2_rows_1 : decode cX2_rows 1 = .ok (.iconst 0, 1) := by decide +kernel
theorem dX2_rows_2 : decode cX2_rows 2 = .ok (.putfield 32, 3) := by decide +kernel
theorem dX2_rows_5 : decode cX2_rows 5 = .ok (.iconst 0, 1) := by decide +kernel
theorem dX2_rows_6 : decode cX2_rows 6 = .ok (.istore_n 2, 1) := by decide +kernel
theorem dX2_rows_7 : decode cX2_rows 7 = .ok (.iconst 0, 1) := by decide +kernel
theorem dX2_rows_8 : decode cX2_rows 8 = .ok (.istore_n 3, 1) := by decide +kernel
theorem dX2_rows_9 : decode cX2_rows 9 = .ok (.iload_n 3, 1) := by decide +kernel
theorem dX2_rows_10 : decode cX2_rows 10 = .ok (.iconst 2, 1) := by decide +kernel
theorem dX2_rows_11 : decode cX2_rows 11 = .ok (.aload_n 0, 1) := by decide +kernel
theorem dX2_rows_12 : decode cX2_rows 12 = .ok (.invokevirtual 76, 3) := by decide +kernel
theorem dX2_rows_15 : decode cX2_rows 15 = .ok (.imul, 1) := by decide +kernel
theorem dX2_rows_16 : decode cX2_rows 16 = .ok (.if_icmp .ge 51, 3) := by decide +kernel
theorem dX2_rows_19 : decode cX2_rows 19 = .ok (.iload_n 1, 1) := by decide +kernel
theorem dX2_rows_20 : decode cX2_rows 20 = .ok (.iconst 1, 1) := by decide +kernel
theorem dX2_rows_21 : decode cX2_rows 21 = .ok (.bipush 100, 2) := by decide +kernel
theorem dX2_rows_23 : decode cX2_rows 23 = .ok (.invokestatic 61, 3) := by decide +kernel
theorem dX2_rows_26 : decode cX2_rows 26 = .ok (.ifCond .eq 41, 3) := by decide +kernel
theorem dX2_rows_29 : decode cX2_rows 29 = .ok (.iload_n 2, 1) := by decide +kernel
theorem dX2_rows_30 : decode cX2_rows 30 = .ok (.aload_n 0, 1) := by decide +kernel
theorem dX2_rows_31 : decode cX2_rows 31 = .ok (.iload_n 3, 1) := by decide +kernel
theorem dX2_rows_32 : decode cX2_rows 32 = .ok (.invokestatic 68, 3) := by decide +kernel
theorem dX2_rows_35 : decode cX2_rows 35 = .ok (.iload_n 3, 1) := by decide +kernel
theorem dX2_rows_36 : decode cX2_rows 36 = .ok (.iconst 2, 1) := by decide +kernel
theorem dX2_rows_37 : decode cX2_rows 37 = .ok (.idiv, 1) := by decide +kernel
theorem dX2_rows_38 : decode cX2_rows 38 = .ok (.invokevirtual 91, 3) := by decide +kernel
theorem dX2_rows_41 : decode cX2_rows 41 = .ok (.ifCond .eq 17, 3) := by decide +kernel
theorem dX2_rows_44 : decode cX2_rows 44 = .ok (.aload_n 0, 1) := by decide +kernel
theorem dX2_rows_45 : decode cX2_rows 45 = .ok (.getfield 25, 3) := by decide +kernel
theorem dX2_rows_48 : decode cX2_rows 48 = .ok (.iconst 2, 1) := by decide +kernel
theorem dX2_rows_49 : decode cX2_rows 49 = .ok (.iaload, 1) := by decide +kernel
theorem dX2_rows_50 : decode cX2_rows 50 = .ok (.iload_n 1, 1) := by decide +kernel
theorem dX2_rows_51 : decode cX2_rows 51 = .ok (.if_icmp .ne 7, 3) := by decide +kernel
theorem dX2_rows_54 : decode cX2_rows 54 = .ok (.iconst 1, 1) := by decide +kernel
theorem dX2_rows_55 : decode cX2_rows 55 = .ok (.goto 4, 3) := by decide +kernel
theorem dX2_rows_58 : decode cX2_rows 58 = .ok (.iconst 0, 1) := by decide +kernel
theorem dX2_rows_59 : decode cX2_rows 59 = .ok (.iadd, 1) := by decide +kernel
theorem dX2_rows_60 : decode cX2_rows 60 = .ok (.istore_n 2, 1) := by decide +kernel
theorem dX2_rows_61 : decode cX2_rows 61 = .ok (.iinc 3 1, 3) := by decide +kernel
theorem dX2_rows_64 : decode cX2_rows 64 = .ok (.goto (-55), 3) := by decide +kernel
theorem dX2_rows_67 : decode cX2_rows 67 = .ok (.iload_n 2, 1) := by decide +kernel
theorem dX2_rows_68 : decode cX2_rows 68 = .ok (.ireturn, 1) := by decide +kernel
set_option maxRecDepth 20000 in
theorem ggX2_drop_X2_in : GoodIn wsX2_drop wsX2_in := goodIn_r _ [7] (by decide +kernel) (by decide +kernel)
set_option maxRecDepth 20000 in
theorem gX2_drop_X2_in : GoodIn wsX2_drop (va_wsS RX2 61 yX2_in wsX2_in) := goodIn_app (goodIn_of _ (by decide +kernel)) ggX2_drop_X2_in
set_option maxRecDepth 20000 in
theorem ggX2_drop_X2_stripes : GoodIn wsX2_drop wsX2_stripes := goodIn_r _ [11, 12, 46, 47, 48, 49, 50, 51, 52, 53, 54, 55, 56, 57, 58] (by decide +kernel) (by decide +kernel)
set_option maxRecDepth 20000 in
theorem gX2_drop_X2_stripes : GoodIn wsX2_drop (wsV RX2 76 RX2 yX2_stripes wsX2_stripes) := goodIn_app (goodIn_of _ (by decide +kernel)) ggX2_drop_X2_stripes
set_option maxRecDepth 20000 in
theorem ggX2_drop_X2_fileOf : GoodIn wsX2_drop wsX2_fileOf := goodIn_r _ [15] (by decide +kernel) (by decide +kernel)
set_option maxRecDepth 20000 in
theorem gX2_drop_X2_fileOf : GoodIn wsX2_drop (va_wsS RX2 68 yX2_fileOf wsX2_fileOf) := goodIn_app (goodIn_of _ (by decide +kernel)) ggX2_drop_X2_fileOf
set_option maxRecDepth 20000 in
theorem ggX2_drop_X2_isGood : GoodIn wsX2_drop wsX2_isGood := goodIn_r _ [19, 12, 3, 20, 21, 22, 6, 23, 24, 46, 47, 48, 49, 50, 51, 52, 53, 54, 55, 56, 57, 58] (by decide +kernel) (by decide +kernel)
set_option maxRecDepth 20000 in
theorem gX2_drop_X2_isGood : GoodIn wsX2_drop (wsV RX2 41 RX2 yX2_isGood wsX2_isGood) := goodIn_app (goodIn_of _ (by decide +kernel)) ggX2_drop_X2_isGood
set_option maxRecDepth 20000 in
theorem ggX2_drop_X2_writePlain : GoodIn wsX2_drop wsX2_writePlain := goodIn_r _ [28, 29, 30, 31, 32, 6, 33, 20, 21, 22, 23, 24, 34, 35, 36, 37, 12, 3, 46, 47, 48, 49, 50, 51, 52, 53, 54, 55, 56, 57, 58] (by decide +kernel) (by decide +kernel)
set_option maxRecDepth 20000 in
theorem gX2_drop_X2_writePlain : GoodIn wsX2_drop (wsV RX2 83 RX2 yX2_writePlain wsX2_writePlain) := goodIn_app (goodIn_of _ (by decide +kernel)) ggX2_drop_X2_writePlain
set_option maxRecDepth 20000 in
theorem ggX2_drop_X2_writeSum : GoodIn wsX2_drop wsX2_writeSum := goodIn_r _ [41, 42, 43, 44, 6, 45, 29, 3, 30, 31, 32, 33, 20, 21, 22, 23, 24, 34, 35, 36, 37, 12, 46, 47, 48, 49, 50, 51, 52, 53, 54, 55, 56, 57, 58] (by decide +kernel) (by decide +kernel)
set_option maxRecDepth 20000 in
theorem gX2_drop_X2_writeSum : GoodIn wsX2_drop (wsV RX2 87 RX2 yX2_writeSum wsX2_writeSum) := goodIn_app (goodIn_of _ (by decide +kernel)) ggX2_drop_X2_writeSum
theorem dX2_drop_0 : decode cX2_drop 0 = .ok (.aload_n 0, 1) := by decide +kernel
theorem dX2_drop_1 : decode cX2_drop 1 = .ok (.iconst 0, 1) := by decide +kernel
theorem dX2_drop_2 : decode cX2_drop 2 = .ok (.putfield 32, 3) := by decide +kernel
theorem dX2_drop_5 : decode cX2_drop 5 = .ok (.aload_n 0, 1) := by decide +kernel
theorem dX2_drop_6 : decode cX2_drop 6 = .ok (.getfield 72, 3) := by decide +kernel
theorem dX2_drop_9 : decode cX2_drop 9 = .ok (.ifCond .ne 13, 3) := by decide +kernel
theorem dX2_drop_12 : decode cX2_drop 12 = .ok (.iload_n 1, 1) := by decide +kernel
theorem dX2_drop_13 : decode cX2_drop 13 = .ok (.iconst 1, 1) := by decide +kernel
theorem dX2_drop_14 : decode cX2_drop 14 = .ok (.bipush 100, 2) := by decide +kernel
theorem dX2_drop_16 : decode cX2_drop 16 = .ok (.invokestatic 61, 3) := by decide +kernel
theorem dX2_drop_19 : decode cX2_drop 19 = .ok (.ifCond .ne 5, 3) := by decide +kernel
theorem dX2_drop_22 : decode cX2_drop 22 = .ok (.iconst 0, 1) := by decide +kernel
theorem dX2_drop_23 : decode cX2_drop 23 = .ok (.ireturn, 1) := by decide +kernel
theorem dX2_drop_24 : decode cX2_drop 24 = .ok (.iconst 0, 1) := by decide +kernel
theorem dX2_drop_25 : decode cX2_drop 25 = .ok (.istore_n 2, 1) := by decide +kernel
theorem dX2_drop_26 : decode cX2_drop 26 = .ok (.iconst 0, 1) := by decide +kernel
theorem dX2_drop_27 : decode cX2_drop 27 = .ok (.istore_n 3, 1) := by decide +kernel
theorem dX2_drop_28 : decode cX2_drop 28 = .ok (.iload_n 3, 1) := by decide +kernel
theorem dX2_drop_29 : decode cX2_drop 29 = .ok (.aload_n 0, 1) := by decide +kernel
theorem dX2_drop_30 : decode cX2_drop 30 = .ok (.invokevirtual 76, 3) := by decide +kernel
theorem dX2_drop_33 : decode cX2_drop 33 = .ok (.if_icmp .ge 137, 3) := by decide +kernel
theorem dX2_drop_36 : decode cX2_drop 36 = .ok (.iconst 0, 1) := by decide +kernel
theorem dX2_drop_37 : decode cX2_drop 37 = .ok (.istore 4, 2) := by decide +kernel
theorem dX2_drop_39 : decode cX2_drop 39 = .ok (.iconst 2, 1) := by decide +kernel
theorem dX2_drop_40 : decode cX2_drop 40 = .ok (.iload_n 3, 1) := by decide +kernel
theorem dX2_drop_41 : decode cX2_drop 41 = .ok (.imul, 1) := by decide +kernel
theorem dX2_drop_42 : decode cX2_drop 42 = .ok (.istore 5, 2) := by decide +kernel
theorem dX2_drop_44 : decode cX2_drop 44 = .ok (.iload 5, 2) := by decide +kernel
theorem dX2_drop_46 : decode cX2_drop 46 = .ok (.iconst 2, 1) := by decide +kernel
theorem dX2_drop_47 : decode cX2_drop 47 = .ok (.iload_n 3, 1) := by decide +kernel
theorem dX2_drop_48 : decode cX2_drop 48 = .ok (.imul, 1) := by decide +kernel
theorem dX2_drop_49 : decode cX2_drop 49 = .ok (.iconst 2, 1) := by decide +kernel
theorem dX2_drop_50 : decode cX2_drop 50 = .ok (.iadd, 1) := by decide +kernel
theorem dX2_drop_51 : decode cX2_drop 51 = .ok (.if_icmp .ge 61, 3) := by decide +kernel
theorem dX2_drop_54 : decode cX2_drop 54 = .ok (.iload 5, 2) := by decide +kernel
theorem dX2_drop_56 : decode cX2_drop 56 = .ok (.invokestatic 68, 3) := by decide +kernel
theorem dX2_drop_59 : decode cX2_drop 59 = .ok (.istore 6, 2) := by decide +kernel
theorem dX2_drop_61 : decode cX2_drop 61 = .ok (.aload_n 0, 1) := by decide +kernel
theorem dX2_drop_62 : decode cX2_drop 62 = .ok (.iload 6, 2) := by decide +kernel
theorem dX2_drop_64 : decode cX2_drop 64 = .ok (.iload_n 3, 1) := by decide +kernel
theorem dX2_drop_65 : decode cX2_drop 65 = .ok (.invokevirtual 41, 3) := by decide +kernel
theorem dX2_drop_68 : decode cX2_drop 68 = .ok (.ifCond .eq 38, 3) := by decide +kernel
theorem dX2_drop_71 : decode cX2_drop 71 = .ok (.aload_n 0, 1) := by decide +kernel
theorem dX2_drop_72 : decode cX2_drop 72 = .ok (.getfield 7, 3) := by decide +kernel
theorem dX2_drop_75 : decode cX2_drop 75 = .ok (.sipush 1536, 3) := by decide +kernel
theorem dX2_drop_78 : decode cX2_drop 78 = .ok (.iload 6, 2) := by decide +kernel
theorem dX2_drop_80 : decode cX2_drop 80 = .ok (.imul, 1) := by decide +kernel
theorem dX2_drop_81 : decode cX2_drop 81 = .ok (.bipush 24, 2) := by decide +kernel
theorem dX2_drop_83 : decode cX2_drop 83 = .ok (.iload_n 3, 1) := by decide +kernel
theorem dX2_drop_84 : decode cX2_drop 84 = .ok (.imul, 1) := by decide +kernel
theorem dX2_drop_85 : decode cX2_drop 85 = .ok (.iadd, 1) := by decide +kernel
theorem dX2_drop_86 : decode cX2_drop 86 = .ok (.iconst 2, 1) := by decide +kernel
theorem dX2_drop_87 : decode cX2_drop 87 = .ok (.iadd, 1) := by decide +kernel
theorem dX2_drop_88 : decode cX2_drop 88 = .ok (.iaload, 1) := by decide +kernel
theorem dX2_drop_89 : decode cX2_drop 89 = .ok (.iload_n 1, 1) := by decide +kernel
theorem dX2_drop_90 : decode cX2_drop 90 = .ok (.if_icmp .ne 16, 3) := by decide +kernel
theorem dX2_drop_93 : decode cX2_drop 93 = .ok (.aload_n 0, 1) := by decide +kernel
theorem dX2_drop_94 : decode cX2_drop 94 = .ok (.iload 6, 2) := by decide +kernel
theorem dX2_drop_96 : decode cX2_drop 96 = .ok (.iload_n 3, 1) := by decide +kernel
theorem dX2_drop_97 : decode cX2_drop 97 = .ok (.sipush 255, 3) := by decide +kernel
theorem dX2_drop_100 : decode cX2_drop 100 = .ok (.invokevirtual 83, 3) := by decide +kernel
theorem dX2_drop_103 : decode cX2_drop 103 = .ok (.iconst 1, 1) := by decide +kernel
theorem dX2_drop_104 : decode cX2_drop 104 = .ok (.istore 4, 2) := by decide +kernel
theorem dX2_drop_106 : decode cX2_drop 106 = .ok (.iinc 5 1, 3) := by decide +kernel
theorem dX2_drop_109 : decode cX2_drop 109 = .ok (.goto (-65), 3) := by decide +kernel
theorem dX2_drop_112 : decode cX2_drop 112 = .ok (.iload 4, 2) := by decide +kernel
theorem dX2_drop_114 : decode cX2_drop 114 = .ok (.ifCond .eq 35, 3) := by decide +kernel
theorem dX2_drop_117 : decode cX2_drop 117 = .ok (.aload_n 0, 1) := by decide +kernel
theorem dX2_drop_118 : decode cX2_drop 118 = .ok (.iconst 0, 1) := by decide +kernel
theorem dX2_drop_119 : decode cX2_drop 119 = .ok (.iload_n 3, 1) := by decide +kernel
theorem dX2_drop_120 : decode cX2_drop 120 = .ok (.invokevirtual 41, 3) := by decide +kernel
theorem dX2_drop_123 : decode cX2_drop 123 = .ok (.ifCond .eq 26, 3) := by decide +kernel
theorem dX2_drop_126 : decode cX2_drop 126 = .ok (.aload_n 0, 1) := by decide +kernel
theorem dX2_drop_127 : decode cX2_drop 127 = .ok (.iconst 1, 1) := by decide +kernel
theorem dX2_drop_128 : decode cX2_drop 128 = .ok (.iload_n 3, 1) := by decide +kernel
theorem dX2_drop_129 : decode cX2_drop 129 = .ok (.invokevirtual 41, 3) := by decide +kernel
theorem dX2_drop_132 : decode cX2_drop 132 = .ok (.ifCond .eq 17, 3) := by decide +kernel
theorem dX2_drop_135 : decode cX2_drop 135 = .ok (.aload_n 0, 1) := by decide +kernel
theorem dX2_drop_136 : decode cX2_drop 136 = .ok (.iconst 2, 1) := by decide +kernel
theorem dX2_drop_137 : decode cX2_drop 137 = .ok (.iload_n 3, 1) := by decide +kernel
theorem dX2_drop_138 : decode cX2_drop 138 = .ok (.invokevirtual 41, 3) := by decide +kernel
theorem dX2_drop_141 : decode cX2_drop 141 = .ok (.ifCond .eq 8, 3) := by decide +kernel
theorem dX2_drop_144 : decode cX2_drop 144 = .ok (.aload_n 0, 1) := by decide +kernel
theorem dX2_drop_145 : decode cX2_drop 145 = .ok (.iload_n 3, 1) := by decide +kernel
theorem dX2_drop_146 : decode cX2_drop 146 = .ok (.invokevirtual 87, 3) := by decide +kernel
theorem dX2_drop_149 : decode cX2_drop 149 = .ok (.iload_n 2, 1) := by decide +kernel
theorem dX2_drop_150 : decode cX2_drop 150 = .ok (.ifCond .ne 8, 3) := by decide +kernel
theorem dX2_drop_153 : decode cX2_drop 153 = .ok (.iload 4, 2) := by decide +kernel
theorem dX2_drop_155 : decode cX2_drop 155 = .ok (.ifCond .eq 7, 3) := by decide +kernel
theorem dX2_drop_158 : decode cX2_drop 158 = .ok (.iconst 1, 1) := by decide +kernel
theorem dX2_drop_159 : decode cX2_drop 159 = .ok (.goto 4, 3) := by decide +kernel
theorem dX2_drop_162 : decode cX2_drop 162 = .ok (.iconst 0, 1) := by decide +kernel
theorem dX2_drop_163 : decode cX2_drop 163 = .ok (.istore_n 2, 1) := by decide +kernel
theorem dX2_drop_164 : decode cX2_drop 164 = .ok (.iinc 3 1, 3) := by decide +kernel
theorem dX2_drop_167 : decode cX2_drop 167 = .ok (.goto (-139), 3) := by decide +kernel
theorem dX2_drop_170 : decode cX2_drop 170 = .ok (.iload_n 2, 1) := by decide +kernel
theorem dX2_drop_171 : decode cX2_drop 171 = .ok (.ireturn, 1) := by decide +kernel
theorem dX2_close_0 : decode cX2_close 0 = .ok (.aload_n 0, 1) := by decide +kernel
theorem dX2_close_1 : decode cX2_close 1 = .ok (.getfield 72, 3) := by decide +kernel
theorem dX2_close_4 : decode cX2_close 4 = .ok (.ifCond .ne 55, 3) := by decide +kernel
theorem dX2_close_7 : decode cX2_close 7 = .ok (.iconst 0, 1) := by decide +kernel
theorem dX2_close_8 : decode cX2_close 8 = .ok (.istore_n 1, 1) := by decide +kernel
theorem dX2_close_9 : decode cX2_close 9 = .ok (.iload_n 1, 1) := by decide +kernel
theorem dX2_close_10 : decode cX2_close 10 = .ok (.sipush 4608, 3) := by decide +kernel
theorem dX2_close_13 : decode cX2_close 13 = .ok (.if_icmp .ge 21, 3) := by decide +kernel
theorem dX2_close_16 : decode cX2_close 16 = .ok (.aload_n 0, 1) := by decide +kernel
theorem dX2_close_17 : decode cX2_close 17 = .ok (.getfield 16, 3) := by decide +kernel
theorem dX2_close_20 : decode cX2_close 20 = .ok (.iload_n 1, 1) := by decide +kernel
theorem dX2_close_21 : decode cX2_close 21 = .ok (.aload_n 0, 1) := by decide +kernel
theorem dX2_close_22 : decode cX2_close 22 = .ok (.getfield 7, 3) := by decide +kernel
theorem dX2_close_25 : decode cX2_close 25 = .ok (.iload_n 1, 1) := by decide +kernel
theorem dX2_close_26 : decode cX2_close 26 = .ok (.iaload, 1) := by decide +kernel
theorem dX2_close_27 : decode cX2_close 27 = .ok (.iastore, 1) := by decide +kernel
theorem dX2_close_28 : decode cX2_close 28 = .ok (.iinc 1 1, 3) := by decide +kernel
theorem dX2_close_31 : decode cX2_close 31 = .ok (.goto (-22), 3) := by decide +kernel
theorem dX2_close_34 : decode cX2_close 34 = .ok (.iconst 0, 1) := by decide +kernel
theorem dX2_close_35 : decode cX2_close 35 = .ok (.istore_n 1, 1) := by decide +kernel
theorem dX2_close_36 : decode cX2_close 36 = .ok (.iload_n 1, 1) := by decide +kernel
theorem dX2_close_37 : decode cX2_close 37 = .ok (.iconst 3, 1) := by decide +kernel
theorem dX2_close_38 : decode cX2_close 38 = .ok (.if_icmp .ge 21, 3) := by decide +kernel
theorem dX2_close_41 : decode cX2_close 41 = .ok (.aload_n 0, 1) := by decide +kernel
theorem dX2_close_42 : decode cX2_close 42 = .ok (.getfield 19, 3) := by decide +kernel
theorem dX2_close_45 : decode cX2_close 45 = .ok (.iload_n 1, 1) := by decide +kernel
theorem dX2_close_46 : decode cX2_close 46 = .ok (.aload_n 0, 1) := by decide +kernel
theorem dX2_close_47 : decode cX2_close 47 = .ok (.getfield 13, 3) := by decide +kernel
theorem dX2_close_50 : decode cX2_close 50 = .ok (.iload_n 1, 1) := by decide +kernel
theorem dX2_close_51 : decode cX2_close 51 = .ok (.iaload, 1) := by decide +kernel
theorem dX2_close_52 : decode cX2_close 52 = .ok (.iastore, 1) := by decide +kernel
theorem dX2_close_53 : decode cX2_close 53 = .ok (.iinc 1 1, 3) := by decide +kernel
theorem dX2_close_56 : decode cX2_close 56 = .ok (.goto (-20), 3) := by decide +kernel
theorem dX2_close_59 : decode cX2_close 59 = .ok (.aload_n 0, 1) := by decide +kernel
theorem dX2_close_60 : decode cX2_close 60 = .ok (.iconst 1, 1) := by decide +kernel
theorem dX2_close_61 : decode cX2_close 61 = .ok (.putfield 72, 3) := by decide +kernel
theorem dX2_close_64 : decode cX2_close 64 = .ok (.aload_n 0, 1) := by decide +kernel
theorem dX2_close_65 : decode cX2_close 65 = .ok (.iconst 1, 1) := by decide +kernel
theorem dX2_close_66 : decode cX2_close 66 = .ok (.putfield 94, 3) := by decide +kernel
theorem dX2_close_69 : decode cX2_close 69 = .ok (.return_, 1) := by decide +kernel
set_option maxRecDepth 20000 in
theorem ggX2_crash_X2_in : GoodIn wsX2_crash wsX2_in := goodIn_r _ [6] (by decide +kernel) (by decide +kernel)
set_option maxRecDepth 20000 in
theorem gX2_crash_X2_in : GoodIn wsX2_crash (va_wsS RX2 61 yX2_in wsX2_in) := goodIn_app (goodIn_of _ (by decide +kernel)) ggX2_crash_X2_in
set_option maxRecDepth 20000 in
theorem ggX2_crash_X2_close : GoodIn wsX2_crash wsX2_close := goodIn_r _ [10, 11, 12, 13, 14, 2, 15, 16, 17, 18, 19, 20, 21, 22, 23, 24, 25, 26, 27, 28] (by decide +kernel) (by decide +kernel)
set_option maxRecDepth 20000 in
theorem gX2_crash_X2_close : GoodIn wsX2_crash (wsV RX2 97 RX2 yX2_close wsX2_close) := goodIn_app (goodIn_of _ (by decide +kernel)) ggX2_crash_X2_close
theorem dX2_crash_0 : decode cX2_crash 0 = .ok (.aload_n 0, 1) := by decide +kernel
theorem dX2_crash_1 : decode cX2_crash 1 = .ok (.iconst 0, 1) := by decide +kernel
theorem dX2_crash_2 : decode cX2_crash 2 = .ok (.putfield 32, 3) := by decide +kernel
theorem dX2_crash_5 : decode cX2_crash 5 = .ok (.iload_n 1, 1) := by decide +kernel
theorem dX2_crash_6 : decode cX2_crash 6 = .ok (.iconst 0, 1) := by decide +kernel
theorem dX2_crash_7 : decode cX2_crash 7 = .ok (.iconst 2, 1) := by decide +kernel
theorem dX2_crash_8 : decode cX2_crash 8 = .ok (.invokestatic 61, 3) := by decide +kernel
theorem dX2_crash_11 : decode cX2_crash 11 = .ok (.ifCond .eq 17, 3) := by decide +kernel
theorem dX2_crash_14 : decode cX2_crash 14 = .ok (.iload_n 2, 1) := by decide +kernel
theorem dX2_crash_15 : decode cX2_crash 15 = .ok (.ifCond .lt 13, 3) := by decide +kernel
theorem dX2_crash_18 : decode cX2_crash 18 = .ok (.iload_n 2, 1) := by decide +kernel
theorem dX2_crash_19 : decode cX2_crash 19 = .ok (.aload_n 0, 1) := by decide +kernel
theorem dX2_crash_20 : decode cX2_crash 20 = .ok (.getfield 13, 3) := by decide +kernel
theorem dX2_crash_23 : decode cX2_crash 23 = .ok (.iload_n 1, 1) := by decide +kernel
theorem dX2_crash_24 : decode cX2_crash 24 = .ok (.iaload, 1) := by decide +kernel
theorem dX2_crash_25 : decode cX2_crash 25 = .ok (.if_icmp .lt 5, 3) := by decide +kernel
theorem dX2_crash_28 : decode cX2_crash 28 = .ok (.iconst 0, 1) := by decide +kernel
theorem dX2_crash_29 : decode cX2_crash 29 = .ok (.ireturn, 1) := by decide +kernel
theorem dX2_crash_30 : decode cX2_crash 30 = .ok (.aload_n 0, 1) := by decide +kernel
theorem dX2_crash_31 : decode cX2_crash 31 = .ok (.invokevirtual 97, 3) := by decide +kernel
theorem dX2_crash_34 : decode cX2_crash 34 = .ok (.aload_n 0, 1) := by decide +kernel
theorem dX2_crash_35 : decode cX2_crash 35 = .ok (.getfield 13, 3) := by decide +kernel
theorem dX2_crash_38 : decode cX2_crash 38 = .ok (.iload_n 1, 1) := by decide +kernel
theorem dX2_crash_39 : decode cX2_crash 39 = .ok (.iload_n 2, 1) := by decide +kernel
theorem dX2_crash_40 : decode cX2_crash 40 = .ok (.iastore, 1) := by decide +kernel
theorem dX2_crash_41 : decode cX2_crash 41 = .ok (.iconst 1, 1) := by decide +kernel
theorem dX2_crash_42 : decode cX2_crash 42 = .ok (.ireturn, 1) := by decide +kernel
set_option maxRecDepth 20000 in
theorem ggX2_lose_X2_in : GoodIn wsX2_lose wsX2_in := goodIn_r _ [6] (by decide +kernel) (by decide +kernel)
set_option maxRecDepth 20000 in
theorem gX2_lose_X2_in : GoodIn wsX2_lose (va_wsS RX2 61 yX2_in wsX2_in) := goodIn_app (goodIn_of _ (by decide +kernel)) ggX2_lose_X2_in
set_option maxRecDepth 20000 in
theorem ggX2_lose_X2_close : GoodIn wsX2_lose wsX2_close := goodIn_r _ [10, 11, 12, 13, 14, 2, 15, 16, 17, 18, 19, 20, 21, 22, 23, 24, 25, 26, 27, 28] (by decide +kernel) (by decide +kernel)
set_option maxRecDepth 20000 in
theorem gX2_lose_X2_close : GoodIn wsX2_lose (wsV RX2 97 RX2 yX2_close wsX2_close) := goodIn_app (goodIn_of _ (by decide +kernel)) ggX2_lose_X2_close
theorem dX2_lose_0 : decode cX2_lose 0 = .ok (.aload_n 0, 1) := by decide +kernel
theorem dX2_lose_1 : decode cX2_lose 1 = .ok (.iconst 0, 1) := by decide +kernel
theorem dX2_lose_2 : decode cX2_lose 2 = .ok (.putfield 32, 3) := by decide +kernel
theorem dX2_lose_5 : decode cX2_lose 5 = .ok (.iload_n 1, 1) := by decide +kernel
theorem dX2_lose_6 : decode cX2_lose 6 = .ok (.iconst 0, 1) := by decide +kernel
theorem dX2_lose_7 : decode cX2_lose 7 = .ok (.iconst 2, 1) := by decide +kernel
theorem dX2_lose_8 : decode cX2_lose 8 = .ok (.invokestatic 61, 3) := by decide +kernel
theorem dX2_lose_11 : decode cX2_lose 11 = .ok (.ifCond .eq 12, 3) := by decide +kernel
theorem dX2_lose_14 : decode cX2_lose 14 = .ok (.aload_n 0, 1) := by decide +kernel
theorem dX2_lose_15 : decode cX2_lose 15 = .ok (.getfield 13, 3) := by decide +kernel
theorem dX2_lose_18 : decode cX2_lose 18 = .ok (.iload_n 1, 1) := by decide +kernel
theorem dX2_lose_19 : decode cX2_lose 19 = .ok (.iaload, 1) := by decide +kernel
theorem dX2_lose_20 : decode cX2_lose 20 = .ok (.ifCond .ne 5, 3) := by decide +kernel
theorem dX2_lose_23 : decode cX2_lose 23 = .ok (.iconst 0, 1) := by decide +kernel
theorem dX2_lose_24 : decode cX2_lose 24 = .ok (.ireturn, 1) := by decide +kernel
theorem dX2_lose_25 : decode cX2_lose 25 = .ok (.aload_n 0, 1) := by decide +kernel
theorem dX2_lose_26 : decode cX2_lose 26 = .ok (.invokevirtual 97, 3) := by decide +kernel
theorem dX2_lose_29 : decode cX2_lose 29 = .ok (.aload_n 0, 1) := by decide +kernel
theorem dX2_lose_30 : decode cX2_lose 30 = .ok (.getfield 13, 3) := by decide +kernel
theorem dX2_lose_33 : decode cX2_lose 33 = .ok (.iload_n 1, 1) := by decide +kernel
theorem dX2_lose_34 : decode cX2_lose 34 = .ok (.iconst 0, 1) := by decide +kernel
theorem dX2_lose_35 : decode cX2_lose 35 = .ok (.iastore, 1) := by decide +kernel
theorem dX2_lose_36 : decode cX2_lose 36 = .ok (.iconst 1, 1) := by decide +kernel
theorem dX2_lose_37 : decode cX2_lose 37 = .ok (.ireturn, 1) := by decide +kernel
set_option maxRecDepth 20000 in
theorem ggX2_poke_X2_in : GoodIn wsX2_poke wsX2_in := goodIn_r _ [7] (by decide +kernel) (by decide +kernel)
set_option maxRecDepth 20000 in
theorem gX2_poke_X2_in : GoodIn wsX2_poke (va_wsS RX2 61 yX2_in wsX2_in) := goodIn_app (goodIn_of _ (by decide +kernel)) ggX2_poke_X2_in
set_option maxRecDepth 20000 in
theorem ggX2_poke_X2_close : GoodIn wsX2_poke wsX2_close := goodIn_r _ [11, 12, 13, 3, 14, 2, 15, 16, 17, 18, 19, 20, 21, 22, 23, 24, 25, 26, 27, 28] (by decide +kernel) (by decide +kernel)
set_option maxRecDepth 20000 in
theorem gX2_poke_X2_close : GoodIn wsX2_poke (wsV RX2 97 RX2 yX2_close wsX2_close) := goodIn_app (goodIn_of _ (by decide +kernel)) ggX2_poke_X2_close
theorem dX2_poke_0 : decode cX2_poke 0 = .ok (.aload_n 0, 1) := by decide +kernel
theorem dX2_poke_1 : decode cX2_poke 1 = .ok (.iconst 0, 1) := by decide +kernel
theorem dX2_poke_2 : decode cX2_poke 2 = .ok (.putfield 32, 3) := by decide +kernel
theorem dX2_poke_5 : decode cX2_poke 5 = .ok (.iload_n 1, 1) := by decide +kernel
theorem dX2_poke_6 : decode cX2_poke 6 = .ok (.iconst 0, 1) := by decide +kernel
theorem dX2_poke_7 : decode cX2_poke 7 = .ok (.iconst 2, 1) := by decide +kernel
theorem dX2_poke_8 : decode cX2_poke 8 = .ok (.invokestatic 61, 3) := by decide +kernel
theorem dX2_poke_11 : decode cX2_poke 11 = .ok (.ifCond .eq 28, 3) := by decide +kernel
theorem dX2_poke_14 : decode cX2_poke 14 = .ok (.iload_n 3, 1) := by decide +kernel
theorem dX2_poke_15 : decode cX2_poke 15 = .ok (.iconst 1, 1) := by decide +kernel
theorem dX2_poke_16 : decode cX2_poke 16 = .ok (.sipush 255, 3) := by decide +kernel
theorem dX2_poke_19 : decode cX2_poke 19 = .ok (.invokestatic 61, 3) := by decide +kernel
theorem dX2_poke_22 : decode cX2_poke 22 = .ok (.ifCond .eq 17, 3) := by decide +kernel
theorem dX2_poke_25 : decode cX2_poke 25 = .ok (.iload_n 2, 1) := by decide +kernel
theorem dX2_poke_26 : decode cX2_poke 26 = .ok (.ifCond .lt 13, 3) := by decide +kernel
theorem dX2_poke_29 : decode cX2_poke 29 = .ok (.iload_n 2, 1) := by decide +kernel
theorem dX2_poke_30 : decode cX2_poke 30 = .ok (.aload_n 0, 1) := by decide +kernel
theorem dX2_poke_31 : decode cX2_poke 31 = .ok (.getfield 13, 3) := by decide +kernel
theorem dX2_poke_34 : decode cX2_poke 34 = .ok (.iload_n 1, 1) := by decide +kernel
theorem dX2_poke_35 : decode cX2_poke 35 = .ok (.iaload, 1) := by decide +kernel
theorem dX2_poke_36 : decode cX2_poke 36 = .ok (.if_icmp .lt 5, 3) := by decide +kernel
theorem dX2_poke_39 : decode cX2_poke 39 = .ok (.iconst 0, 1) := by decide +kernel
theorem dX2_poke_40 : decode cX2_poke 40 = .ok (.ireturn, 1) := by decide +kernel
theorem dX2_poke_41 : decode cX2_poke 41 = .ok (.aload_n 0, 1) := by decide +kernel
theorem dX2_poke_42 : decode cX2_poke 42 = .ok (.invokevirtual 97, 3) := by decide +kernel
theorem dX2_poke_45 : decode cX2_poke 45 = .ok (.aload_n 0, 1) := by decide +kernel
theorem dX2_poke_46 : decode cX2_poke 46 = .ok (.getfield 7, 3) := by decide +kernel
theorem dX2_poke_49 : decode cX2_poke 49 = .ok (.sipush 1536, 3) := by decide +kernel
theorem dX2_poke_52 : decode cX2_poke 52 = .ok (.iload_n 1, 1) := by decide +kernel
theorem dX2_poke_53 : decode cX2_poke 53 = .ok (.imul, 1) := by decide +kernel
theorem dX2_poke_54 : decode cX2_poke 54 = .ok (.iload_n 2, 1) := by decide +kernel
theorem dX2_poke_55 : decode cX2_poke 55 = .ok (.iadd, 1) := by decide +kernel
theorem dX2_poke_56 : decode cX2_poke 56 = .ok (.dup2, 1) := by decide +kernel
theorem dX2_poke_57 : decode cX2_poke 57 = .ok (.iaload, 1) := by decide +kernel
theorem dX2_poke_58 : decode cX2_poke 58 = .ok (.iload_n 3, 1) := by decide +kernel
theorem dX2_poke_59 : decode cX2_poke 59 = .ok (.ixor, 1) := by decide +kernel
theorem dX2_poke_60 : decode cX2_poke 60 = .ok (.iastore, 1) := by decide +kernel
theorem dX2_poke_61 : decode cX2_poke 61 = .ok (.iconst 1, 1) := by decide +kernel
theorem dX2_poke_62 : decode cX2_poke 62 = .ok (.ireturn, 1) := by decide +kernel
set_option maxRecDepth 20000 in
theorem ggX2_reopen_X2_stripes : GoodIn wsX2_reopen wsX2_stripes := goodIn_r _ [10, 2, 48, 49, 50, 51, 52, 53, 54, 55, 56, 57, 58, 59, 60] (by decide +kernel) (by decide +kernel)
set_option maxRecDepth 20000 in
theorem gX2_reopen_X2_stripes : GoodIn wsX2_reopen (wsV RX2 76 RX2 yX2_stripes wsX2_stripes) := goodIn_app (goodIn_of _ (by decide +kernel)) ggX2_reopen_X2_stripes
set_option maxRecDepth 20000 in
theorem ggX2_reopen_X2_mend : GoodIn wsX2_reopen wsX2_mend := goodIn_r _ [14, 15, 16, 17, 18, 9, 19, 2, 3, 20, 21, 22, 23, 24, 25, 26, 27, 28, 29, 30, 31, 32, 5, 33, 34, 35, 36, 37, 38, 39, 40, 48, 49, 50, 51, 52, 53, 54, 55, 56, 57, 58, 59, 60] (by decide +kernel) (by decide +kernel)
set_option maxRecDepth 20000 in
theorem gX2_reopen_X2_mend : GoodIn wsX2_reopen (wsV RX2 100 RX2 yX2_mend wsX2_mend) := goodIn_app (goodIn_of _ (by decide +kernel)) ggX2_reopen_X2_mend
set_option maxRecDepth 20000 in
theorem ggX2_reopen_X2_fileOf : GoodIn wsX2_reopen wsX2_fileOf := goodIn_r _ [43] (by decide +kernel) (by decide +kernel)
set_option maxRecDepth 20000 in
theorem gX2_reopen_X2_fileOf : GoodIn wsX2_reopen (va_wsS RX2 68 yX2_fileOf wsX2_fileOf) := goodIn_app (goodIn_of _ (by decide +kernel)) ggX2_reopen_X2_fileOf
set_option maxRecDepth 20000 in
theorem ggX2_reopen_X2_read : GoodIn wsX2_reopen wsX2_read := goodIn_r _ [47, 5, 3, 16, 17, 18, 9, 19, 2, 20, 21, 22, 23, 24, 25, 26, 27, 28, 29, 30, 31, 32, 33, 34, 35, 36, 48, 49, 50, 51, 52, 53, 54, 55, 56, 57, 58, 59, 60] (by decide +kernel) (by decide +kernel)
set_option maxRecDepth 20000 in
theorem gX2_reopen_X2_read : GoodIn wsX2_reopen (wsV RX2 91 RX2 yX2_read wsX2_read) := goodIn_app (goodIn_of _ (by decide +kernel)) ggX2_reopen_X2_read
theorem dX2_reopen_0 : decode cX2_reopen 0 = .ok (.aload_n 0, 1) := by decide +kernel
theorem dX2_reopen_1 : decode cX2_reopen 1 = .ok (.iconst 0, 1) := by decide +kernel
theorem dX2_reopen_2 : decode cX2_reopen 2 = .ok (.putfield 32, 3) := by decide +kernel
theorem dX2_reopen_5 : decode cX2_reopen 5 = .ok (.aload_n 0, 1) := by decide +kernel
theorem dX2_reopen_6 : decode cX2_reopen 6 = .ok (.invokevirtual 76, 3) := by decide +kernel
theorem dX2_reopen_9 : decode cX2_reopen 9 = .ok (.istore_n 1, 1) := by decide +kernel
theorem dX2_reopen_10 : decode cX2_reopen 10 = .ok (.iconst 0, 1) := by decide +kernel
theorem dX2_reopen_11 : decode cX2_reopen 11 = .ok (.istore_n 2, 1) := by decide +kernel
theorem dX2_reopen_12 : decode cX2_reopen 12 = .ok (.iload_n 2, 1) := by decide +kernel
theorem dX2_reopen_13 : decode cX2_reopen 13 = .ok (.iload_n 1, 1) := by decide +kernel
theorem dX2_reopen_14 : decode cX2_reopen 14 = .ok (.if_icmp .ge 30, 3) := by decide +kernel
theorem dX2_reopen_17 : decode cX2_reopen 17 = .ok (.iconst 0, 1) := by decide +kernel
theorem dX2_reopen_18 : decode cX2_reopen 18 = .ok (.istore_n 3, 1) := by decide +kernel
theorem dX2_reopen_19 : decode cX2_reopen 19 = .ok (.iload_n 3, 1) := by decide +kernel
theorem dX2_reopen_20 : decode cX2_reopen 20 = .ok (.iconst 3, 1) := by decide +kernel
theorem dX2_reopen_21 : decode cX2_reopen 21 = .ok (.if_icmp .ge 17, 3) := by decide +kernel
theorem dX2_reopen_24 : decode cX2_reopen 24 = .ok (.aload_n 0, 1) := by decide +kernel
theorem dX2_reopen_25 : decode cX2_reopen 25 = .ok (.iload_n 3, 1) := by decide +kernel
theorem dX2_reopen_26 : decode cX2_reopen 26 = .ok (.iload_n 2, 1) := by decide +kernel
theorem dX2_reopen_27 : decode cX2_reopen 27 = .ok (.invokevirtual 100, 3) := by decide +kernel
theorem dX2_reopen_30 : decode cX2_reopen 30 = .ok (.istore 4, 2) := by decide +kernel
theorem dX2_reopen_32 : decode cX2_reopen 32 = .ok (.iinc 3 1, 3) := by decide +kernel
theorem dX2_reopen_35 : decode cX2_reopen 35 = .ok (.goto (-16), 3) := by decide +kernel
theorem dX2_reopen_38 : decode cX2_reopen 38 = .ok (.iinc 2 1, 3) := by decide +kernel
theorem dX2_reopen_41 : decode cX2_reopen 41 = .ok (.goto (-29), 3) := by decide +kernel
theorem dX2_reopen_44 : decode cX2_reopen 44 = .ok (.iconst 0, 1) := by decide +kernel
theorem dX2_reopen_45 : decode cX2_reopen 45 = .ok (.istore_n 2, 1) := by decide +kernel
theorem dX2_reopen_46 : decode cX2_reopen 46 = .ok (.iload_n 2, 1) := by decide +kernel
theorem dX2_reopen_47 : decode cX2_reopen 47 = .ok (.iconst 3, 1) := by decide +kernel
theorem dX2_reopen_48 : decode cX2_reopen 48 = .ok (.if_icmp .ge 53, 3) := by decide +kernel
theorem dX2_reopen_51 : decode cX2_reopen 51 = .ok (.aload_n 0, 1) := by decide +kernel
theorem dX2_reopen_52 : decode cX2_reopen 52 = .ok (.getfield 13, 3) := by decide +kernel
theorem dX2_reopen_55 : decode cX2_reopen 55 = .ok (.iload_n 2, 1) := by decide +kernel
theorem dX2_reopen_56 : decode cX2_reopen 56 = .ok (.iaload, 1) := by decide +kernel
theorem dX2_reopen_57 : decode cX2_reopen 57 = .ok (.istore_n 3, 1) := by decide +kernel
theorem dX2_reopen_58 : decode cX2_reopen 58 = .ok (.iload_n 3, 1) := by decide +kernel
theorem dX2_reopen_59 : decode cX2_reopen 59 = .ok (.bipush 24, 2) := by decide +kernel
theorem dX2_reopen_61 : decode cX2_reopen 61 = .ok (.iload_n 1, 1) := by decide +kernel
theorem dX2_reopen_62 : decode cX2_reopen 62 = .ok (.imul, 1) := by decide +kernel
theorem dX2_reopen_63 : decode cX2_reopen 63 = .ok (.if_icmp .ge 22, 3) := by decide +kernel
theorem dX2_reopen_66 : decode cX2_reopen 66 = .ok (.aload_n 0, 1) := by decide +kernel
theorem dX2_reopen_67 : decode cX2_reopen 67 = .ok (.getfield 7, 3) := by decide +kernel
theorem dX2_reopen_70 : decode cX2_reopen 70 = .ok (.sipush 1536, 3) := by decide +kernel
theorem dX2_reopen_73 : decode cX2_reopen 73 = .ok (.iload_n 2, 1) := by decide +kernel
theorem dX2_reopen_74 : decode cX2_reopen 74 = .ok (.imul, 1) := by decide +kernel
theorem dX2_reopen_75 : decode cX2_reopen 75 = .ok (.iload_n 3, 1) := by decide +kernel
theorem dX2_reopen_76 : decode cX2_reopen 76 = .ok (.iadd, 1) := by decide +kernel
theorem dX2_reopen_77 : decode cX2_reopen 77 = .ok (.iconst 0, 1) := by decide +kernel
theorem dX2_reopen_78 : decode cX2_reopen 78 = .ok (.iastore, 1) := by decide +kernel
theorem dX2_reopen_79 : decode cX2_reopen 79 = .ok (.iinc 3 1, 3) := by decide +kernel
theorem dX2_reopen_82 : decode cX2_reopen 82 = .ok (.goto (-24), 3) := by decide +kernel
theorem dX2_reopen_85 : decode cX2_reopen 85 = .ok (.aload_n 0, 1) := by decide +kernel
theorem dX2_reopen_86 : decode cX2_reopen 86 = .ok (.getfield 13, 3) := by decide +kernel
theorem dX2_reopen_89 : decode cX2_reopen 89 = .ok (.iload_n 2, 1) := by decide +kernel
theorem dX2_reopen_90 : decode cX2_reopen 90 = .ok (.bipush 24, 2) := by decide +kernel
theorem dX2_reopen_92 : decode cX2_reopen 92 = .ok (.iload_n 1, 1) := by decide +kernel
theorem dX2_reopen_93 : decode cX2_reopen 93 = .ok (.imul, 1) := by decide +kernel
theorem dX2_reopen_94 : decode cX2_reopen 94 = .ok (.iastore, 1) := by decide +kernel
theorem dX2_reopen_95 : decode cX2_reopen 95 = .ok (.iinc 2 1, 3) := by decide +kernel
theorem dX2_reopen_98 : decode cX2_reopen 98 = .ok (.goto (-52), 3) := by decide +kernel
theorem dX2_reopen_101 : decode cX2_reopen 101 = .ok (.aload_n 0, 1) := by decide +kernel
theorem dX2_reopen_102 : decode cX2_reopen 102 = .ok (.iconst 0, 1) := by decide +kernel
theorem dX2_reopen_103 : decode cX2_reopen 103 = .ok (.putfield 72, 3) := by decide +kernel
theorem dX2_reopen_106 : decode cX2_reopen 106 = .ok (.iconst 0, 1) := by decide +kernel
theorem dX2_reopen_107 : decode cX2_reopen 107 = .ok (.istore_n 2, 1) := by decide +kernel
theorem dX2_reopen_108 : decode cX2_reopen 108 = .ok (.iconst 0, 1) := by decide +kernel
theorem dX2_reopen_109 : decode cX2_reopen 109 = .ok (.istore_n 3, 1) := by decide +kernel
theorem dX2_reopen_110 : decode cX2_reopen 110 = .ok (.iload_n 3, 1) := by decide +kernel
theorem dX2_reopen_111 : decode cX2_reopen 111 = .ok (.iconst 2, 1) := by decide +kernel
theorem dX2_reopen_112 : decode cX2_reopen 112 = .ok (.iload_n 1, 1) := by decide +kernel
theorem dX2_reopen_113 : decode cX2_reopen 113 = .ok (.imul, 1) := by decide +kernel
theorem dX2_reopen_114 : decode cX2_reopen 114 = .ok (.if_icmp .ge 40, 3) := by decide +kernel
theorem dX2_reopen_117 : decode cX2_reopen 117 = .ok (.iload_n 2, 1) := by decide +kernel
theorem dX2_reopen_118 : decode cX2_reopen 118 = .ok (.aload_n 0, 1) := by decide +kernel
theorem dX2_reopen_119 : decode cX2_reopen 119 = .ok (.iload_n 3, 1) := by decide +kernel
theorem dX2_reopen_120 : decode cX2_reopen 120 = .ok (.invokestatic 68, 3) := by decide +kernel
theorem dX2_reopen_123 : decode cX2_reopen 123 = .ok (.iload_n 3, 1) := by decide +kernel
theorem dX2_reopen_124 : decode cX2_reopen 124 = .ok (.iconst 2, 1) := by decide +kernel
theorem dX2_reopen_125 : decode cX2_reopen 125 = .ok (.idiv, 1) := by decide +kernel
theorem dX2_reopen_126 : decode cX2_reopen 126 = .ok (.invokevirtual 91, 3) := by decide +kernel
theorem dX2_reopen_129 : decode cX2_reopen 129 = .ok (.ifCond .eq 16, 3) := by decide +kernel
theorem dX2_reopen_132 : decode cX2_reopen 132 = .ok (.aload_n 0, 1) := by decide +kernel
theorem dX2_reopen_133 : decode cX2_reopen 133 = .ok (.getfield 25, 3) := by decide +kernel
theorem dX2_reopen_136 : decode cX2_reopen 136 = .ok (.iconst 3, 1) := by decide +kernel
theorem dX2_reopen_137 : decode cX2_reopen 137 = .ok (.iaload, 1) := by decide +kernel
theorem dX2_reopen_138 : decode cX2_reopen 138 = .ok (.ifCond .eq 7, 3) := by decide +kernel
theorem dX2_reopen_141 : decode cX2_reopen 141 = .ok (.iconst 1, 1) := by decide +kernel
theorem dX2_reopen_142 : decode cX2_reopen 142 = .ok (.goto 4, 3) := by decide +kernel
theorem dX2_reopen_145 : decode cX2_reopen 145 = .ok (.iconst 0, 1) := by decide +kernel
theorem dX2_reopen_146 : decode cX2_reopen 146 = .ok (.iadd, 1) := by decide +kernel
theorem dX2_reopen_147 : decode cX2_reopen 147 = .ok (.istore_n 2, 1) := by decide +kernel
theorem dX2_reopen_148 : decode cX2_reopen 148 = .ok (.iinc 3 1, 3) := by decide +kernel
theorem dX2_reopen_151 : decode cX2_reopen 151 = .ok (.goto (-41), 3) := by decide +kernel
theorem dX2_reopen_154 : decode cX2_reopen 154 = .ok (.iload_n 2, 1) := by decide +kernel
theorem dX2_reopen_155 : decode cX2_reopen 155 = .ok (.ireturn, 1) := by decide +kernel
set_option maxRecDepth 20000 in
theorem ggX2_scrub_X2_stripes : GoodIn wsX2_scrub wsX2_stripes := goodIn_r _ [8, 2, 41, 42, 43, 44, 45, 46, 47, 48, 49, 50, 51, 52, 53] (by decide +kernel) (by decide +kernel)
set_option maxRecDepth 20000 in
theorem gX2_scrub_X2_stripes : GoodIn wsX2_scrub (wsV RX2 76 RX2 yX2_stripes wsX2_stripes) := goodIn_app (goodIn_of _ (by decide +kernel)) ggX2_scrub_X2_stripes
set_option maxRecDepth 20000 in
theorem ggX2_scrub_X2_mend : GoodIn wsX2_scrub wsX2_mend := goodIn_r _ [12, 13, 14, 15, 16, 7, 17, 2, 18, 19, 20, 21, 22, 23, 24, 25, 26, 27, 28, 29, 30, 31, 32, 33, 34, 35, 36, 37, 38, 39, 40, 41, 42, 43, 44, 45, 46, 47, 48, 49, 50, 51, 52, 53] (by decide +kernel) (by decide +kernel)
set_option maxRecDepth 20000 in
theorem gX2_scrub_X2_mend : GoodIn wsX2_scrub (wsV RX2 100 RX2 yX2_mend wsX2_mend) := goodIn_app (goodIn_of _ (by decide +kernel)) ggX2_scrub_X2_mend
theorem dX2_scrub_0 : decode cX2_scrub 0 = .ok (.aload_n 0, 1) := by decide +kernel
theorem dX2_scrub_1 : decode cX2_scrub 1 = .ok (.iconst 0, 1) := by decide +kernel
theorem dX2_scrub_2 : decode cX2_scrub 2 = .ok (.putfield 32, 3) := by decide +kernel
theorem dX2_scrub_5 : decode cX2_scrub 5 = .ok (.iconst 3, 1) := by decide +kernel
theorem dX2_scrub_6 : decode cX2_scrub 6 = .ok (.aload_n 0, 1) := by decide +kernel
theorem dX2_scrub_7 : decode cX2_scrub 7 = .ok (.invokevirtual 76, 3) := by decide +kernel
theorem dX2_scrub_10 : decode cX2_scrub 10 = .ok (.imul, 1) := by decide +kernel
theorem dX2_scrub_11 : decode cX2_scrub 11 = .ok (.istore_n 2, 1) := by decide +kernel
theorem dX2_scrub_12 : decode cX2_scrub 12 = .ok (.iconst 1, 1) := by decide +kernel
theorem dX2_scrub_13 : decode cX2_scrub 13 = .ok (.istore_n 3, 1) := by decide +kernel
theorem dX2_scrub_14 : decode cX2_scrub 14 = .ok (.iconst 0, 1) := by decide +kernel
theorem dX2_scrub_15 : decode cX2_scrub 15 = .ok (.istore 4, 2) := by decide +kernel
theorem dX2_scrub_17 : decode cX2_scrub 17 = .ok (.iload 4, 2) := by decide +kernel
theorem dX2_scrub_19 : decode cX2_scrub 19 = .ok (.iconst 3, 1) := by decide +kernel
theorem dX2_scrub_20 : decode cX2_scrub 20 = .ok (.if_icmp .ge 35, 3) := by decide +kernel
theorem dX2_scrub_23 : decode cX2_scrub 23 = .ok (.iload_n 3, 1) := by decide +kernel
theorem dX2_scrub_24 : decode cX2_scrub 24 = .ok (.ifCond .eq 23, 3) := by decide +kernel
theorem dX2_scrub_27 : decode cX2_scrub 27 = .ok (.iconst 3, 1) := by decide +kernel
theorem dX2_scrub_28 : decode cX2_scrub 28 = .ok (.aload_n 0, 1) := by decide +kernel
theorem dX2_scrub_29 : decode cX2_scrub 29 = .ok (.getfield 13, 3) := by decide +kernel
theorem dX2_scrub_32 : decode cX2_scrub 32 = .ok (.iload 4, 2) := by decide +kernel
theorem dX2_scrub_34 : decode cX2_scrub 34 = .ok (.iaload, 1) := by decide +kernel
theorem dX2_scrub_35 : decode cX2_scrub 35 = .ok (.imul, 1) := by decide +kernel
theorem dX2_scrub_36 : decode cX2_scrub 36 = .ok (.bipush 24, 2) := by decide +kernel
theorem dX2_scrub_38 : decode cX2_scrub 38 = .ok (.iload_n 2, 1) := by decide +kernel
theorem dX2_scrub_39 : decode cX2_scrub 39 = .ok (.imul, 1) := by decide +kernel
theorem dX2_scrub_40 : decode cX2_scrub 40 = .ok (.if_icmp .ne 7, 3) := by decide +kernel
theorem dX2_scrub_43 : decode cX2_scrub 43 = .ok (.iconst 1, 1) := by decide +kernel
theorem dX2_scrub_44 : decode cX2_scrub 44 = .ok (.goto 4, 3) := by decide +kernel
theorem dX2_scrub_47 : decode cX2_scrub 47 = .ok (.iconst 0, 1) := by decide +kernel
theorem dX2_scrub_48 : decode cX2_scrub 48 = .ok (.istore_n 3, 1) := by decide +kernel
theorem dX2_scrub_49 : decode cX2_scrub 49 = .ok (.iinc 4 1, 3) := by decide +kernel
theorem dX2_scrub_52 : decode cX2_scrub 52 = .ok (.goto (-35), 3) := by decide +kernel
theorem dX2_scrub_55 : decode cX2_scrub 55 = .ok (.iload_n 1, 1) := by decide +kernel
theorem dX2_scrub_56 : decode cX2_scrub 56 = .ok (.iconst 1, 1) := by decide +kernel
theorem dX2_scrub_57 : decode cX2_scrub 57 = .ok (.if_icmp .lt 7, 3) := by decide +kernel
theorem dX2_scrub_60 : decode cX2_scrub 60 = .ok (.iload_n 3, 1) := by decide +kernel
theorem dX2_scrub_61 : decode cX2_scrub 61 = .ok (.ifCond .ne 5, 3) := by decide +kernel
theorem dX2_scrub_64 : decode cX2_scrub 64 = .ok (.iconst (-1), 1) := by decide +kernel
theorem dX2_scrub_65 : decode cX2_scrub 65 = .ok (.ireturn, 1) := by decide +kernel
theorem dX2_scrub_66 : decode cX2_scrub 66 = .ok (.iload_n 2, 1) := by decide +kernel
theorem dX2_scrub_67 : decode cX2_scrub 67 = .ok (.ifCond .ne 5, 3) := by decide +kernel
theorem dX2_scrub_70 : decode cX2_scrub 70 = .ok (.iconst 0, 1) := by decide +kernel
theorem dX2_scrub_71 : decode cX2_scrub 71 = .ok (.ireturn, 1) := by decide +kernel
theorem dX2_scrub_72 : decode cX2_scrub 72 = .ok (.aload_n 0, 1) := by decide +kernel
theorem dX2_scrub_73 : decode cX2_scrub 73 = .ok (.aload_n 0, 1) := by decide +kernel
theorem dX2_scrub_74 : decode cX2_scrub 74 = .ok (.getfield 103, 3) := by decide +kernel
theorem dX2_scrub_77 : decode cX2_scrub 77 = .ok (.iload_n 2, 1) := by decide +kernel
theorem dX2_scrub_78 : decode cX2_scrub 78 = .ok (.if_icmp .lt 7, 3) := by decide +kernel
theorem dX2_scrub_81 : decode cX2_scrub 81 = .ok (.iconst 0, 1) := by decide +kernel
theorem dX2_scrub_82 : decode cX2_scrub 82 = .ok (.goto 7, 3) := by decide +kernel
theorem dX2_scrub_85 : decode cX2_scrub 85 = .ok (.aload_n 0, 1) := by decide +kernel
theorem dX2_scrub_86 : decode cX2_scrub 86 = .ok (.getfield 103, 3) := by decide +kernel
theorem dX2_scrub_89 : decode cX2_scrub 89 = .ok (.putfield 103, 3) := by decide +kernel
theorem dX2_scrub_92 : decode cX2_scrub 92 = .ok (.iconst 0, 1) := by decide +kernel
theorem dX2_scrub_93 : decode cX2_scrub 93 = .ok (.istore 4, 2) := by decide +kernel
theorem dX2_scrub_95 : decode cX2_scrub 95 = .ok (.iload 4, 2) := by decide +kernel
theorem dX2_scrub_97 : decode cX2_scrub 97 = .ok (.iload_n 2, 1) := by decide +kernel
theorem dX2_scrub_98 : decode cX2_scrub 98 = .ok (.if_icmp .ge 40, 3) := by decide +kernel
theorem dX2_scrub_101 : decode cX2_scrub 101 = .ok (.iload 4, 2) := by decide +kernel
theorem dX2_scrub_103 : decode cX2_scrub 103 = .ok (.iload_n 1, 1) := by decide +kernel
theorem dX2_scrub_104 : decode cX2_scrub 104 = .ok (.if_icmp .ge 34, 3) := by decide +kernel
theorem dX2_scrub_107 : decode cX2_scrub 107 = .ok (.aload_n 0, 1) := by decide +kernel
theorem dX2_scrub_108 : decode cX2_scrub 108 = .ok (.getfield 103, 3) := by decide +kernel
theorem dX2_scrub_111 : decode cX2_scrub 111 = .ok (.iload 4, 2) := by decide +kernel
theorem dX2_scrub_113 : decode cX2_scrub 113 = .ok (.iadd, 1) := by decide +kernel
theorem dX2_scrub_114 : decode cX2_scrub 114 = .ok (.iload_n 2, 1) := by decide +kernel
theorem dX2_scrub_115 : decode cX2_scrub 115 = .ok (.irem, 1) := by decide +kernel
theorem dX2_scrub_116 : decode cX2_scrub 116 = .ok (.istore 5, 2) := by decide +kernel
theorem dX2_scrub_118 : decode cX2_scrub 118 = .ok (.aload_n 0, 1) := by decide +kernel
theorem dX2_scrub_119 : decode cX2_scrub 119 = .ok (.iload 5, 2) := by decide +kernel
theorem dX2_scrub_121 : decode cX2_scrub 121 = .ok (.iconst 3, 1) := by decide +kernel
theorem dX2_scrub_122 : decode cX2_scrub 122 = .ok (.irem, 1) := by decide +kernel
theorem dX2_scrub_123 : decode cX2_scrub 123 = .ok (.iload 5, 2) := by decide +kernel
theorem dX2_scrub_125 : decode cX2_scrub 125 = .ok (.iconst 3, 1) := by decide +kernel
theorem dX2_scrub_126 : decode cX2_scrub 126 = .ok (.idiv, 1) := by decide +kernel
theorem dX2_scrub_127 : decode cX2_scrub 127 = .ok (.invokevirtual 100, 3) := by decide +kernel
theorem dX2_scrub_130 : decode cX2_scrub 130 = .ok (.istore 6, 2) := by decide +kernel
theorem dX2_scrub_132 : decode cX2_scrub 132 = .ok (.iinc 4 1, 3) := by decide +kernel
theorem dX2_scrub_135 : decode cX2_scrub 135 = .ok (.goto (-40), 3) := by decide +kernel
theorem dX2_scrub_138 : decode cX2_scrub 138 = .ok (.aload_n 0, 1) := by decide +kernel
theorem dX2_scrub_139 : decode cX2_scrub 139 = .ok (.aload_n 0, 1) := by decide +kernel
theorem dX2_scrub_140 : decode cX2_scrub 140 = .ok (.getfield 103, 3) := by decide +kernel
theorem dX2_scrub_143 : decode cX2_scrub 143 = .ok (.i2l, 1) := by decide +kernel
theorem dX2_scrub_144 : decode cX2_scrub 144 = .ok (.iload_n 1, 1) := by decide +kernel
theorem dX2_scrub_145 : decode cX2_scrub 145 = .ok (.i2l, 1) := by decide +kernel
theorem dX2_scrub_146 : decode cX2_scrub 146 = .ok (.ladd, 1) := by decide +kernel
theorem dX2_scrub_147 : decode cX2_scrub 147 = .ok (.iload_n 2, 1) := by decide +kernel
theorem dX2_scrub_148 : decode cX2_scrub 148 = .ok (.i2l, 1) := by decide +kernel
theorem dX2_scrub_149 : decode cX2_scrub 149 = .ok (.lrem, 1) := by decide +kernel
theorem dX2_scrub_150 : decode cX2_scrub 150 = .ok (.l2i, 1) := by decide +kernel
theorem dX2_scrub_151 : decode cX2_scrub 151 = .ok (.putfield 103, 3) := by decide +kernel
theorem dX2_scrub_154 : decode cX2_scrub 154 = .ok (.iload_n 1, 1) := by decide +kernel
theorem dX2_scrub_155 : decode cX2_scrub 155 = .ok (.ireturn, 1) := by decide +kernel
theorem dX2_mended_0 : decode cX2_mended 0 = .ok (.aload_n 0, 1) := by decide +kernel
theorem dX2_mended_1 : decode cX2_mended 1 = .ok (.iconst 0, 1) := by decide +kernel
theorem dX2_mended_2 : decode cX2_mended 2 = .ok (.putfield 32, 3) := by decide +kernel
theorem dX2_mended_5 : decode cX2_mended 5 = .ok (.aload_n 0, 1) := by decide +kernel
theorem dX2_mended_6 : decode cX2_mended 6 = .ok (.getfield 58, 3) := by decide +kernel
theorem dX2_mended_9 : decode cX2_mended 9 = .ok (.ireturn, 1) := by decide +kernel
set_option maxRecDepth 20000 in
theorem ggX2_badAt_X2_stripes : GoodIn wsX2_badAt wsX2_stripes := goodIn_r _ [6, 7, 18, 19, 20, 21, 22, 23, 24, 25, 26, 27, 28, 29, 30] (by decide +kernel) (by decide +kernel)
set_option maxRecDepth 20000 in
theorem gX2_badAt_X2_stripes : GoodIn wsX2_badAt (wsV RX2 76 RX2 yX2_stripes wsX2_stripes) := goodIn_app (goodIn_of _ (by decide +kernel)) ggX2_badAt_X2_stripes
set_option maxRecDepth 20000 in
theorem ggX2_badAt_X2_isGood : GoodIn wsX2_badAt wsX2_isGood := goodIn_r _ [11, 7, 12, 13, 14, 15, 5, 16, 17, 18, 19, 20, 21, 22, 23, 24, 25, 26, 27, 28, 29, 30] (by decide +kernel) (by decide +kernel)
set_option maxRecDepth 20000 in
theorem gX2_badAt_X2_isGood : GoodIn wsX2_badAt (wsV RX2 41 RX2 yX2_isGood wsX2_isGood) := goodIn_app (goodIn_of _ (by decide +kernel)) ggX2_badAt_X2_isGood
theorem dX2_badAt_0 : decode cX2_badAt 0 = .ok (.aload_n 0, 1) := by decide +kernel
theorem dX2_badAt_1 : decode cX2_badAt 1 = .ok (.iconst 0, 1) := by decide +kernel
theorem dX2_badAt_2 : decode cX2_badAt 2 = .ok (.putfield 32, 3) := by decide +kernel
theorem dX2_badAt_5 : decode cX2_badAt 5 = .ok (.aload_n 0, 1) := by decide +kernel
theorem dX2_badAt_6 : decode cX2_badAt 6 = .ok (.invokevirtual 76, 3) := by decide +kernel
theorem dX2_badAt_9 : decode cX2_badAt 9 = .ok (.istore_n 1, 1) := by decide +kernel
theorem dX2_badAt_10 : decode cX2_badAt 10 = .ok (.iconst 0, 1) := by decide +kernel
theorem dX2_badAt_11 : decode cX2_badAt 11 = .ok (.istore_n 2, 1) := by decide +kernel
theorem dX2_badAt_12 : decode cX2_badAt 12 = .ok (.iload_n 2, 1) := by decide +kernel
theorem dX2_badAt_13 : decode cX2_badAt 13 = .ok (.iload_n 1, 1) := by decide +kernel
theorem dX2_badAt_14 : decode cX2_badAt 14 = .ok (.if_icmp .ge 53, 3) := by decide +kernel
theorem dX2_badAt_17 : decode cX2_badAt 17 = .ok (.iconst 0, 1) := by decide +kernel
theorem dX2_badAt_18 : decode cX2_badAt 18 = .ok (.istore_n 3, 1) := by decide +kernel
theorem dX2_badAt_19 : decode cX2_badAt 19 = .ok (.iconst 0, 1) := by decide +kernel
theorem dX2_badAt_20 : decode cX2_badAt 20 = .ok (.istore 4, 2) := by decide +kernel
theorem dX2_badAt_22 : decode cX2_badAt 22 = .ok (.iload 4, 2) := by decide +kernel
theorem dX2_badAt_24 : decode cX2_badAt 24 = .ok (.iconst 3, 1) := by decide +kernel
theorem dX2_badAt_25 : decode cX2_badAt 25 = .ok (.if_icmp .ge 27, 3) := by decide +kernel
theorem dX2_badAt_28 : decode cX2_badAt 28 = .ok (.iload_n 3, 1) := by decide +kernel
theorem dX2_badAt_29 : decode cX2_badAt 29 = .ok (.aload_n 0, 1) := by decide +kernel
theorem dX2_badAt_30 : decode cX2_badAt 30 = .ok (.iload 4, 2) := by decide +kernel
theorem dX2_badAt_32 : decode cX2_badAt 32 = .ok (.iload_n 2, 1) := by decide +kernel
theorem dX2_badAt_33 : decode cX2_badAt 33 = .ok (.invokevirtual 41, 3) := by decide +kernel
theorem dX2_badAt_36 : decode cX2_badAt 36 = .ok (.ifCond .eq 7, 3) := by decide +kernel
theorem dX2_badAt_39 : decode cX2_badAt 39 = .ok (.iconst 0, 1) := by decide +kernel
theorem dX2_badAt_40 : decode cX2_badAt 40 = .ok (.goto 4, 3) := by decide +kernel
theorem dX2_badAt_43 : decode cX2_badAt 43 = .ok (.iconst 1, 1) := by decide +kernel
theorem dX2_badAt_44 : decode cX2_badAt 44 = .ok (.iadd, 1) := by decide +kernel
theorem dX2_badAt_45 : decode cX2_badAt 45 = .ok (.istore_n 3, 1) := by decide +kernel
theorem dX2_badAt_46 : decode cX2_badAt 46 = .ok (.iinc 4 1, 3) := by decide +kernel
theorem dX2_badAt_49 : decode cX2_badAt 49 = .ok (.goto (-27), 3) := by decide +kernel
theorem dX2_badAt_52 : decode cX2_badAt 52 = .ok (.iload_n 3, 1) := by decide +kernel
theorem dX2_badAt_53 : decode cX2_badAt 53 = .ok (.iconst 1, 1) := by decide +kernel
theorem dX2_badAt_54 : decode cX2_badAt 54 = .ok (.if_icmp .le 7, 3) := by decide +kernel
theorem dX2_badAt_57 : decode cX2_badAt 57 = .ok (.iconst 1, 1) := by decide +kernel
theorem dX2_badAt_58 : decode cX2_badAt 58 = .ok (.iload_n 2, 1) := by decide +kernel
theorem dX2_badAt_59 : decode cX2_badAt 59 = .ok (.iadd, 1) := by decide +kernel
theorem dX2_badAt_60 : decode cX2_badAt 60 = .ok (.ireturn, 1) := by decide +kernel
theorem dX2_badAt_61 : decode cX2_badAt 61 = .ok (.iinc 2 1, 3) := by decide +kernel
theorem dX2_badAt_64 : decode cX2_badAt 64 = .ok (.goto (-52), 3) := by decide +kernel
theorem dX2_badAt_67 : decode cX2_badAt 67 = .ok (.iconst 0, 1) := by decide +kernel
theorem dX2_badAt_68 : decode cX2_badAt 68 = .ok (.ireturn, 1) := by decide +kernel
set_option maxRecDepth 20000 in
theorem ggX2_byteAt_X2_in : GoodIn wsX2_byteAt wsX2_in := goodIn_r _ [8] (by decide +kernel) (by decide +kernel)
set_option maxRecDepth 20000 in
theorem gX2_byteAt_X2_in : GoodIn wsX2_byteAt (va_wsS RX2 61 yX2_in wsX2_in) := goodIn_app (goodIn_of _ (by decide +kernel)) ggX2_byteAt_X2_in
theorem dX2_byteAt_0 : decode cX2_byteAt 0 = .ok (.aload_n 0, 1) := by decide +kernel
theorem dX2_byteAt_1 : decode cX2_byteAt 1 = .ok (.iload_n 1, 1) := by decide +kernel
theorem dX2_byteAt_2 : decode cX2_byteAt 2 = .ok (.iconst 0, 1) := by decide +kernel
theorem dX2_byteAt_3 : decode cX2_byteAt 3 = .ok (.iconst 2, 1) := by decide +kernel
theorem dX2_byteAt_4 : decode cX2_byteAt 4 = .ok (.invokestatic 61, 3) := by decide +kernel
theorem dX2_byteAt_7 : decode cX2_byteAt 7 = .ok (.ifCond .eq 27, 3) := by decide +kernel
theorem dX2_byteAt_10 : decode cX2_byteAt 10 = .ok (.iload_n 2, 1) := by decide +kernel
theorem dX2_byteAt_11 : decode cX2_byteAt 11 = .ok (.iconst 0, 1) := by decide +kernel
theorem dX2_byteAt_12 : decode cX2_byteAt 12 = .ok (.aload_n 0, 1) := by decide +kernel
theorem dX2_byteAt_13 : decode cX2_byteAt 13 = .ok (.getfield 28, 3) := by decide +kernel
theorem dX2_byteAt_16 : decode cX2_byteAt 16 = .ok (.iconst 1, 1) := by decide +kernel
theorem dX2_byteAt_17 : decode cX2_byteAt 17 = .ok (.isub, 1) := by decide +kernel
theorem dX2_byteAt_18 : decode cX2_byteAt 18 = .ok (.invokestatic 61, 3) := by decide +kernel
theorem dX2_byteAt_21 : decode cX2_byteAt 21 = .ok (.ifCond .eq 13, 3) := by decide +kernel
theorem dX2_byteAt_24 : decode cX2_byteAt 24 = .ok (.iload_n 3, 1) := by decide +kernel
theorem dX2_byteAt_25 : decode cX2_byteAt 25 = .ok (.iconst 0, 1) := by decide +kernel
theorem dX2_byteAt_26 : decode cX2_byteAt 26 = .ok (.bipush 23, 2) := by decide +kernel
theorem dX2_byteAt_28 : decode cX2_byteAt 28 = .ok (.invokestatic 61, 3) := by decide +kernel
theorem dX2_byteAt_31 : decode cX2_byteAt 31 = .ok (.ifCond .ne 7, 3) := by decide +kernel
theorem dX2_byteAt_34 : decode cX2_byteAt 34 = .ok (.iconst 1, 1) := by decide +kernel
theorem dX2_byteAt_35 : decode cX2_byteAt 35 = .ok (.goto 4, 3) := by decide +kernel
theorem dX2_byteAt_38 : decode cX2_byteAt 38 = .ok (.iconst 0, 1) := by decide +kernel
theorem dX2_byteAt_39 : decode cX2_byteAt 39 = .ok (.putfield 32, 3) := by decide +kernel
theorem dX2_byteAt_42 : decode cX2_byteAt 42 = .ok (.aload_n 0, 1) := by decide +kernel
theorem dX2_byteAt_43 : decode cX2_byteAt 43 = .ok (.getfield 32, 3) := by decide +kernel
theorem dX2_byteAt_46 : decode cX2_byteAt 46 = .ok (.ifCond .le 5, 3) := by decide +kernel
theorem dX2_byteAt_49 : decode cX2_byteAt 49 = .ok (.iconst 0, 1) := by decide +kernel
theorem dX2_byteAt_50 : decode cX2_byteAt 50 = .ok (.ireturn, 1) := by decide +kernel
theorem dX2_byteAt_51 : decode cX2_byteAt 51 = .ok (.bipush 24, 2) := by decide +kernel
theorem dX2_byteAt_53 : decode cX2_byteAt 53 = .ok (.iload_n 2, 1) := by decide +kernel
theorem dX2_byteAt_54 : decode cX2_byteAt 54 = .ok (.imul, 1) := by decide +kernel
theorem dX2_byteAt_55 : decode cX2_byteAt 55 = .ok (.iload_n 3, 1) := by decide +kernel
theorem dX2_byteAt_56 : decode cX2_byteAt 56 = .ok (.iadd, 1) := by decide +kernel
theorem dX2_byteAt_57 : decode cX2_byteAt 57 = .ok (.aload_n 0, 1) := by decide +kernel
theorem dX2_byteAt_58 : decode cX2_byteAt 58 = .ok (.getfield 13, 3) := by decide +kernel
theorem dX2_byteAt_61 : decode cX2_byteAt 61 = .ok (.iload_n 1, 1) := by decide +kernel
theorem dX2_byteAt_62 : decode cX2_byteAt 62 = .ok (.iaload, 1) := by decide +kernel
theorem dX2_byteAt_63 : decode cX2_byteAt 63 = .ok (.if_icmp .ge 23, 3) := by decide +kernel
theorem dX2_byteAt_66 : decode cX2_byteAt 66 = .ok (.aload_n 0, 1) := by decide +kernel
theorem dX2_byteAt_67 : decode cX2_byteAt 67 = .ok (.getfield 7, 3) := by decide +kernel
theorem dX2_byteAt_70 : decode cX2_byteAt 70 = .ok (.sipush 1536, 3) := by decide +kernel
theorem dX2_byteAt_73 : decode cX2_byteAt 73 = .ok (.iload_n 1, 1) := by decide +kernel
theorem dX2_byteAt_74 : decode cX2_byteAt 74 = .ok (.imul, 1) := by decide +kernel
theorem dX2_byteAt_75 : decode cX2_byteAt 75 = .ok (.bipush 24, 2) := by decide +kernel
theorem dX2_byteAt_77 : decode cX2_byteAt 77 = .ok (.iload_n 2, 1) := by decide +kernel
theorem dX2_byteAt_78 : decode cX2_byteAt 78 = .ok (.imul, 1) := by decide +kernel
theorem dX2_byteAt_79 : decode cX2_byteAt 79 = .ok (.iadd, 1) := by decide +kernel
theorem dX2_byteAt_80 : decode cX2_byteAt 80 = .ok (.iload_n 3, 1) := by decide +kernel
theorem dX2_byteAt_81 : decode cX2_byteAt 81 = .ok (.iadd, 1) := by decide +kernel
theorem dX2_byteAt_82 : decode cX2_byteAt 82 = .ok (.iaload, 1) := by decide +kernel
theorem dX2_byteAt_83 : decode cX2_byteAt 83 = .ok (.goto 4, 3) := by decide +kernel
theorem dX2_byteAt_86 : decode cX2_byteAt 86 = .ok (.iconst 0, 1) := by decide +kernel
theorem dX2_byteAt_87 : decode cX2_byteAt 87 = .ok (.ireturn, 1) := by decide +kernel
set_option maxRecDepth 20000 in
theorem ggX2_same_X2_in : GoodIn wsX2_same wsX2_in := goodIn_r _ [10] (by decide +kernel) (by decide +kernel)
set_option maxRecDepth 20000 in
theorem gX2_same_X2_in : GoodIn wsX2_same (va_wsS RX2 61 yX2_in wsX2_in) := goodIn_app (goodIn_of _ (by decide +kernel)) ggX2_same_X2_in
theorem dX2_same_0 : decode cX2_same 0 = .ok (.aload_n 0, 1) := by decide +kernel
theorem dX2_same_1 : decode cX2_same 1 = .ok (.iconst 0, 1) := by decide +kernel
theorem dX2_same_2 : decode cX2_same 2 = .ok (.putfield 32, 3) := by decide +kernel
theorem dX2_same_5 : decode cX2_same 5 = .ok (.iload_n 1, 1) := by decide +kernel
theorem dX2_same_6 : decode cX2_same 6 = .ok (.iconst 0, 1) := by decide +kernel
theorem dX2_same_7 : decode cX2_same 7 = .ok (.iconst 2, 1) := by decide +kernel
theorem dX2_same_8 : decode cX2_same 8 = .ok (.invokestatic 61, 3) := by decide +kernel
theorem dX2_same_11 : decode cX2_same 11 = .ok (.ifCond .eq 10, 3) := by decide +kernel
theorem dX2_same_14 : decode cX2_same 14 = .ok (.aload_n 0, 1) := by decide +kernel
theorem dX2_same_15 : decode cX2_same 15 = .ok (.getfield 94, 3) := by decide +kernel
theorem dX2_same_18 : decode cX2_same 18 = .ok (.ifCond .ne 10, 3) := by decide +kernel
theorem dX2_same_21 : decode cX2_same 21 = .ok (.iload_n 1, 1) := by decide +kernel
theorem dX2_same_22 : decode cX2_same 22 = .ok (.iconst 0, 1) := by decide +kernel
theorem dX2_same_23 : decode cX2_same 23 = .ok (.iconst 2, 1) := by decide +kernel
theorem dX2_same_24 : decode cX2_same 24 = .ok (.invokestatic 61, 3) := by decide +kernel
theorem dX2_same_27 : decode cX2_same 27 = .ok (.ireturn, 1) := by decide +kernel
theorem dX2_same_28 : decode cX2_same 28 = .ok (.aload_n 0, 1) := by decide +kernel
theorem dX2_same_29 : decode cX2_same 29 = .ok (.getfield 13, 3) := by decide +kernel
theorem dX2_same_32 : decode cX2_same 32 = .ok (.iload_n 1, 1) := by decide +kernel
theorem dX2_same_33 : decode cX2_same 33 = .ok (.iaload, 1) := by decide +kernel
theorem dX2_same_34 : decode cX2_same 34 = .ok (.aload_n 0, 1) := by decide +kernel
theorem dX2_same_35 : decode cX2_same 35 = .ok (.getfield 19, 3) := by decide +kernel
theorem dX2_same_38 : decode cX2_same 38 = .ok (.iload_n 1, 1) := by decide +kernel
theorem dX2_same_39 : decode cX2_same 39 = .ok (.iaload, 1) := by decide +kernel
theorem dX2_same_40 : decode cX2_same 40 = .ok (.if_icmp .ne 7, 3) := by decide +kernel
theorem dX2_same_43 : decode cX2_same 43 = .ok (.iconst 1, 1) := by decide +kernel
theorem dX2_same_44 : decode cX2_same 44 = .ok (.goto 4, 3) := by decide +kernel
theorem dX2_same_47 : decode cX2_same 47 = .ok (.iconst 0, 1) := by decide +kernel
theorem dX2_same_48 : decode cX2_same 48 = .ok (.istore_n 2, 1) := by decide +kernel
theorem dX2_same_49 : decode cX2_same 49 = .ok (.sipush 1536, 3) := by decide +kernel
theorem dX2_same_52 : decode cX2_same 52 = .ok (.iload_n 1, 1) := by decide +kernel
theorem dX2_same_53 : decode cX2_same 53 = .ok (.imul, 1) := by decide +kernel
theorem dX2_same_54 : decode cX2_same 54 = .ok (.istore_n 3, 1) := by decide +kernel
theorem dX2_same_55 : decode cX2_same 55 = .ok (.iload_n 3, 1) := by decide +kernel
theorem dX2_same_56 : decode cX2_same 56 = .ok (.sipush 1536, 3) := by decide +kernel
theorem dX2_same_59 : decode cX2_same 59 = .ok (.iload_n 1, 1) := by decide +kernel
theorem dX2_same_60 : decode cX2_same 60 = .ok (.imul, 1) := by decide +kernel
theorem dX2_same_61 : decode cX2_same 61 = .ok (.aload_n 0, 1) := by decide +kernel
theorem dX2_same_62 : decode cX2_same 62 = .ok (.getfield 13, 3) := by decide +kernel
theorem dX2_same_65 : decode cX2_same 65 = .ok (.iload_n 1, 1) := by decide +kernel
theorem dX2_same_66 : decode cX2_same 66 = .ok (.iaload, 1) := by decide +kernel
theorem dX2_same_67 : decode cX2_same 67 = .ok (.iadd, 1) := by decide +kernel
theorem dX2_same_68 : decode cX2_same 68 = .ok (.if_icmp .ge 34, 3) := by decide +kernel
theorem dX2_same_71 : decode cX2_same 71 = .ok (.iload_n 2, 1) := by decide +kernel
theorem dX2_same_72 : decode cX2_same 72 = .ok (.ifCond .eq 30, 3) := by decide +kernel
theorem dX2_same_75 : decode cX2_same 75 = .ok (.aload_n 0, 1) := by decide +kernel
theorem dX2_same_76 : decode cX2_same 76 = .ok (.getfield 7, 3) := by decide +kernel
theorem dX2_same_79 : decode cX2_same 79 = .ok (.iload_n 3, 1) := by decide +kernel
theorem dX2_same_80 : decode cX2_same 80 = .ok (.iaload, 1) := by decide +kernel
theorem dX2_same_81 : decode cX2_same 81 = .ok (.aload_n 0, 1) := by decide +kernel
theorem dX2_same_82 : decode cX2_same 82 = .ok (.getfield 16, 3) := by decide +kernel
theorem dX2_same_85 : decode cX2_same 85 = .ok (.iload_n 3, 1) := by decide +kernel
theorem dX2_same_86 : decode cX2_same 86 = .ok (.iaload, 1) := by decide +kernel
theorem dX2_same_87 : decode cX2_same 87 = .ok (.if_icmp .ne 7, 3) := by decide +kernel
theorem dX2_same_90 : decode cX2_same 90 = .ok (.iconst 1, 1) := by decide +kernel
theorem dX2_same_91 : decode cX2_same 91 = .ok (.goto 4, 3) := by decide +kernel
theorem dX2_same_94 : decode cX2_same 94 = .ok (.iconst 0, 1) := by decide +kernel
theorem dX2_same_95 : decode cX2_same 95 = .ok (.istore_n 2, 1) := by decide +kernel
theorem dX2_same_96 : decode cX2_same 96 = .ok (.iinc 3 1, 3) := by decide +kernel
theorem dX2_same_99 : decode cX2_same 99 = .ok (.goto (-44), 3) := by decide +kernel
theorem dX2_same_102 : decode cX2_same 102 = .ok (.iload_n 2, 1) := by decide +kernel
theorem dX2_same_103 : decode cX2_same 103 = .ok (.ireturn, 1) := by decide +kernel
set_option maxRecDepth 20000 in
theorem ggX2_odd_X2_stripes : GoodIn wsX2_odd wsX2_stripes := goodIn_r _ [6, 7, 11, 12, 13, 14, 15, 16, 17, 18, 19, 20, 21, 22, 23] (by decide +kernel) (by decide +kernel)
set_option maxRecDepth 20000 in
theorem gX2_odd_X2_stripes : GoodIn wsX2_odd (wsV RX2 76 RX2 yX2_stripes wsX2_stripes) := goodIn_app (goodIn_of _ (by decide +kernel)) ggX2_odd_X2_stripes
set_option maxRecDepth 20000 in
theorem ggX2_odd_X2_in : GoodIn wsX2_odd wsX2_in := goodIn_r _ [10] (by decide +kernel) (by decide +kernel)
set_option maxRecDepth 20000 in
theorem gX2_odd_X2_in : GoodIn wsX2_odd (va_wsS RX2 61 yX2_in wsX2_in) := goodIn_app (goodIn_of _ (by decide +kernel)) ggX2_odd_X2_in
theorem dX2_odd_0 : decode cX2_odd 0 = .ok (.aload_n 0, 1) := by decide +kernel
theorem dX2_odd_1 : decode cX2_odd 1 = .ok (.iconst 0, 1) := by decide +kernel
theorem dX2_odd_2 : decode cX2_odd 2 = .ok (.putfield 32, 3) := by decide +kernel
theorem dX2_odd_5 : decode cX2_odd 5 = .ok (.iload_n 1, 1) := by decide +kernel
theorem dX2_odd_6 : decode cX2_odd 6 = .ok (.iconst 0, 1) := by decide +kernel
theorem dX2_odd_7 : decode cX2_odd 7 = .ok (.aload_n 0, 1) := by decide +kernel
theorem dX2_odd_8 : decode cX2_odd 8 = .ok (.invokevirtual 76, 3) := by decide +kernel
theorem dX2_odd_11 : decode cX2_odd 11 = .ok (.iconst 1, 1) := by decide +kernel
theorem dX2_odd_12 : decode cX2_odd 12 = .ok (.isub, 1) := by decide +kernel
theorem dX2_odd_13 : decode cX2_odd 13 = .ok (.invokestatic 61, 3) := by decide +kernel
theorem dX2_odd_16 : decode cX2_odd 16 = .ok (.ifCond .eq 9, 3) := by decide +kernel
theorem dX2_odd_19 : decode cX2_odd 19 = .ok (.iload_n 1, 1) := by decide +kernel
theorem dX2_odd_20 : decode cX2_odd 20 = .ok (.iconst 3, 1) := by decide +kernel
theorem dX2_odd_21 : decode cX2_odd 21 = .ok (.irem, 1) := by decide +kernel
theorem dX2_odd_22 : decode cX2_odd 22 = .ok (.goto 4, 3) := by decide +kernel
theorem dX2_odd_25 : decode cX2_odd 25 = .ok (.iconst (-1), 1) := by decide +kernel
theorem dX2_odd_26 : decode cX2_odd 26 = .ok (.ireturn, 1) := by decide +kernel
set_option maxRecDepth 20000 in
theorem ggX2_size_X2_in : GoodIn wsX2_size wsX2_in := goodIn_r _ [6] (by decide +kernel) (by decide +kernel)
set_option maxRecDepth 20000 in
theorem gX2_size_X2_in : GoodIn wsX2_size (va_wsS RX2 61 yX2_in wsX2_in) := goodIn_app (goodIn_of _ (by decide +kernel)) ggX2_size_X2_in
theorem dX2_size_0 : decode cX2_size 0 = .ok (.aload_n 0, 1) := by decide +kernel
theorem dX2_size_1 : decode cX2_size 1 = .ok (.iconst 0, 1) := by decide +kernel
theorem dX2_size_2 : decode cX2_size 2 = .ok (.putfield 32, 3) := by decide +kernel
theorem dX2_size_5 : decode cX2_size 5 = .ok (.iload_n 1, 1) := by decide +kernel
theorem dX2_size_6 : decode cX2_size 6 = .ok (.iconst 0, 1) := by decide +kernel
theorem dX2_size_7 : decode cX2_size 7 = .ok (.iconst 2, 1) := by decide +kernel
theorem dX2_size_8 : decode cX2_size 8 = .ok (.invokestatic 61, 3) := by decide +kernel
theorem dX2_size_11 : decode cX2_size 11 = .ok (.ifCond .eq 12, 3) := by decide +kernel
theorem dX2_size_14 : decode cX2_size 14 = .ok (.aload_n 0, 1) := by decide +kernel
theorem dX2_size_15 : decode cX2_size 15 = .ok (.getfield 13, 3) := by decide +kernel
theorem dX2_size_18 : decode cX2_size 18 = .ok (.iload_n 1, 1) := by decide +kernel
theorem dX2_size_19 : decode cX2_size 19 = .ok (.iaload, 1) := by decide +kernel
theorem dX2_size_20 : decode cX2_size 20 = .ok (.goto 4, 3) := by decide +kernel
theorem dX2_size_23 : decode cX2_size 23 = .ok (.iconst (-1), 1) := by decide +kernel
theorem dX2_size_24 : decode cX2_size 24 = .ok (.ireturn, 1) := by decide +kernel
theorem dJx00060_init_a7421_0 : decode cJx00060_init_a7421 0 = .ok (.aload_n 0, 1) := by decide +kernel
theorem dJx00060_init_a7421_1 : decode cJx00060_init_a7421 1 = .ok (.aload_n 1, 1) := by decide +kernel
theorem dJx00060_init_a7421_2 : decode cJx00060_init_a7421 2 = .ok (.invokespecial 7, 3) := by decide +kernel
theorem dJx00060_init_a7421_5 : decode cJx00060_init_a7421 5 = .ok (.return_, 1) := by decide +kernel
theorem dJ9_max_7cf53_0 : decode cJ9_max_7cf53 0 = .ok (.iload_n 0, 1) := by decide +kernel
theorem dJ9_max_7cf53_1 : decode cJ9_max_7cf53 1 = .ok (.iload_n 1, 1) := by decide +kernel
theorem dJ9_max_7cf53_2 : decode cJ9_max_7cf53 2 = .ok (.if_icmp .lt 7, 3) := by decide +kernel
theorem dJ9_max_7cf53_5 : decode cJ9_max_7cf53 5 = .ok (.iload_n 0, 1) := by decide +kernel
theorem dJ9_max_7cf53_6 : decode cJ9_max_7cf53 6 = .ok (.goto 4, 3) := by decide +kernel
theorem dJ9_max_7cf53_9 : decode cJ9_max_7cf53 9 = .ok (.iload_n 1, 1) := by decide +kernel
theorem dJ9_max_7cf53_10 : decode cJ9_max_7cf53 10 = .ok (.ireturn, 1) := by decide +kernel
theorem dJ9_min_7cf53_0 : decode cJ9_min_7cf53 0 = .ok (.iload_n 0, 1) := by decide +kernel
theorem dJ9_min_7cf53_1 : decode cJ9_min_7cf53 1 = .ok (.iload_n 1, 1) := by decide +kernel
theorem dJ9_min_7cf53_2 : decode cJ9_min_7cf53 2 = .ok (.if_icmp .gt 7, 3) := by decide +kernel
theorem dJ9_min_7cf53_5 : decode cJ9_min_7cf53 5 = .ok (.iload_n 0, 1) := by decide +kernel
theorem dJ9_min_7cf53_6 : decode cJ9_min_7cf53 6 = .ok (.goto 4, 3) := by decide +kernel
theorem dJ9_min_7cf53_9 : decode cJ9_min_7cf53 9 = .ok (.iload_n 1, 1) := by decide +kernel
theorem dJ9_min_7cf53_10 : decode cJ9_min_7cf53 10 = .ok (.ireturn, 1) := by decide +kernel
theorem dL_cell_0 : decode cL_cell 0 = .ok (.iload_n 1, 1) := by decide +kernel
theorem dL_cell_1 : decode cL_cell 1 = .ok (.aload_n 0, 1) := by decide +kernel
theorem dL_cell_2 : decode cL_cell 2 = .ok (.arraylength, 1) := by decide +kernel
theorem dL_cell_3 : decode cL_cell 3 = .ok (.if_icmp .ge 9, 3) := by decide +kernel
theorem dL_cell_6 : decode cL_cell 6 = .ok (.aload_n 0, 1) := by decide +kernel
theorem dL_cell_7 : decode cL_cell 7 = .ok (.iload_n 1, 1) := by decide +kernel
theorem dL_cell_8 : decode cL_cell 8 = .ok (.iaload, 1) := by decide +kernel
theorem dL_cell_9 : decode cL_cell 9 = .ok (.goto 4, 3) := by decide +kernel
theorem dL_cell_12 : decode cL_cell 12 = .ok (.iconst 0, 1) := by decide +kernel
theorem dL_cell_13 : decode cL_cell 13 = .ok (.ireturn, 1) := by decide +kernel
set_option maxRecDepth 20000 in
theorem ggL_byteAt_X1_byteAt : GoodIn wsL_byteAt wsX1_byteAt := goodIn_r _ [5, 6, 7, 8, 9, 10, 11, 12, 4, 13, 14, 15, 16, 17, 18, 19, 20, 21, 22, 23, 24, 25, 26, 27, 28, 29, 30, 31, 32, 33, 34, 35, 36, 37, 38] (by decide +kernel) (by decide +kernel)
set_option maxRecDepth 20000 in
theorem gL_byteAt_X1_byteAt : GoodIn wsL_byteAt (wsV RL 7 RX1 yX1_byteAt wsX1_byteAt) := goodIn_app (goodIn_of _ (by decide +kernel)) ggL_byteAt_X1_byteAt
theorem dL_byteAt_0 : decode cL_byteAt 0 = .ok (.aload 4, 2) := by decide +kernel
theorem dL_byteAt_2 : decode cL_byteAt 2 = .ok (.iconst 0, 1) := by decide +kernel
theorem dL_byteAt_3 : decode cL_byteAt 3 = .ok (.aload_n 0, 1) := by decide +kernel
theorem dL_byteAt_4 : decode cL_byteAt 4 = .ok (.iload_n 1, 1) := by decide +kernel
theorem dL_byteAt_5 : decode cL_byteAt 5 = .ok (.iload_n 2, 1) := by decide +kernel
theorem dL_byteAt_6 : decode cL_byteAt 6 = .ok (.iload_n 3, 1) := by decide +kernel
theorem dL_byteAt_7 : decode cL_byteAt 7 = .ok (.invokevirtual 7, 3) := by decide +kernel
theorem dL_byteAt_10 : decode cL_byteAt 10 = .ok (.i2l, 1) := by decide +kernel
theorem dL_byteAt_11 : decode cL_byteAt 11 = .ok (.lastore, 1) := by decide +kernel
theorem dL_byteAt_12 : decode cL_byteAt 12 = .ok (.goto 7, 3) := by decide +kernel
theorem dL_byteAt_15 : decode cL_byteAt 15 = .ok (.astore 5, 2) := by decide +kernel
theorem dL_byteAt_17 : decode cL_byteAt 17 = .ok (.iconst 1, 1) := by decide +kernel
theorem dL_byteAt_18 : decode cL_byteAt 18 = .ok (.ireturn, 1) := by decide +kernel
theorem dL_byteAt_19 : decode cL_byteAt 19 = .ok (.iconst 0, 1) := by decide +kernel
theorem dL_byteAt_20 : decode cL_byteAt 20 = .ok (.ireturn, 1) := by decide +kernel
set_option maxRecDepth 20000 in
theorem ggL_law_L_cell : GoodIn wsL_law wsL_cell := goodIn_r _ [10] (by decide +kernel) (by decide +kernel)
set_option maxRecDepth 20000 in
theorem gL_law_L_cell : GoodIn wsL_law (va_wsS RL 15 yL_cell wsL_cell) := goodIn_app (goodIn_of _ (by decide +kernel)) ggL_law_L_cell
set_option maxRecDepth 20000 in
theorem ggL_law_X1_init : GoodIn wsL_law wsX1_init := goodIn_r _ [13, 14, 15, 16, 17, 18, 19, 20, 21, 22, 23, 24, 25, 26, 27, 28, 29, 380, 381, 382, 383, 384, 385, 386, 387, 401, 402, 403, 404, 405] (by decide +kernel) (by decide +kernel)
set_option maxRecDepth 20000 in
theorem gL_law_X1_init : GoodIn wsL_law (wsX1_init) := ggL_law_X1_init
set_option maxRecDepth 20000 in
theorem ggL_law_X2_init : GoodIn wsL_law wsX2_init := goodIn_r _ [32, 33, 15, 16, 22, 34, 35, 36, 37, 38, 39, 40, 388, 389, 390, 391, 392, 393, 394, 395, 396, 397, 398, 399, 400] (by decide +kernel) (by decide +kernel)
set_option maxRecDepth 20000 in
theorem gL_law_X2_init : GoodIn wsL_law (wsX2_init) := ggL_law_X2_init
set_option maxRecDepth 20000 in
theorem ggL_law_X1_feed : GoodIn wsL_law wsX1_feed := goodIn_r _ [44, 45, 23, 380, 381, 382, 383, 384, 385, 386, 387] (by decide +kernel) (by decide +kernel)
set_option maxRecDepth 20000 in
theorem gL_law_X1_feed : GoodIn wsL_law (wsV RL 27 RX1 yX1_feed wsX1_feed) := goodIn_app (goodIn_of _ (by decide +kernel)) ggL_law_X1_feed
set_option maxRecDepth 20000 in
theorem ggL_law_X2_feed : GoodIn wsL_law wsX2_feed := goodIn_r _ [49, 50, 51, 38, 52, 53, 5, 54, 388, 389, 390, 391, 392, 393, 394, 395, 396, 397, 398, 399, 400] (by decide +kernel) (by decide +kernel)
set_option maxRecDepth 20000 in
theorem gL_law_X2_feed : GoodIn wsL_law (wsV RL 31 RX2 yX2_feed wsX2_feed) := goodIn_app (goodIn_of _ (by decide +kernel)) ggL_law_X2_feed
set_option maxRecDepth 20000 in
theorem ggL_law_X1_row : GoodIn wsL_law wsX1_row := goodIn_r _ [58, 59, 45, 17, 60, 61, 2, 62, 63, 64, 65, 66, 67, 68, 69, 70, 19, 71, 72, 73, 74, 75, 21, 76, 77, 78, 79, 80, 81, 82, 83, 84, 85, 86, 87, 88, 89, 90, 91, 92, 93, 94, 95, 96, 97, 28, 98, 99, 100, 101, 102, 103, 104, 105, 27, 106, 107, 108, 109, 110, 111, 112, 113, 114, 115, 116, 117, 118, 119, 120, 121, 122, 123, 124, 125, 126, 127, 128, 129, 23, 130, 131, 132, 133, 134, 135, 136, 137, 138, 139, 140, 141, 142, 143, 144, 145, 146, 147, 148, 149, 150, 151, 152, 153, 154, 380, 381, 382, 383, 384, 385, 386, 387, 401, 402, 403, 404, 405] (by decide +kernel) (by decide +kernel)
set_option maxRecDepth 20000 in
theorem gL_law_X1_row : GoodIn wsL_law (wsV RL 32 RX1 yX1_row wsX1_row) := goodIn_app (goodIn_of _ (by decide +kernel)) ggL_law_X1_row
set_option maxRecDepth 20000 in
theorem ggL_law_X2_row : GoodIn wsL_law wsX2_row := goodIn_r _ [158, 50, 159, 51, 34, 40, 52, 53, 5, 54, 160, 161, 162, 163, 35, 164, 165, 166, 167, 168, 169, 170, 171, 172, 173, 174, 175, 176, 177, 178, 179, 39, 38, 180, 181, 182, 183, 184, 185, 186, 187, 188, 189, 190, 191, 192, 193, 194, 195, 196, 197, 198, 199, 388, 389, 390, 391, 392, 393, 394, 395, 396, 397, 398, 399, 400] (by decide +kernel) (by decide +kernel)
set_option maxRecDepth 20000 in
theorem gL_law_X2_row : GoodIn wsL_law (wsV RL 36 RX2 yX2_row wsX2_row) := goodIn_app (goodIn_of _ (by decide +kernel)) ggL_law_X2_row
set_option maxRecDepth 20000 in
theorem ggL_law_X1_find : GoodIn wsL_law wsX1_find := goodIn_r _ [203, 111, 112, 113, 2, 114, 19, 67, 68, 69, 70, 71, 72, 73, 74, 75, 21, 76, 77, 78, 115, 116, 117, 87, 88, 89, 90, 91, 92, 93, 94, 95, 96, 97, 28, 98, 99, 100, 101, 102, 103, 104, 105, 27, 106, 107, 108, 109, 110, 118, 119, 120, 121, 122, 123, 124, 125, 380, 381, 382, 383, 384, 385, 386, 387, 401, 402, 403, 404, 405] (by decide +kernel) (by decide +kernel)
set_option maxRecDepth 20000 in
theorem gL_law_X1_find : GoodIn wsL_law (wsV RL 37 RX1 yX1_find wsX1_find) := goodIn_app (goodIn_of _ (by decide +kernel)) ggL_law_X1_find
set_option maxRecDepth 20000 in
theorem ggL_law_X2_find : GoodIn wsL_law wsX2_find := goodIn_r _ [207, 50, 39, 160, 161, 162, 5, 163, 35, 52, 53, 54, 164, 165, 166, 208, 209, 210, 211, 34, 167, 168, 169, 170, 171, 172, 173, 174, 175, 212, 213, 214, 215, 196, 197, 198, 199, 180, 181, 182, 183, 388, 389, 390, 391, 392, 393, 394, 395, 396, 397, 398, 399, 400] (by decide +kernel) (by decide +kernel)
set_option maxRecDepth 20000 in
theorem gL_law_X2_find : GoodIn wsL_law (wsV RL 41 RX2 yX2_find wsX2_find) := goodIn_app (goodIn_of _ (by decide +kernel)) ggL_law_X2_find
set_option maxRecDepth 20000 in
theorem ggL_law_X1_rows : GoodIn wsL_law wsX1_rows := goodIn_r _ [219, 60, 61, 2, 62, 67, 68, 69, 70, 19, 71, 72, 73, 74, 75, 21, 76, 77, 78, 111, 112, 113, 114, 115, 116, 117, 87, 88, 89, 90, 91, 92, 93, 94, 95, 96, 97, 28, 98, 99, 100, 101, 102, 103, 104, 105, 27, 106, 107, 108, 109, 110, 118, 119, 120, 121, 122, 123, 124, 125, 380, 381, 382, 383, 384, 385, 386, 387, 401, 402, 403, 404, 405] (by decide +kernel) (by decide +kernel)
set_option maxRecDepth 20000 in
theorem gL_law_X1_rows : GoodIn wsL_law (wsV RL 42 RX1 yX1_rows wsX1_rows) := goodIn_app (goodIn_of _ (by decide +kernel)) ggL_law_X1_rows
set_option maxRecDepth 20000 in
theorem ggL_law_X2_rows : GoodIn wsL_law wsX2_rows := goodIn_r _ [223, 50, 39, 160, 161, 162, 5, 163, 35, 52, 53, 54, 164, 165, 166, 208, 209, 210, 211, 34, 167, 168, 169, 170, 171, 172, 173, 174, 175, 212, 213, 214, 215, 196, 197, 198, 199, 180, 181, 182, 183, 388, 389, 390, 391, 392, 393, 394, 395, 396, 397, 398, 399, 400] (by decide +kernel) (by decide +kernel)
set_option maxRecDepth 20000 in
theorem gL_law_X2_rows : GoodIn wsL_law (wsV RL 45 RX2 yX2_rows wsX2_rows) := goodIn_app (goodIn_of _ (by decide +kernel)) ggL_law_X2_rows
set_option maxRecDepth 20000 in
theorem ggL_law_X1_drop : GoodIn wsL_law wsX1_drop := goodIn_r _ [227, 59, 60, 61, 2, 62, 67, 68, 69, 70, 19, 71, 72, 73, 74, 75, 21, 76, 77, 78, 228, 229, 230, 231, 232, 233, 234, 235, 115, 116, 117, 87, 88, 89, 90, 91, 92, 93, 94, 95, 96, 97, 28, 98, 99, 100, 101, 102, 103, 104, 105, 27, 106, 107, 108, 109, 110, 126, 127, 128, 129, 23, 130, 131, 132, 133, 134, 135, 136, 137, 138, 139, 140, 141, 142, 143, 144, 145, 146, 147, 83, 84, 85, 86, 148, 149, 150, 151, 152, 153, 154, 122, 123, 124, 125, 380, 381, 382, 383, 384, 385, 386, 387, 401, 402, 403, 404, 405] (by decide +kernel) (by decide +kernel)
set_option maxRecDepth 20000 in
theorem gL_law_X1_drop : GoodIn wsL_law (wsV RL 46 RX1 yX1_drop wsX1_drop) := goodIn_app (goodIn_of _ (by decide +kernel)) ggL_law_X1_drop
set_option maxRecDepth 20000 in
theorem ggL_law_X2_drop : GoodIn wsL_law wsX2_drop := goodIn_r _ [239, 50, 159, 34, 52, 53, 5, 54, 160, 161, 162, 163, 35, 164, 165, 166, 167, 168, 169, 170, 171, 172, 173, 174, 175, 188, 189, 190, 191, 39, 180, 181, 182, 183, 184, 185, 186, 187, 192, 193, 194, 195, 196, 197, 198, 199, 388, 389, 390, 391, 392, 393, 394, 395, 396, 397, 398, 399, 400] (by decide +kernel) (by decide +kernel)
set_option maxRecDepth 20000 in
theorem gL_law_X2_drop : GoodIn wsL_law (wsV RL 49 RX2 yX2_drop wsX2_drop) := goodIn_app (goodIn_of _ (by decide +kernel)) ggL_law_X2_drop
set_option maxRecDepth 20000 in
theorem ggL_law_X1_crash : GoodIn wsL_law wsX1_crash := goodIn_r _ [243, 19, 244, 245, 2, 246, 75, 21, 76, 77, 78, 247, 248, 249, 250, 59, 251, 252, 253, 254, 28, 29, 255, 134, 135, 136, 137, 138, 73, 139, 140, 72, 74, 380, 381, 382, 383, 384, 385, 386, 387, 401, 402, 403, 404, 405] (by decide +kernel) (by decide +kernel)
set_option maxRecDepth 20000 in
theorem gL_law_X1_crash : GoodIn wsL_law (wsV RL 50 RX1 yX1_crash wsX1_crash) := goodIn_app (goodIn_of _ (by decide +kernel)) ggL_law_X1_crash
set_option maxRecDepth 20000 in
theorem ggL_law_X2_crash : GoodIn wsL_law wsX2_crash := goodIn_r _ [259, 50, 35, 52, 53, 5, 54, 260, 261, 262, 263, 159, 36, 34, 37, 264, 388, 389, 390, 391, 392, 393, 394, 395, 396, 397, 398, 399, 400] (by decide +kernel) (by decide +kernel)
set_option maxRecDepth 20000 in
theorem gL_law_X2_crash : GoodIn wsL_law (wsV RL 54 RX2 yX2_crash wsX2_crash) := goodIn_app (goodIn_of _ (by decide +kernel)) ggL_law_X2_crash
set_option maxRecDepth 20000 in
theorem ggL_law_X1_lose : GoodIn wsL_law wsX1_lose := goodIn_r _ [268, 269, 241, 242, 2, 243, 19, 244, 245, 246, 75, 21, 76, 77, 78, 247, 248, 249, 250, 59, 251, 252, 253, 254, 28, 29, 255, 134, 135, 136, 137, 138, 73, 139, 140, 72, 74, 380, 381, 382, 383, 384, 385, 386, 387, 401, 402, 403, 404, 405] (by decide +kernel) (by decide +kernel)
set_option maxRecDepth 20000 in
theorem gL_law_X1_lose : GoodIn wsL_law (wsV RL 55 RX1 yX1_lose wsX1_lose) := goodIn_app (goodIn_of _ (by decide +kernel)) ggL_law_X1_lose
set_option maxRecDepth 20000 in
theorem ggL_law_X2_lose : GoodIn wsL_law wsX2_lose := goodIn_r _ [273, 50, 35, 52, 53, 5, 54, 260, 261, 262, 263, 159, 36, 34, 37, 264, 388, 389, 390, 391, 392, 393, 394, 395, 396, 397, 398, 399, 400] (by decide +kernel) (by decide +kernel)
set_option maxRecDepth 20000 in
theorem gL_law_X2_lose : GoodIn wsL_law (wsV RL 58 RX2 yX2_lose wsX2_lose) := goodIn_app (goodIn_of _ (by decide +kernel)) ggL_law_X2_lose
set_option maxRecDepth 20000 in
theorem ggL_law_X1_poke : GoodIn wsL_law wsX1_poke := goodIn_r _ [277, 19, 244, 245, 2, 246, 91, 21, 92, 93, 78, 247, 248, 249, 250, 59, 251, 252, 253, 254, 28, 29, 255, 95, 96, 97, 141, 142, 143, 90, 380, 381, 382, 383, 384, 385, 386, 387, 401, 402, 403, 404, 405] (by decide +kernel) (by decide +kernel)
set_option maxRecDepth 20000 in
theorem gL_law_X1_poke : GoodIn wsL_law (wsV RL 59 RX1 yX1_poke wsX1_poke) := goodIn_app (goodIn_of _ (by decide +kernel)) ggL_law_X1_poke
set_option maxRecDepth 20000 in
theorem ggL_law_X2_poke : GoodIn wsL_law wsX2_poke := goodIn_r _ [281, 50, 35, 34, 52, 53, 5, 54, 260, 261, 262, 263, 159, 36, 37, 264, 388, 389, 390, 391, 392, 393, 394, 395, 396, 397, 398, 399, 400] (by decide +kernel) (by decide +kernel)
set_option maxRecDepth 20000 in
theorem gL_law_X2_poke : GoodIn wsL_law (wsV RL 63 RX2 yX2_poke wsX2_poke) := goodIn_app (goodIn_of _ (by decide +kernel)) ggL_law_X2_poke
set_option maxRecDepth 20000 in
theorem ggL_law_X1_reopen : GoodIn wsL_law wsX1_reopen := goodIn_r _ [285, 19, 59, 67, 68, 69, 2, 70, 71, 72, 73, 74, 75, 21, 76, 77, 78, 286, 287, 288, 289, 290, 87, 88, 89, 90, 91, 92, 93, 94, 95, 96, 97, 28, 98, 99, 100, 101, 102, 103, 104, 105, 27, 106, 107, 108, 109, 110, 118, 119, 120, 121, 151, 152, 153, 154, 130, 131, 132, 133, 134, 135, 136, 137, 138, 139, 140, 122, 123, 124, 125, 141, 142, 143, 144, 145, 146, 147, 291, 292, 293, 294, 111, 112, 113, 114, 115, 116, 117, 380, 381, 382, 383, 384, 385, 386, 387, 401, 402, 403, 404, 405] (by decide +kernel) (by decide +kernel)
set_option maxRecDepth 20000 in
theorem gL_law_X1_reopen : GoodIn wsL_law (wsV RL 64 RX1 yX1_reopen wsX1_reopen) := goodIn_app (goodIn_of _ (by decide +kernel)) ggL_law_X1_reopen
set_option maxRecDepth 20000 in
theorem ggL_law_X2_reopen : GoodIn wsL_law wsX2_reopen := goodIn_r _ [298, 50, 35, 34, 159, 39, 160, 161, 162, 5, 163, 299, 300, 301, 302, 303, 167, 168, 169, 170, 171, 172, 173, 174, 175, 212, 213, 214, 215, 196, 197, 198, 199, 180, 181, 182, 183, 184, 185, 186, 187, 164, 165, 166, 208, 209, 210, 211, 388, 389, 390, 391, 392, 393, 394, 395, 396, 397, 398, 399, 400] (by decide +kernel) (by decide +kernel)
set_option maxRecDepth 20000 in
theorem gL_law_X2_reopen : GoodIn wsL_law (wsV RL 68 RX2 yX2_reopen wsX2_reopen) := goodIn_app (goodIn_of _ (by decide +kernel)) ggL_law_X2_reopen
set_option maxRecDepth 20000 in
theorem ggL_law_X1_scrub : GoodIn wsL_law wsX1_scrub := goodIn_r _ [307, 308, 309, 138, 73, 139, 67, 68, 69, 2, 70, 19, 71, 72, 74, 75, 21, 76, 77, 78, 310, 311, 312, 313, 286, 287, 288, 289, 290, 87, 88, 89, 90, 91, 92, 93, 94, 95, 96, 97, 28, 98, 99, 100, 101, 102, 103, 104, 105, 27, 106, 107, 108, 109, 110, 118, 119, 120, 121, 151, 152, 153, 154, 130, 131, 132, 133, 134, 135, 136, 137, 140, 122, 123, 124, 125, 141, 142, 143, 144, 145, 146, 147, 380, 381, 382, 383, 384, 385, 386, 387, 401, 402, 403, 404, 405] (by decide +kernel) (by decide +kernel)
set_option maxRecDepth 20000 in
theorem gL_law_X1_scrub : GoodIn wsL_law (wsV RL 69 RX1 yX1_scrub wsX1_scrub) := goodIn_app (goodIn_of _ (by decide +kernel)) ggL_law_X1_scrub
set_option maxRecDepth 20000 in
theorem ggL_law_X2_scrub : GoodIn wsL_law wsX2_scrub := goodIn_r _ [317, 50, 35, 318, 160, 161, 162, 5, 163, 299, 300, 301, 302, 303, 167, 168, 169, 170, 34, 171, 172, 173, 174, 175, 212, 213, 214, 215, 196, 197, 198, 199, 39, 180, 181, 182, 183, 184, 185, 186, 187, 388, 389, 390, 391, 392, 393, 394, 395, 396, 397, 398, 399, 400] (by decide +kernel) (by decide +kernel)
set_option maxRecDepth 20000 in
theorem gL_law_X2_scrub : GoodIn wsL_law (wsV RL 72 RX2 yX2_scrub wsX2_scrub) := goodIn_app (goodIn_of _ (by decide +kernel)) ggL_law_X2_scrub
set_option maxRecDepth 20000 in
theorem ggL_law_X1_mended : GoodIn wsL_law wsX1_mended := goodIn_r _ [322, 290, 380, 381, 382, 383, 384, 385, 386, 387] (by decide +kernel) (by decide +kernel)
set_option maxRecDepth 20000 in
theorem gL_law_X1_mended : GoodIn wsL_law (wsV RL 73 RX1 yX1_mended wsX1_mended) := goodIn_app (goodIn_of _ (by decide +kernel)) ggL_law_X1_mended
set_option maxRecDepth 20000 in
theorem ggL_law_X2_mended : GoodIn wsL_law wsX2_mended := goodIn_r _ [326, 50, 303, 388, 389, 390, 391, 392, 393, 394, 395, 396, 397, 398, 399, 400] (by decide +kernel) (by decide +kernel)
set_option maxRecDepth 20000 in
theorem gL_law_X2_mended : GoodIn wsL_law (wsV RL 76 RX2 yX2_mended wsX2_mended) := goodIn_app (goodIn_of _ (by decide +kernel)) ggL_law_X2_mended
set_option maxRecDepth 20000 in
theorem ggL_law_X1_badAt : GoodIn wsL_law wsX1_badAt := goodIn_r _ [330, 67, 68, 69, 2, 70, 19, 71, 72, 73, 74, 75, 21, 76, 77, 78, 83, 84, 85, 86, 87, 88, 89, 90, 91, 92, 93, 94, 95, 96, 97, 28, 98, 99, 100, 101, 102, 103, 104, 105, 27, 106, 107, 108, 109, 110, 380, 381, 382, 383, 384, 385, 386, 387, 401, 402, 403, 404, 405] (by decide +kernel) (by decide +kernel)
set_option maxRecDepth 20000 in
theorem gL_law_X1_badAt : GoodIn wsL_law (wsV RL 77 RX1 yX1_badAt wsX1_badAt) := goodIn_app (goodIn_of _ (by decide +kernel)) ggL_law_X1_badAt
set_option maxRecDepth 20000 in
theorem ggL_law_X2_badAt : GoodIn wsL_law wsX2_badAt := goodIn_r _ [334, 50, 160, 161, 162, 5, 163, 35, 167, 168, 169, 170, 34, 171, 172, 173, 174, 175, 388, 389, 390, 391, 392, 393, 394, 395, 396, 397, 398, 399, 400] (by decide +kernel) (by decide +kernel)
set_option maxRecDepth 20000 in
theorem gL_law_X2_badAt : GoodIn wsL_law (wsV RL 80 RX2 yX2_badAt wsX2_badAt) := goodIn_app (goodIn_of _ (by decide +kernel)) ggL_law_X2_badAt
set_option maxRecDepth 20000 in
theorem ggL_law_L_byteAt : GoodIn wsL_law wsL_byteAt := goodIn_r _ [337, 338, 339, 340, 2, 341, 17, 342, 343, 344, 19, 244, 245, 246, 95, 21, 96, 97, 78, 28, 380, 381, 382, 383, 384, 385, 386, 387, 406, 407, 408, 409, 410, 411, 401, 402, 403, 404, 405] (by decide +kernel) (by decide +kernel)
set_option maxRecDepth 20000 in
theorem gL_law_L_byteAt : GoodIn wsL_law (va_wsS RL 81 yL_byteAt wsL_byteAt) := goodIn_app (goodIn_of _ (by decide +kernel)) ggL_law_L_byteAt
set_option maxRecDepth 20000 in
theorem ggL_law_X2_byteAt : GoodIn wsL_law wsX2_byteAt := goodIn_r _ [348, 40, 50, 35, 34, 52, 53, 5, 54, 388, 389, 390, 391, 392, 393, 394, 395, 396, 397, 398, 399, 400] (by decide +kernel) (by decide +kernel)
set_option maxRecDepth 20000 in
theorem gL_law_X2_byteAt : GoodIn wsL_law (wsV RL 84 RX2 yX2_byteAt wsX2_byteAt) := goodIn_app (goodIn_of _ (by decide +kernel)) ggL_law_X2_byteAt
set_option maxRecDepth 20000 in
theorem ggL_law_X2_thrown : GoodIn wsL_law wsX2_thrown := goodIn_r _ [352, 50, 388, 389, 390, 391, 392, 393, 394, 395, 396, 397, 398, 399, 400] (by decide +kernel) (by decide +kernel)
set_option maxRecDepth 20000 in
theorem gL_law_X2_thrown : GoodIn wsL_law (wsV RL 85 RX2 yX2_thrown wsX2_thrown) := goodIn_app (goodIn_of _ (by decide +kernel)) ggL_law_X2_thrown
set_option maxRecDepth 20000 in
theorem ggL_law_X1_same : GoodIn wsL_law wsX1_same := goodIn_r _ [356, 251, 19, 244, 245, 2, 246, 357, 21, 358, 359, 78, 255, 28, 29, 380, 381, 382, 383, 384, 385, 386, 387, 401, 402, 403, 404, 405] (by decide +kernel) (by decide +kernel)
set_option maxRecDepth 20000 in
theorem gL_law_X1_same : GoodIn wsL_law (wsV RL 88 RX1 yX1_same wsX1_same) := goodIn_app (goodIn_of _ (by decide +kernel)) ggL_law_X1_same
set_option maxRecDepth 20000 in
theorem ggL_law_X2_same : GoodIn wsL_law wsX2_same := goodIn_r _ [363, 50, 264, 35, 37, 34, 36, 52, 53, 5, 54, 388, 389, 390, 391, 392, 393, 394, 395, 396, 397, 398, 399, 400] (by decide +kernel) (by decide +kernel)
set_option maxRecDepth 20000 in
theorem gL_law_X2_same : GoodIn wsL_law (wsV RL 91 RX2 yX2_same wsX2_same) := goodIn_app (goodIn_of _ (by decide +kernel)) ggL_law_X2_same
set_option maxRecDepth 20000 in
theorem ggL_law_X1_odd : GoodIn wsL_law wsX1_odd := goodIn_r _ [367, 67, 68, 69, 2, 70, 19, 71, 72, 73, 74, 75, 21, 76, 77, 78, 148, 149, 150, 380, 381, 382, 383, 384, 385, 386, 387, 401, 402, 403, 404, 405] (by decide +kernel) (by decide +kernel)
set_option maxRecDepth 20000 in
theorem gL_law_X1_odd : GoodIn wsL_law (wsV RL 92 RX1 yX1_odd wsX1_odd) := goodIn_app (goodIn_of _ (by decide +kernel)) ggL_law_X1_odd
set_option maxRecDepth 20000 in
theorem ggL_law_X2_odd : GoodIn wsL_law wsX2_odd := goodIn_r _ [371, 50, 160, 161, 162, 5, 163, 35, 52, 53, 54, 388, 389, 390, 391, 392, 393, 394, 395, 396, 397, 398, 399, 400] (by decide +kernel) (by decide +kernel)
set_option maxRecDepth 20000 in
theorem gL_law_X2_odd : GoodIn wsL_law (wsV RL 95 RX2 yX2_odd wsX2_odd) := goodIn_app (goodIn_of _ (by decide +kernel)) ggL_law_X2_odd
set_option maxRecDepth 20000 in
theorem ggL_law_X1_size : GoodIn wsL_law wsX1_size := goodIn_r _ [375, 19, 244, 245, 2, 246, 75, 21, 76, 77, 78, 380, 381, 382, 383, 384, 385, 386, 387, 401, 402, 403, 404, 405] (by decide +kernel) (by decide +kernel)
set_option maxRecDepth 20000 in
theorem gL_law_X1_size : GoodIn wsL_law (wsV RL 96 RX1 yX1_size wsX1_size) := goodIn_app (goodIn_of _ (by decide +kernel)) ggL_law_X1_size
set_option maxRecDepth 20000 in
theorem ggL_law_X2_size : GoodIn wsL_law wsX2_size := goodIn_r _ [379, 50, 35, 52, 53, 5, 54, 388, 389, 390, 391, 392, 393, 394, 395, 396, 397, 398, 399, 400] (by decide +kernel) (by decide +kernel)
set_option maxRecDepth 20000 in
theorem gL_law_X2_size : GoodIn wsL_law (wsV RL 99 RX2 yX2_size wsX2_size) := goodIn_app (goodIn_of _ (by decide +kernel)) ggL_law_X2_size
theorem dL_law_0 : decode cL_law 0 = .ok (.new 8, 3) := by decide +kernel
theorem dL_law_3 : decode cL_law 3 = .ok (.dup, 1) := by decide +kernel
theorem dL_law_4 : decode cL_law 4 = .ok (.aload_n 0, 1) := by decide +kernel
theorem dL_law_5 : decode cL_law 5 = .ok (.iconst 0, 1) := by decide +kernel
theorem dL_law_6 : decode cL_law 6 = .ok (.invokestatic 15, 3) := by decide +kernel
theorem dL_law_9 : decode cL_law 9 = .ok (.invokespecial 21, 3) := by decide +kernel
theorem dL_law_12 : decode cL_law 12 = .ok (.astore_n 1, 1) := by decide +kernel
theorem dL_law_13 : decode cL_law 13 = .ok (.new 24, 3) := by decide +kernel
theorem dL_law_16 : decode cL_law 16 = .ok (.dup, 1) := by decide +kernel
theorem dL_law_17 : decode cL_law 17 = .ok (.aload_n 0, 1) := by decide +kernel
theorem dL_law_18 : decode cL_law 18 = .ok (.iconst 0, 1) := by decide +kernel
theorem dL_law_19 : decode cL_law 19 = .ok (.invokestatic 15, 3) := by decide +kernel
theorem dL_law_22 : decode cL_law 22 = .ok (.invokespecial 26, 3) := by decide +kernel
theorem dL_law_25 : decode cL_law 25 = .ok (.astore_n 2, 1) := by decide +kernel
theorem dL_law_26 : decode cL_law 26 = .ok (.iconst 1, 1) := by decide +kernel
theorem dL_law_27 : decode cL_law 27 = .ok (.newarray .long, 2) := by decide +kernel
theorem dL_law_29 : decode cL_law 29 = .ok (.astore_n 3, 1) := by decide +kernel
theorem dL_law_30 : decode cL_law 30 = .ok (.iconst 1, 1) := by decide +kernel
theorem dL_law_31 : decode cL_law 31 = .ok (.istore 4, 2) := by decide +kernel
theorem dL_law_33 : decode cL_law 33 = .ok (.iload 4, 2) := by decide +kernel
theorem dL_law_35 : decode cL_law 35 = .ok (.aload_n 0, 1) := by decide +kernel
theorem dL_law_36 : decode cL_law 36 = .ok (.arraylength, 1) := by decide +kernel
theorem dL_law_37 : decode cL_law 37 = .ok (.iconst 4, 1) := by decide +kernel
theorem dL_law_38 : decode cL_law 38 = .ok (.isub, 1) := by decide +kernel
theorem dL_law_39 : decode cL_law 39 = .ok (.if_icmp .gt 562, 3) := by decide +kernel
theorem dL_law_42 : decode cL_law 42 = .ok (.aload_n 0, 1) := by decide +kernel
theorem dL_law_43 : decode cL_law 43 = .ok (.iload 4, 2) := by decide +kernel
theorem dL_law_45 : decode cL_law 45 = .ok (.iaload, 1) := by decide +kernel
theorem dL_law_46 : decode cL_law 46 = .ok (.bipush 15, 2) := by decide +kernel
theorem dL_law_48 : decode cL_law 48 = .ok (.iand, 1) := by decide +kernel
theorem dL_law_49 : decode cL_law 49 = .ok (.tableswitch 546 0 15 #[79, 104, 129, 166, 191, 216, 253, 278, 327, 340, 365, 378, 391, 471, 496, 521], 79) := by decide +kernel
theorem dL_law_128 : decode cL_law 128 = .ok (.aload_n 1, 1) := by decide +kernel
theorem dL_law_129 : decode cL_law 129 = .ok (.aload_n 0, 1) := by decide +kernel
theorem dL_law_130 : decode cL_law 130 = .ok (.iload 4, 2) := by decide +kernel
theorem dL_law_132 : decode cL_law 132 = .ok (.iconst 1, 1) := by decide +kernel
theorem dL_law_133 : decode cL_law 133 = .ok (.iadd, 1) := by decide +kernel
theorem dL_law_134 : decode cL_law 134 = .ok (.iaload, 1) := by decide +kernel
theorem dL_law_135 : decode cL_law 135 = .ok (.invokevirtual 27, 3) := by decide +kernel
theorem dL_law_138 : decode cL_law 138 = .ok (.aload_n 2, 1) := by decide +kernel
theorem dL_law_139 : decode cL_law 139 = .ok (.aload_n 0, 1) := by decide +kernel
theorem dL_law_140 : decode cL_law 140 = .ok (.iload 4, 2) := by decide +kernel
theorem dL_law_142 : decode cL_law 142 = .ok (.iconst 1, 1) := by decide +kernel
theorem dL_law_143 : decode cL_law 143 = .ok (.iadd, 1) := by decide +kernel
theorem dL_law_144 : decode cL_law 144 = .ok (.iaload, 1) := by decide +kernel
theorem dL_law_145 : decode cL_law 145 = .ok (.invokevirtual 31, 3) := by decide +kernel
theorem dL_law_148 : decode cL_law 148 = .ok (.if_icmp .eq 447, 3) := by decide +kernel
theorem dL_law_151 : decode cL_law 151 = .ok (.iconst 0, 1) := by decide +kernel
theorem dL_law_152 : decode cL_law 152 = .ok (.ireturn, 1) := by decide +kernel
theorem dL_law_153 : decode cL_law 153 = .ok (.aload_n 1, 1) := by decide +kernel
theorem dL_law_154 : decode cL_law 154 = .ok (.aload_n 0, 1) := by decide +kernel
theorem dL_law_155 : decode cL_law 155 = .ok (.iload 4, 2) := by decide +kernel
theorem dL_law_157 : decode cL_law 157 = .ok (.iconst 1, 1) := by decide +kernel
theorem dL_law_158 : decode cL_law 158 = .ok (.iadd, 1) := by decide +kernel
theorem dL_law_159 : decode cL_law 159 = .ok (.iaload, 1) := by decide +kernel
theorem dL_law_160 : decode cL_law 160 = .ok (.invokevirtual 32, 3) := by decide +kernel
theorem dL_law_163 : decode cL_law 163 = .ok (.aload_n 2, 1) := by decide +kernel
theorem dL_law_164 : decode cL_law 164 = .ok (.aload_n 0, 1) := by decide +kernel
theorem dL_law_165 : decode cL_law 165 = .ok (.iload 4, 2) := by decide +kernel
theorem dL_law_167 : decode cL_law 167 = .ok (.iconst 1, 1) := by decide +kernel
theorem dL_law_168 : decode cL_law 168 = .ok (.iadd, 1) := by decide +kernel
theorem dL_law_169 : decode cL_law 169 = .ok (.iaload, 1) := by decide +kernel
theorem dL_law_170 : decode cL_law 170 = .ok (.invokevirtual 36, 3) := by decide +kernel
theorem dL_law_173 : decode cL_law 173 = .ok (.if_icmp .eq 422, 3) := by decide +kernel
theorem dL_law_176 : decode cL_law 176 = .ok (.iconst 0, 1) := by decide +kernel
theorem dL_law_177 : decode cL_law 177 = .ok (.ireturn, 1) := by decide +kernel
theorem dL_law_178 : decode cL_law 178 = .ok (.aload_n 1, 1) := by decide +kernel
theorem dL_law_179 : decode cL_law 179 = .ok (.aload_n 0, 1) := by decide +kernel
theorem dL_law_180 : decode cL_law 180 = .ok (.iload 4, 2) := by decide +kernel
theorem dL_law_182 : decode cL_law 182 = .ok (.iconst 1, 1) := by decide +kernel
theorem dL_law_183 : decode cL_law 183 = .ok (.iadd, 1) := by decide +kernel
theorem dL_law_184 : decode cL_law 184 = .ok (.iaload, 1) := by decide +kernel
theorem dL_law_185 : decode cL_law 185 = .ok (.aload_n 0, 1) := by decide +kernel
theorem dL_law_186 : decode cL_law 186 = .ok (.iload 4, 2) := by decide +kernel
theorem dL_law_188 : decode cL_law 188 = .ok (.iconst 2, 1) := by decide +kernel
theorem dL_law_189 : decode cL_law 189 = .ok (.iadd, 1) := by decide +kernel
theorem dL_law_190 : decode cL_law 190 = .ok (.iaload, 1) := by decide +kernel
theorem dL_law_191 : decode cL_law 191 = .ok (.invokevirtual 37, 3) := by decide +kernel
theorem dL_law_194 : decode cL_law 194 = .ok (.aload_n 2, 1) := by decide +kernel
theorem dL_law_195 : decode cL_law 195 = .ok (.aload_n 0, 1) := by decide +kernel
theorem dL_law_196 : decode cL_law 196 = .ok (.iload 4, 2) := by decide +kernel
theorem dL_law_198 : decode cL_law 198 = .ok (.iconst 1, 1) := by decide +kernel
theorem dL_law_199 : decode cL_law 199 = .ok (.iadd, 1) := by decide +kernel
theorem dL_law_200 : decode cL_law 200 = .ok (.iaload, 1) := by decide +kernel
theorem dL_law_201 : decode cL_law 201 = .ok (.aload_n 0, 1) := by decide +kernel
theorem dL_law_202 : decode cL_law 202 = .ok (.iload 4, 2) := by decide +kernel
theorem dL_law_204 : decode cL_law 204 = .ok (.iconst 2, 1) := by decide +kernel
theorem dL_law_205 : decode cL_law 205 = .ok (.iadd, 1) := by decide +kernel
theorem dL_law_206 : decode cL_law 206 = .ok (.iaload, 1) := by decide +kernel
theorem dL_law_207 : decode cL_law 207 = .ok (.invokevirtual 41, 3) := by decide +kernel
theorem dL_law_210 : decode cL_law 210 = .ok (.if_icmp .eq 385, 3) := by decide +kernel
theorem dL_law_213 : decode cL_law 213 = .ok (.iconst 0, 1) := by decide +kernel
theorem dL_law_214 : decode cL_law 214 = .ok (.ireturn, 1) := by decide +kernel
theorem dL_law_215 : decode cL_law 215 = .ok (.aload_n 1, 1) := by decide +kernel
theorem dL_law_216 : decode cL_law 216 = .ok (.aload_n 0, 1) := by decide +kernel
theorem dL_law_217 : decode cL_law 217 = .ok (.iload 4, 2) := by decide +kernel
theorem dL_law_219 : decode cL_law 219 = .ok (.iconst 1, 1) := by decide +kernel
theorem dL_law_220 : decode cL_law 220 = .ok (.iadd, 1) := by decide +kernel
theorem dL_law_221 : decode cL_law 221 = .ok (.iaload, 1) := by decide +kernel
theorem dL_law_222 : decode cL_law 222 = .ok (.invokevirtual 42, 3) := by decide +kernel
theorem dL_law_225 : decode cL_law 225 = .ok (.aload_n 2, 1) := by decide +kernel
theorem dL_law_226 : decode cL_law 226 = .ok (.aload_n 0, 1) := by decide +kernel
theorem dL_law_227 : decode cL_law 227 = .ok (.iload 4, 2) := by decide +kernel
theorem dL_law_229 : decode cL_law 229 = .ok (.iconst 1, 1) := by decide +kernel
theorem dL_law_230 : decode cL_law 230 = .ok (.iadd, 1) := by decide +kernel
theorem dL_law_231 : decode cL_law 231 = .ok (.iaload, 1) := by decide +kernel
theorem dL_law_232 : decode cL_law 232 = .ok (.invokevirtual 45, 3) := by decide +kernel
theorem dL_law_235 : decode cL_law 235 = .ok (.if_icmp .eq 360, 3) := by decide +kernel
theorem dL_law_238 : decode cL_law 238 = .ok (.iconst 0, 1) := by decide +kernel
theorem dL_law_239 : decode cL_law 239 = .ok (.ireturn, 1) := by decide +kernel
theorem dL_law_240 : decode cL_law 240 = .ok (.aload_n 1, 1) := by decide +kernel
theorem dL_law_241 : decode cL_law 241 = .ok (.aload_n 0, 1) := by decide +kernel
theorem dL_law_242 : decode cL_law 242 = .ok (.iload 4, 2) := by decide +kernel
theorem dL_law_244 : decode cL_law 244 = .ok (.iconst 1, 1) := by decide +kernel
theorem dL_law_245 : decode cL_law 245 = .ok (.iadd, 1) := by decide +kernel
theorem dL_law_246 : decode cL_law 246 = .ok (.iaload, 1) := by decide +kernel
theorem dL_law_247 : decode cL_law 247 = .ok (.invokevirtual 46, 3) := by decide +kernel
theorem dL_law_250 : decode cL_law 250 = .ok (.aload_n 2, 1) := by decide +kernel
theorem dL_law_251 : decode cL_law 251 = .ok (.aload_n 0, 1) := by decide +kernel
theorem dL_law_252 : decode cL_law 252 = .ok (.iload 4, 2) := by decide +kernel
theorem dL_law_254 : decode cL_law 254 = .ok (.iconst 1, 1) := by decide +kernel
theorem dL_law_255 : decode cL_law 255 = .ok (.iadd, 1) := by decide +kernel
theorem dL_law_256 : decode cL_law 256 = .ok (.iaload, 1) := by decide +kernel
theorem dL_law_257 : decode cL_law 257 = .ok (.invokevirtual 49, 3) := by decide +kernel
theorem dL_law_260 : decode cL_law 260 = .ok (.if_icmp .eq 335, 3) := by decide +kernel
theorem dL_law_263 : decode cL_law 263 = .ok (.iconst 0, 1) := by decide +kernel
theorem dL_law_264 : decode cL_law 264 = .ok (.ireturn, 1) := by decide +kernel
theorem dL_law_265 : decode cL_law 265 = .ok (.aload_n 1, 1) := by decide +kernel
theorem dL_law_266 : decode cL_law 266 = .ok (.aload_n 0, 1) := by decide +kernel
theorem dL_law_267 : decode cL_law 267 = .ok (.iload 4, 2) := by decide +kernel
theorem dL_law_269 : decode cL_law 269 = .ok (.iconst 1, 1) := by decide +kernel
theorem dL_law_270 : decode cL_law 270 = .ok (.iadd, 1) := by decide +kernel
theorem dL_law_271 : decode cL_law 271 = .ok (.iaload, 1) := by decide +kernel
theorem dL_law_272 : decode cL_law 272 = .ok (.aload_n 0, 1) := by decide +kernel
theorem dL_law_273 : decode cL_law 273 = .ok (.iload 4, 2) := by decide +kernel
theorem dL_law_275 : decode cL_law 275 = .ok (.iconst 2, 1) := by decide +kernel
theorem dL_law_276 : decode cL_law 276 = .ok (.iadd, 1) := by decide +kernel
theorem dL_law_277 : decode cL_law 277 = .ok (.iaload, 1) := by decide +kernel
theorem dL_law_278 : decode cL_law 278 = .ok (.invokevirtual 50, 3) := by decide +kernel
theorem dL_law_281 : decode cL_law 281 = .ok (.aload_n 2, 1) := by decide +kernel
theorem dL_law_282 : decode cL_law 282 = .ok (.aload_n 0, 1) := by decide +kernel
theorem dL_law_283 : decode cL_law 283 = .ok (.iload 4, 2) := by decide +kernel
theorem dL_law_285 : decode cL_law 285 = .ok (.iconst 1, 1) := by decide +kernel
theorem dL_law_286 : decode cL_law 286 = .ok (.iadd, 1) := by decide +kernel
theorem dL_law_287 : decode cL_law 287 = .ok (.iaload, 1) := by decide +kernel
theorem dL_law_288 : decode cL_law 288 = .ok (.aload_n 0, 1) := by decide +kernel
theorem dL_law_289 : decode cL_law 289 = .ok (.iload 4, 2) := by decide +kernel
theorem dL_law_291 : decode cL_law 291 = .ok (.iconst 2, 1) := by decide +kernel
theorem dL_law_292 : decode cL_law 292 = .ok (.iadd, 1) := by decide +kernel
theorem dL_law_293 : decode cL_law 293 = .ok (.iaload, 1) := by decide +kernel
theorem dL_law_294 : decode cL_law 294 = .ok (.invokevirtual 54, 3) := by decide +kernel
theorem dL_law_297 : decode cL_law 297 = .ok (.if_icmp .eq 298, 3) := by decide +kernel
theorem dL_law_300 : decode cL_law 300 = .ok (.iconst 0, 1) := by decide +kernel
theorem dL_law_301 : decode cL_law 301 = .ok (.ireturn, 1) := by decide +kernel
theorem dL_law_302 : decode cL_law 302 = .ok (.aload_n 1, 1) := by decide +kernel
theorem dL_law_303 : decode cL_law 303 = .ok (.aload_n 0, 1) := by decide +kernel
theorem dL_law_304 : decode cL_law 304 = .ok (.iload 4, 2) := by decide +kernel
theorem dL_law_306 : decode cL_law 306 = .ok (.iconst 1, 1) := by decide +kernel
theorem dL_law_307 : decode cL_law 307 = .ok (.iadd, 1) := by decide +kernel
theorem dL_law_308 : decode cL_law 308 = .ok (.iaload, 1) := by decide +kernel
theorem dL_law_309 : decode cL_law 309 = .ok (.invokevirtual 55, 3) := by decide +kernel
theorem dL_law_312 : decode cL_law 312 = .ok (.aload_n 2, 1) := by decide +kernel
theorem dL_law_313 : decode cL_law 313 = .ok (.aload_n 0, 1) := by decide +kernel
theorem dL_law_314 : decode cL_law 314 = .ok (.iload 4, 2) := by decide +kernel
theorem dL_law_316 : decode cL_law 316 = .ok (.iconst 1, 1) := by decide +kernel
theorem dL_law_317 : decode cL_law 317 = .ok (.iadd, 1) := by decide +kernel
theorem dL_law_318 : decode cL_law 318 = .ok (.iaload, 1) := by decide +kernel
theorem dL_law_319 : decode cL_law 319 = .ok (.invokevirtual 58, 3) := by decide +kernel
theorem dL_law_322 : decode cL_law 322 = .ok (.if_icmp .eq 273, 3) := by decide +kernel
theorem dL_law_325 : decode cL_law 325 = .ok (.iconst 0, 1) := by decide +kernel
theorem dL_law_326 : decode cL_law 326 = .ok (.ireturn, 1) := by decide +kernel
theorem dL_law_327 : decode cL_law 327 = .ok (.aload_n 1, 1) := by decide +kernel
theorem dL_law_328 : decode cL_law 328 = .ok (.aload_n 0, 1) := by decide +kernel
theorem dL_law_329 : decode cL_law 329 = .ok (.iload 4, 2) := by decide +kernel
theorem dL_law_331 : decode cL_law 331 = .ok (.iconst 1, 1) := by decide +kernel
theorem dL_law_332 : decode cL_law 332 = .ok (.iadd, 1) := by decide +kernel
theorem dL_law_333 : decode cL_law 333 = .ok (.iaload, 1) := by decide +kernel
theorem dL_law_334 : decode cL_law 334 = .ok (.aload_n 0, 1) := by decide +kernel
theorem dL_law_335 : decode cL_law 335 = .ok (.iload 4, 2) := by decide +kernel
theorem dL_law_337 : decode cL_law 337 = .ok (.iconst 2, 1) := by decide +kernel
theorem dL_law_338 : decode cL_law 338 = .ok (.iadd, 1) := by decide +kernel
theorem dL_law_339 : decode cL_law 339 = .ok (.iaload, 1) := by decide +kernel
theorem dL_law_340 : decode cL_law 340 = .ok (.aload_n 0, 1) := by decide +kernel
theorem dL_law_341 : decode cL_law 341 = .ok (.iload 4, 2) := by decide +kernel
theorem dL_law_343 : decode cL_law 343 = .ok (.iconst 3, 1) := by decide +kernel
theorem dL_law_344 : decode cL_law 344 = .ok (.iadd, 1) := by decide +kernel
theorem dL_law_345 : decode cL_law 345 = .ok (.iaload, 1) := by decide +kernel
theorem dL_law_346 : decode cL_law 346 = .ok (.invokevirtual 59, 3) := by decide +kernel
theorem dL_law_349 : decode cL_law 349 = .ok (.aload_n 2, 1) := by decide +kernel
theorem dL_law_350 : decode cL_law 350 = .ok (.aload_n 0, 1) := by decide +kernel
theorem dL_law_351 : decode cL_law 351 = .ok (.iload 4, 2) := by decide +kernel
theorem dL_law_353 : decode cL_law 353 = .ok (.iconst 1, 1) := by decide +kernel
theorem dL_law_354 : decode cL_law 354 = .ok (.iadd, 1) := by decide +kernel
theorem dL_law_355 : decode cL_law 355 = .ok (.iaload, 1) := by decide +kernel
theorem dL_law_356 : decode cL_law 356 = .ok (.aload_n 0, 1) := by decide +kernel
theorem dL_law_357 : decode cL_law 357 = .ok (.iload 4, 2) := by decide +kernel
theorem dL_law_359 : decode cL_law 359 = .ok (.iconst 2, 1) := by decide +kernel
theorem dL_law_360 : decode cL_law 360 = .ok (.iadd, 1) := by decide +kernel
theorem dL_law_361 : decode cL_law 361 = .ok (.iaload, 1) := by decide +kernel
theorem dL_law_362 : decode cL_law 362 = .ok (.aload_n 0, 1) := by decide +kernel
theorem dL_law_363 : decode cL_law 363 = .ok (.iload 4, 2) := by decide +kernel
theorem dL_law_365 : decode cL_law 365 = .ok (.iconst 3, 1) := by decide +kernel
theorem dL_law_366 : decode cL_law 366 = .ok (.iadd, 1) := by decide +kernel
theorem dL_law_367 : decode cL_law 367 = .ok (.iaload, 1) := by decide +kernel
theorem dL_law_368 : decode cL_law 368 = .ok (.invokevirtual 63, 3) := by decide +kernel
theorem dL_law_371 : decode cL_law 371 = .ok (.if_icmp .eq 224, 3) := by decide +kernel
theorem dL_law_374 : decode cL_law 374 = .ok (.iconst 0, 1) := by decide +kernel
theorem dL_law_375 : decode cL_law 375 = .ok (.ireturn, 1) := by decide +kernel
theorem dL_law_376 : decode cL_law 376 = .ok (.aload_n 1, 1) := by decide +kernel
theorem dL_law_377 : decode cL_law 377 = .ok (.invokevirtual 64, 3) := by decide +kernel
theorem dL_law_380 : decode cL_law 380 = .ok (.aload_n 2, 1) := by decide +kernel
theorem dL_law_381 : decode cL_law 381 = .ok (.invokevirtual 68, 3) := by decide +kernel
theorem dL_law_384 : decode cL_law 384 = .ok (.if_icmp .eq 211, 3) := by decide +kernel
theorem dL_law_387 : decode cL_law 387 = .ok (.iconst 0, 1) := by decide +kernel
theorem dL_law_388 : decode cL_law 388 = .ok (.ireturn, 1) := by decide +kernel
theorem dL_law_389 : decode cL_law 389 = .ok (.aload_n 1, 1) := by decide +kernel
theorem dL_law_390 : decode cL_law 390 = .ok (.aload_n 0, 1) := by decide +kernel
theorem dL_law_391 : decode cL_law 391 = .ok (.iload 4, 2) := by decide +kernel
theorem dL_law_393 : decode cL_law 393 = .ok (.iconst 1, 1) := by decide +kernel
theorem dL_law_394 : decode cL_law 394 = .ok (.iadd, 1) := by decide +kernel
theorem dL_law_395 : decode cL_law 395 = .ok (.iaload, 1) := by decide +kernel
theorem dL_law_396 : decode cL_law 396 = .ok (.invokevirtual 69, 3) := by decide +kernel
theorem dL_law_399 : decode cL_law 399 = .ok (.aload_n 2, 1) := by decide +kernel
theorem dL_law_400 : decode cL_law 400 = .ok (.aload_n 0, 1) := by decide +kernel
theorem dL_law_401 : decode cL_law 401 = .ok (.iload 4, 2) := by decide +kernel
theorem dL_law_403 : decode cL_law 403 = .ok (.iconst 1, 1) := by decide +kernel
theorem dL_law_404 : decode cL_law 404 = .ok (.iadd, 1) := by decide +kernel
theorem dL_law_405 : decode cL_law 405 = .ok (.iaload, 1) := by decide +kernel
theorem dL_law_406 : decode cL_law 406 = .ok (.invokevirtual 72, 3) := by decide +kernel
theorem dL_law_409 : decode cL_law 409 = .ok (.if_icmp .eq 186, 3) := by decide +kernel
theorem dL_law_412 : decode cL_law 412 = .ok (.iconst 0, 1) := by decide +kernel
theorem dL_law_413 : decode cL_law 413 = .ok (.ireturn, 1) := by decide +kernel
theorem dL_law_414 : decode cL_law 414 = .ok (.aload_n 1, 1) := by decide +kernel
theorem dL_law_415 : decode cL_law 415 = .ok (.invokevirtual 73, 3) := by decide +kernel
theorem dL_law_418 : decode cL_law 418 = .ok (.aload_n 2, 1) := by decide +kernel
theorem dL_law_419 : decode cL_law 419 = .ok (.invokevirtual 76, 3) := by decide +kernel
theorem dL_law_422 : decode cL_law 422 = .ok (.if_icmp .eq 173, 3) := by decide +kernel
theorem dL_law_425 : decode cL_law 425 = .ok (.iconst 0, 1) := by decide +kernel
theorem dL_law_426 : decode cL_law 426 = .ok (.ireturn, 1) := by decide +kernel
theorem dL_law_427 : decode cL_law 427 = .ok (.aload_n 1, 1) := by decide +kernel
theorem dL_law_428 : decode cL_law 428 = .ok (.invokevirtual 77, 3) := by decide +kernel
theorem dL_law_431 : decode cL_law 431 = .ok (.aload_n 2, 1) := by decide +kernel
theorem dL_law_432 : decode cL_law 432 = .ok (.invokevirtual 80, 3) := by decide +kernel
theorem dL_law_435 : decode cL_law 435 = .ok (.if_icmp .eq 160, 3) := by decide +kernel
theorem dL_law_438 : decode cL_law 438 = .ok (.iconst 0, 1) := by decide +kernel
theorem dL_law_439 : decode cL_law 439 = .ok (.ireturn, 1) := by decide +kernel
theorem dL_law_440 : decode cL_law 440 = .ok (.aload_n 1, 1) := by decide +kernel
theorem dL_law_441 : decode cL_law 441 = .ok (.aload_n 0, 1) := by decide +kernel
theorem dL_law_442 : decode cL_law 442 = .ok (.iload 4, 2) := by decide +kernel
theorem dL_law_444 : decode cL_law 444 = .ok (.iconst 1, 1) := by decide +kernel
theorem dL_law_445 : decode cL_law 445 = .ok (.iadd, 1) := by decide +kernel
theorem dL_law_446 : decode cL_law 446 = .ok (.iaload, 1) := by decide +kernel
theorem dL_law_447 : decode cL_law 447 = .ok (.aload_n 0, 1) := by decide +kernel
theorem dL_law_448 : decode cL_law 448 = .ok (.iload 4, 2) := by decide +kernel
theorem dL_law_450 : decode cL_law 450 = .ok (.iconst 2, 1) := by decide +kernel
theorem dL_law_451 : decode cL_law 451 = .ok (.iadd, 1) := by decide +kernel
theorem dL_law_452 : decode cL_law 452 = .ok (.iaload, 1) := by decide +kernel
theorem dL_law_453 : decode cL_law 453 = .ok (.aload_n 0, 1) := by decide +kernel
theorem dL_law_454 : decode cL_law 454 = .ok (.iload 4, 2) := by decide +kernel
theorem dL_law_456 : decode cL_law 456 = .ok (.iconst 3, 1) := by decide +kernel
theorem dL_law_457 : decode cL_law 457 = .ok (.iadd, 1) := by decide +kernel
theorem dL_law_458 : decode cL_law 458 = .ok (.iaload, 1) := by decide +kernel
theorem dL_law_459 : decode cL_law 459 = .ok (.aload_n 3, 1) := by decide +kernel
theorem dL_law_460 : decode cL_law 460 = .ok (.invokestatic 81, 3) := by decide +kernel
theorem dL_law_463 : decode cL_law 463 = .ok (.istore 5, 2) := by decide +kernel
theorem dL_law_465 : decode cL_law 465 = .ok (.aload_n 2, 1) := by decide +kernel
theorem dL_law_466 : decode cL_law 466 = .ok (.aload_n 0, 1) := by decide +kernel
theorem dL_law_467 : decode cL_law 467 = .ok (.iload 4, 2) := by decide +kernel
theorem dL_law_469 : decode cL_law 469 = .ok (.iconst 1, 1) := by decide +kernel
theorem dL_law_470 : decode cL_law 470 = .ok (.iadd, 1) := by decide +kernel
theorem dL_law_471 : decode cL_law 471 = .ok (.iaload, 1) := by decide +kernel
theorem dL_law_472 : decode cL_law 472 = .ok (.aload_n 0, 1) := by decide +kernel
theorem dL_law_473 : decode cL_law 473 = .ok (.iload 4, 2) := by decide +kernel
theorem dL_law_475 : decode cL_law 475 = .ok (.iconst 2, 1) := by decide +kernel
theorem dL_law_476 : decode cL_law 476 = .ok (.iadd, 1) := by decide +kernel
theorem dL_law_477 : decode cL_law 477 = .ok (.iaload, 1) := by decide +kernel
theorem dL_law_478 : decode cL_law 478 = .ok (.aload_n 0, 1) := by decide +kernel
theorem dL_law_479 : decode cL_law 479 = .ok (.iload 4, 2) := by decide +kernel
theorem dL_law_481 : decode cL_law 481 = .ok (.iconst 3, 1) := by decide +kernel
theorem dL_law_482 : decode cL_law 482 = .ok (.iadd, 1) := by decide +kernel
theorem dL_law_483 : decode cL_law 483 = .ok (.iaload, 1) := by decide +kernel
theorem dL_law_484 : decode cL_law 484 = .ok (.invokevirtual 84, 3) := by decide +kernel
theorem dL_law_487 : decode cL_law 487 = .ok (.istore 6, 2) := by decide +kernel
theorem dL_law_489 : decode cL_law 489 = .ok (.aload_n 2, 1) := by decide +kernel
theorem dL_law_490 : decode cL_law 490 = .ok (.invokevirtual 85, 3) := by decide +kernel
theorem dL_law_493 : decode cL_law 493 = .ok (.iload 5, 2) := by decide +kernel
theorem dL_law_495 : decode cL_law 495 = .ok (.if_icmp .eq 5, 3) := by decide +kernel
theorem dL_law_498 : decode cL_law 498 = .ok (.iconst 0, 1) := by decide +kernel
theorem dL_law_499 : decode cL_law 499 = .ok (.ireturn, 1) := by decide +kernel
theorem dL_law_500 : decode cL_law 500 = .ok (.iload 5, 2) := by decide +kernel
theorem dL_law_502 : decode cL_law 502 = .ok (.ifCond .ne 15, 3) := by decide +kernel
theorem dL_law_505 : decode cL_law 505 = .ok (.aload_n 3, 1) := by decide +kernel
theorem dL_law_506 : decode cL_law 506 = .ok (.iconst 0, 1) := by decide +kernel
theorem dL_law_507 : decode cL_law 507 = .ok (.laload, 1) := by decide +kernel
theorem dL_law_508 : decode cL_law 508 = .ok (.iload 6, 2) := by decide +kernel
theorem dL_law_510 : decode cL_law 510 = .ok (.i2l, 1) := by decide +kernel
theorem dL_law_511 : decode cL_law 511 = .ok (.lcmp, 1) := by decide +kernel
theorem dL_law_512 : decode cL_law 512 = .ok (.ifCond .eq 5, 3) := by decide +kernel
theorem dL_law_515 : decode cL_law 515 = .ok (.iconst 0, 1) := by decide +kernel
theorem dL_law_516 : decode cL_law 516 = .ok (.ireturn, 1) := by decide +kernel
theorem dL_law_517 : decode cL_law 517 = .ok (.goto 78, 3) := by decide +kernel
theorem dL_law_520 : decode cL_law 520 = .ok (.aload_n 1, 1) := by decide +kernel
theorem dL_law_521 : decode cL_law 521 = .ok (.aload_n 0, 1) := by decide +kernel
theorem dL_law_522 : decode cL_law 522 = .ok (.iload 4, 2) := by decide +kernel
theorem dL_law_524 : decode cL_law 524 = .ok (.iconst 1, 1) := by decide +kernel
theorem dL_law_525 : decode cL_law 525 = .ok (.iadd, 1) := by decide +kernel
theorem dL_law_526 : decode cL_law 526 = .ok (.iaload, 1) := by decide +kernel
theorem dL_law_527 : decode cL_law 527 = .ok (.invokevirtual 88, 3) := by decide +kernel
theorem dL_law_530 : decode cL_law 530 = .ok (.aload_n 2, 1) := by decide +kernel
theorem dL_law_531 : decode cL_law 531 = .ok (.aload_n 0, 1) := by decide +kernel
theorem dL_law_532 : decode cL_law 532 = .ok (.iload 4, 2) := by decide +kernel
theorem dL_law_534 : decode cL_law 534 = .ok (.iconst 1, 1) := by decide +kernel
theorem dL_law_535 : decode cL_law 535 = .ok (.iadd, 1) := by decide +kernel
theorem dL_law_536 : decode cL_law 536 = .ok (.iaload, 1) := by decide +kernel
theorem dL_law_537 : decode cL_law 537 = .ok (.invokevirtual 91, 3) := by decide +kernel
theorem dL_law_540 : decode cL_law 540 = .ok (.if_icmp .eq 55, 3) := by decide +kernel
theorem dL_law_543 : decode cL_law 543 = .ok (.iconst 0, 1) := by decide +kernel
theorem dL_law_544 : decode cL_law 544 = .ok (.ireturn, 1) := by decide +kernel
theorem dL_law_545 : decode cL_law 545 = .ok (.aload_n 1, 1) := by decide +kernel
theorem dL_law_546 : decode cL_law 546 = .ok (.aload_n 0, 1) := by decide +kernel
theorem dL_law_547 : decode cL_law 547 = .ok (.iload 4, 2) := by decide +kernel
theorem dL_law_549 : decode cL_law 549 = .ok (.iconst 1, 1) := by decide +kernel
theorem dL_law_550 : decode cL_law 550 = .ok (.iadd, 1) := by decide +kernel
theorem dL_law_551 : decode cL_law 551 = .ok (.iaload, 1) := by decide +kernel
theorem dL_law_552 : decode cL_law 552 = .ok (.invokevirtual 92, 3) := by decide +kernel
theorem dL_law_555 : decode cL_law 555 = .ok (.aload_n 2, 1) := by decide +kernel
theorem dL_law_556 : decode cL_law 556 = .ok (.aload_n 0, 1) := by decide +kernel
theorem dL_law_557 : decode cL_law 557 = .ok (.iload 4, 2) := by decide +kernel
theorem dL_law_559 : decode cL_law 559 = .ok (.iconst 1, 1) := by decide +kernel
theorem dL_law_560 : decode cL_law 560 = .ok (.iadd, 1) := by decide +kernel
theorem dL_law_561 : decode cL_law 561 = .ok (.iaload, 1) := by decide +kernel
theorem dL_law_562 : decode cL_law 562 = .ok (.invokevirtual 95, 3) := by decide +kernel
theorem dL_law_565 : decode cL_law 565 = .ok (.if_icmp .eq 30, 3) := by decide +kernel
theorem dL_law_568 : decode cL_law 568 = .ok (.iconst 0, 1) := by decide +kernel
theorem dL_law_569 : decode cL_law 569 = .ok (.ireturn, 1) := by decide +kernel
theorem dL_law_570 : decode cL_law 570 = .ok (.aload_n 1, 1) := by decide +kernel
theorem dL_law_571 : decode cL_law 571 = .ok (.aload_n 0, 1) := by decide +kernel
theorem dL_law_572 : decode cL_law 572 = .ok (.iload 4, 2) := by decide +kernel
theorem dL_law_574 : decode cL_law 574 = .ok (.iconst 1, 1) := by decide +kernel
theorem dL_law_575 : decode cL_law 575 = .ok (.iadd, 1) := by decide +kernel
theorem dL_law_576 : decode cL_law 576 = .ok (.iaload, 1) := by decide +kernel
theorem dL_law_577 : decode cL_law 577 = .ok (.invokevirtual 96, 3) := by decide +kernel
theorem dL_law_580 : decode cL_law 580 = .ok (.aload_n 2, 1) := by decide +kernel
theorem dL_law_581 : decode cL_law 581 = .ok (.aload_n 0, 1) := by decide +kernel
theorem dL_law_582 : decode cL_law 582 = .ok (.iload 4, 2) := by decide +kernel
theorem dL_law_584 : decode cL_law 584 = .ok (.iconst 1, 1) := by decide +kernel
theorem dL_law_585 : decode cL_law 585 = .ok (.iadd, 1) := by decide +kernel
theorem dL_law_586 : decode cL_law 586 = .ok (.iaload, 1) := by decide +kernel
theorem dL_law_587 : decode cL_law 587 = .ok (.invokevirtual 99, 3) := by decide +kernel
theorem dL_law_590 : decode cL_law 590 = .ok (.if_icmp .eq 5, 3) := by decide +kernel
theorem dL_law_593 : decode cL_law 593 = .ok (.iconst 0, 1) := by decide +kernel
theorem dL_law_594 : decode cL_law 594 = .ok (.ireturn, 1) := by decide +kernel
theorem dL_law_595 : decode cL_law 595 = .ok (.iinc 4 4, 3) := by decide +kernel
theorem dL_law_598 : decode cL_law 598 = .ok (.goto (-565), 3) := by decide +kernel
theorem dL_law_601 : decode cL_law 601 = .ok (.iconst 1, 1) := by decide +kernel
theorem dL_law_602 : decode cL_law 602 = .ok (.ireturn, 1) := by decide +kernel
abbrev vwCl : List vw_C := [(RJx00060, TJx00060, 6), (RX0, TX0, 5), (RX1, TX1, 8), (RX2, TX2, 13)]
