/-! ===== BEGIN words of one list among another's, by their places ===== -/
theorem goodIn_r {big : List Cond} (ws : List Cond) (ps : List Nat) (hp : ws = ps.filterMap (fun i => big[i]?)) (h : ws.all goodWord = true) : GoodIn big ws := by
  intro w hw
  have h1 := List.all_eq_true.mp h w hw
  rw [hp] at hw
  obtain ⟨i, -, hi⟩ := List.mem_filterMap.mp hw
  have hm : w ∈ big := by first | exact List.mem_of_getElem? hi | exact List.getElem?_mem hi
  exact ⟨hm, good_of_word h1⟩
theorem goodIn_app {big a b : List Cond} (ha : GoodIn big a) (hb : GoodIn big b) : GoodIn big (a ++ b) := fun w h => (List.mem_append.mp h).elim (ha w) (hb w)
theorem goodIn_ca {big a b : List Cond} {c : Cond} (ha : GoodIn big (c :: a)) (hb : GoodIn big b) : GoodIn big (c :: (a ++ b)) := fun w h => (List.mem_cons.mp h).elim (fun e => ha w (List.mem_cons.mpr (Or.inl e))) (fun h => (List.mem_append.mp h).elim (fun h => ha w (List.mem_cons.mpr (Or.inr h))) (hb w))
theorem goodIn_sub {big ws : List Cond} (hm : ∀ w ∈ ws, w ∈ big) (h : ws.all goodWord = true) : GoodIn big ws := fun w hw => ⟨hm w hw, good_of_word (List.all_eq_true.mp h w hw)⟩
/-! ===== END ===== -/

/-! ===== BEGIN printed: names, fields, word lists, decode rows ===== -/
def RX0 : String := "RelativeFiles$Shelf"
def TX0 : u_T := fun k => match k with
  | 0 => ("RelativeFiles$Shelf", "places", "[I", true)
  | 1 => ("RelativeFiles$Shelf", "values", "[J", true)
  | _ => ("RelativeFiles$Shelf", "held", "I", false)
def tyX0 : Nat → FieldType := fun k => match k with
  | 0 => .array .int
  | 1 => .array .long
  | _ => .int
abbrev wsX00 : List Cond := u_ws RX0 TX0 3
theorem nmX0 : ∀ a, a < 3 → ∀ b, b < 3 → a ≠ b → (TX0 a).2.1 ≠ (TX0 b).2.1 := by decide +kernel
theorem tyX0_ok : ∀ k, k < 3 → parseFieldDescriptor (TX0 k).2.2.1 = some (tyX0 k) := by decide +kernel
abbrev cX0_init : ByteArray := prog_2_method_1_code
def yX0_init : MethodName := ⟨RX0, "<init>", "(I)V"⟩
abbrev cX0_size : ByteArray := prog_2_method_2_code
def yX0_size : MethodName := ⟨RX0, "size", "()I"⟩
abbrev cX0_clear : ByteArray := prog_2_method_3_code
def yX0_clear : MethodName := ⟨RX0, "clear", "()V"⟩
abbrev cX0_has : ByteArray := prog_2_method_4_code
def yX0_has : MethodName := ⟨RX0, "has", "(I)Z"⟩
abbrev cX0_recordOf : ByteArray := prog_2_method_5_code
def yX0_recordOf : MethodName := ⟨RX0, "recordOf", "(I)J"⟩
abbrev cX0_least : ByteArray := prog_2_method_6_code
def yX0_least : MethodName := ⟨RX0, "least", "()I"⟩
abbrev cX0_greatest : ByteArray := prog_2_method_7_code
def yX0_greatest : MethodName := ⟨RX0, "greatest", "()I"⟩
abbrev cX0_firstAbove : ByteArray := prog_2_method_8_code
def yX0_firstAbove : MethodName := ⟨RX0, "firstAbove", "(I)I"⟩
abbrev cX0_lastBelow : ByteArray := prog_2_method_9_code
def yX0_lastBelow : MethodName := ⟨RX0, "lastBelow", "(I)I"⟩
abbrev cX0_add : ByteArray := prog_2_method_10_code
def yX0_add : MethodName := ⟨RX0, "add", "(IJ)Z"⟩
abbrev cX0_replace : ByteArray := prog_2_method_11_code
def yX0_replace : MethodName := ⟨RX0, "replace", "(IJ)V"⟩
abbrev cX0_drop : ByteArray := prog_2_method_12_code
def yX0_drop : MethodName := ⟨RX0, "drop", "(I)V"⟩
abbrev cX0_rank : ByteArray := prog_2_method_13_code
def yX0_rank : MethodName := ⟨RX0, "rank", "(I)I"⟩
abbrev cX0_isAt : ByteArray := prog_2_method_14_code
def yX0_isAt : MethodName := ⟨RX0, "isAt", "(II)Z"⟩
abbrev cX0_placeAt : ByteArray := prog_2_method_15_code
def yX0_placeAt : MethodName := ⟨RX0, "placeAt", "(I)I"⟩
def RX1 : String := "RelativeFiles"
def TX1 : u_T := fun k => match k with
  | 0 => ("RelativeFiles", "most", "I", true)
  | 1 => ("RelativeFiles", "shelf", "LRelativeFiles$Shelf;", true)
  | 2 => ("RelativeFiles", "there", "Z", false)
  | 3 => ("RelativeFiles", "openMode", "I", false)
  | 4 => ("RelativeFiles", "standing", "I", false)
  | 5 => ("RelativeFiles", "position", "I", false)
  | 6 => ("RelativeFiles", "lastRead", "I", false)
  | 7 => ("RelativeFiles", "lastValue", "J", false)
  | _ => ("RelativeFiles", "keyDigits", "I", false)
def tyX1 : Nat → FieldType := fun k => match k with
  | 0 => .int
  | 1 => .object "RelativeFiles$Shelf"
  | 2 => .boolean
  | 3 => .int
  | 4 => .int
  | 5 => .int
  | 6 => .int
  | 7 => .long
  | _ => .int
abbrev wsX10 : List Cond := u_ws RX1 TX1 9
theorem nmX1 : ∀ a, a < 9 → ∀ b, b < 9 → a ≠ b → (TX1 a).2.1 ≠ (TX1 b).2.1 := by decide +kernel
theorem tyX1_ok : ∀ k, k < 9 → parseFieldDescriptor (TX1 k).2.2.1 = some (tyX1 k) := by decide +kernel
abbrev cX1_init : ByteArray := prog_1_method_1_code
def yX1_init : MethodName := ⟨RX1, "<init>", "(I)V"⟩
abbrev cX1_open : ByteArray := prog_1_method_2_code
def yX1_open : MethodName := ⟨RX1, "open", "(I)I"⟩
abbrev cX1_write : ByteArray := prog_1_method_3_code
def yX1_write : MethodName := ⟨RX1, "write", "(IJ)I"⟩
abbrev cX1_read : ByteArray := prog_1_method_4_code
def yX1_read : MethodName := ⟨RX1, "read", "(I)I"⟩
abbrev cX1_value : ByteArray := prog_1_method_5_code
def yX1_value : MethodName := ⟨RX1, "value", "()J"⟩
abbrev cX1_start : ByteArray := prog_1_method_6_code
def yX1_start : MethodName := ⟨RX1, "start", "(II)I"⟩
abbrev cX1_next : ByteArray := prog_1_method_7_code
def yX1_next : MethodName := ⟨RX1, "next", "(Z)I"⟩
abbrev cX1_rewrite : ByteArray := prog_1_method_8_code
def yX1_rewrite : MethodName := ⟨RX1, "rewrite", "(IJ)I"⟩
abbrev cX1_remove : ByteArray := prog_1_method_9_code
def yX1_remove : MethodName := ⟨RX1, "remove", "(I)I"⟩
abbrev cX1_number : ByteArray := prog_1_method_10_code
def yX1_number : MethodName := ⟨RX1, "number", "()I"⟩
abbrev cX1_cell : ByteArray := prog_1_method_11_code
def yX1_cell : MethodName := ⟨RX1, "cell", "(I)J"⟩
abbrev cX1_records : ByteArray := prog_1_method_12_code
def yX1_records : MethodName := ⟨RX1, "records", "()I"⟩
abbrev cX1_digits : ByteArray := prog_1_method_13_code
def yX1_digits : MethodName := ⟨RX1, "digits", "(I)I"⟩
abbrev cX1_count : ByteArray := prog_1_method_14_code
def yX1_count : MethodName := ⟨RX1, "count", "(I)I"⟩
abbrev cX1_openFile : ByteArray := prog_1_method_15_code
def yX1_openFile : MethodName := ⟨RX1, "openFile", "(I)I"⟩
abbrev cX1_closeFile : ByteArray := prog_1_method_16_code
def yX1_closeFile : MethodName := ⟨RX1, "closeFile", "()I"⟩
abbrev cX1_refusalToRead : ByteArray := prog_1_method_17_code
def yX1_refusalToRead : MethodName := ⟨RX1, "refusalToRead", "()I"⟩
abbrev cX1_statusOfChange : ByteArray := prog_1_method_18_code
def yX1_statusOfChange : MethodName := ⟨RX1, "statusOfChange", "(II)I"⟩
abbrev cX1_placeToChange : ByteArray := prog_1_method_19_code
def yX1_placeToChange : MethodName := ⟨RX1, "placeToChange", "(I)I"⟩
abbrev cX1_placeInOrder : ByteArray := prog_1_method_20_code
def yX1_placeInOrder : MethodName := ⟨RX1, "placeInOrder", "()I"⟩
abbrev cX1_placeToStart : ByteArray := prog_1_method_21_code
def yX1_placeToStart : MethodName := ⟨RX1, "placeToStart", "(II)I"⟩
abbrev cX1_placeFromPosition : ByteArray := prog_1_method_22_code
def yX1_placeFromPosition : MethodName := ⟨RX1, "placeFromPosition", "(Z)I"⟩
abbrev cX1_take : ByteArray := prog_1_method_23_code
def yX1_take : MethodName := ⟨RX1, "take", "(I)V"⟩
abbrev cX1_losePosition : ByteArray := prog_1_method_24_code
def yX1_losePosition : MethodName := ⟨RX1, "losePosition", "()V"⟩
abbrev cX1_stand : ByteArray := prog_1_method_25_code
def yX1_stand : MethodName := ⟨RX1, "stand", "(II)V"⟩
abbrev cX1_isPlace : ByteArray := prog_1_method_26_code
def yX1_isPlace : MethodName := ⟨RX1, "isPlace", "(I)Z"⟩
abbrev cX1_isTooLong : ByteArray := prog_1_method_27_code
def yX1_isTooLong : MethodName := ⟨RX1, "isTooLong", "(I)Z"⟩
def RX2 : String := "RelativeFilesModel"
def TX2 : u_T := fun k => match k with
  | 0 => ("RelativeFilesModel", "code", "I", false)
  | 1 => ("RelativeFilesModel", "most", "I", true)
  | 2 => ("RelativeFilesModel", "numbers", "[I", true)
  | 3 => ("RelativeFilesModel", "values", "[J", true)
  | 4 => ("RelativeFilesModel", "size", "I", false)
  | 5 => ("RelativeFilesModel", "there", "Z", false)
  | 6 => ("RelativeFilesModel", "ended", "Z", false)
  | 7 => ("RelativeFilesModel", "mode", "I", false)
  | 8 => ("RelativeFilesModel", "position", "I", false)
  | 9 => ("RelativeFilesModel", "place", "I", false)
  | 10 => ("RelativeFilesModel", "last", "I", false)
  | 11 => ("RelativeFilesModel", "digits", "I", false)
  | _ => ("RelativeFilesModel", "value", "J", false)
def tyX2 : Nat → FieldType := fun k => match k with
  | 0 => .int
  | 1 => .int
  | 2 => .array .int
  | 3 => .array .long
  | 4 => .int
  | 5 => .boolean
  | 6 => .boolean
  | 7 => .int
  | 8 => .int
  | 9 => .int
  | 10 => .int
  | 11 => .int
  | _ => .long
abbrev wsX20 : List Cond := u_ws RX2 TX2 13
theorem nmX2 : ∀ a, a < 13 → ∀ b, b < 13 → a ≠ b → (TX2 a).2.1 ≠ (TX2 b).2.1 := by decide +kernel
theorem tyX2_ok : ∀ k, k < 13 → parseFieldDescriptor (TX2 k).2.2.1 = some (tyX2 k) := by decide +kernel
abbrev cX2_init : ByteArray := prog_4_method_1_code
def yX2_init : MethodName := ⟨RX2, "<init>", "(I)V"⟩
abbrev cX2_thrown : ByteArray := prog_4_method_2_code
def yX2_thrown : MethodName := ⟨RX2, "thrown", "()I"⟩
abbrev cX2_find : ByteArray := prog_4_method_3_code
def yX2_find : MethodName := ⟨RX2, "find", "(I)I"⟩
abbrev cX2_from : ByteArray := prog_4_method_4_code
def yX2_from : MethodName := ⟨RX2, "from", "(J)I"⟩
abbrev cX2_upTo : ByteArray := prog_4_method_5_code
def yX2_upTo : MethodName := ⟨RX2, "upTo", "(J)I"⟩
abbrev cX2_isLong : ByteArray := prog_4_method_6_code
def yX2_isLong : MethodName := ⟨RX2, "isLong", "(I)Z"⟩
abbrev cX2_isPlace : ByteArray := prog_4_method_7_code
def yX2_isPlace : MethodName := ⟨RX2, "isPlace", "(I)Z"⟩
abbrev cX2_reads : ByteArray := prog_4_method_8_code
def yX2_reads : MethodName := ⟨RX2, "reads", "()Z"⟩
abbrev cX2_open : ByteArray := prog_4_method_9_code
def yX2_open : MethodName := ⟨RX2, "open", "(I)I"⟩
abbrev cX2_add : ByteArray := prog_4_method_10_code
def yX2_add : MethodName := ⟨RX2, "add", "(IJ)V"⟩
abbrev cX2_write : ByteArray := prog_4_method_11_code
def yX2_write : MethodName := ⟨RX2, "write", "(IJ)I"⟩
abbrev cX2_take : ByteArray := prog_4_method_12_code
def yX2_take : MethodName := ⟨RX2, "take", "(I)V"⟩
abbrev cX2_read : ByteArray := prog_4_method_13_code
def yX2_read : MethodName := ⟨RX2, "read", "(I)I"⟩
abbrev cX2_value : ByteArray := prog_4_method_14_code
def yX2_value : MethodName := ⟨RX2, "value", "()J"⟩
abbrev cX2_start : ByteArray := prog_4_method_15_code
def yX2_start : MethodName := ⟨RX2, "start", "(II)I"⟩
abbrev cX2_next : ByteArray := prog_4_method_16_code
def yX2_next : MethodName := ⟨RX2, "next", "(Z)I"⟩
abbrev cX2_meant : ByteArray := prog_4_method_17_code
def yX2_meant : MethodName := ⟨RX2, "meant", "(I)I"⟩
abbrev cX2_rewrite : ByteArray := prog_4_method_18_code
def yX2_rewrite : MethodName := ⟨RX2, "rewrite", "(IJ)I"⟩
abbrev cX2_remove : ByteArray := prog_4_method_19_code
def yX2_remove : MethodName := ⟨RX2, "remove", "(I)I"⟩
abbrev cX2_number : ByteArray := prog_4_method_20_code
def yX2_number : MethodName := ⟨RX2, "number", "()I"⟩
abbrev cX2_cell : ByteArray := prog_4_method_21_code
def yX2_cell : MethodName := ⟨RX2, "cell", "(I)J"⟩
abbrev cX2_records : ByteArray := prog_4_method_22_code
def yX2_records : MethodName := ⟨RX2, "records", "()I"⟩
abbrev cX2_digits : ByteArray := prog_4_method_23_code
def yX2_digits : MethodName := ⟨RX2, "digits", "(I)I"⟩
abbrev cX2_count : ByteArray := prog_4_method_24_code
def yX2_count : MethodName := ⟨RX2, "count", "(I)I"⟩
def RJx00060 : String := "java/lang/ArrayIndexOutOfBoundsException"
def TJx00060 : u_T := fun k => match k with
  | 0 => ("java/lang/Throwable", "cause", "Ljava/lang/Throwable;", false)
  | 1 => ("java/lang/Throwable", "stackTrace", "[Ljava/lang/StackTraceElement;", false)
  | 2 => ("java/lang/Throwable", "suppressedExceptions", "Ljava/util/List;", false)
  | 3 => ("java/lang/Throwable", "detailMessage", "Ljava/lang/String;", false)
  | 4 => ("java/lang/Throwable", "backtrace", "Ljava/lang/Object;", false)
  | _ => ("java/lang/Throwable", "depth", "I", false)
def tyJx00060 : Nat → FieldType := fun k => match k with
  | 0 => .object "java/lang/Throwable"
  | 1 => .array (.object "java/lang/StackTraceElement")
  | 2 => .object "java/util/List"
  | 3 => .object "java/lang/String"
  | 4 => .object "java/lang/Object"
  | _ => .int
abbrev wsJx000600 : List Cond := u_ws RJx00060 TJx00060 6
theorem nmJx00060 : ∀ a, a < 6 → ∀ b, b < 6 → a ≠ b → (TJx00060 a).2.1 ≠ (TJx00060 b).2.1 := by decide +kernel
theorem tyJx00060_ok : ∀ k, k < 6 → parseFieldDescriptor (TJx00060 k).2.2.1 = some (tyJx00060 k) := by decide +kernel
abbrev cJx00060_init_a7421 : ByteArray := prog_5_method_2_code
def yJx00060_init_a7421 : MethodName := ⟨RJx00060, "<init>", "(Ljava/lang/String;)V"⟩
def RJ9 : String := "java/lang/Math"
def TJ9 : u_T := fun k => match k with
  | _ => ("", "", "", false)
def tyJ9 : Nat → FieldType := fun k => match k with
  | _ => .int
abbrev wsJ90 : List Cond := u_ws RJ9 TJ9 0
theorem nmJ9 : ∀ a, a < 0 → ∀ b, b < 0 → a ≠ b → (TJ9 a).2.1 ≠ (TJ9 b).2.1 := by decide +kernel
theorem tyJ9_ok : ∀ k, k < 0 → parseFieldDescriptor (TJ9 k).2.2.1 = some (tyJ9 k) := by decide +kernel
abbrev cJ9_max_7cf53 : ByteArray := prog_8_method_65_code
def yJ9_max_7cf53 : MethodName := ⟨RJ9, "max", "(II)I"⟩
abbrev cJ9_min_7cf53 : ByteArray := prog_8_method_69_code
def yJ9_min_7cf53 : MethodName := ⟨RJ9, "min", "(II)I"⟩
def RJ0 : String := "java/lang/String"
def TJ0 : u_T := fun k => match k with
  | _ => ("", "", "", false)
def tyJ0 : Nat → FieldType := fun k => match k with
  | _ => .int
abbrev wsJ00 : List Cond := u_ws RJ0 TJ0 0
theorem nmJ0 : ∀ a, a < 0 → ∀ b, b < 0 → a ≠ b → (TJ0 a).2.1 ≠ (TJ0 b).2.1 := by decide +kernel
theorem tyJ0_ok : ∀ k, k < 0 → parseFieldDescriptor (TJ0 k).2.2.1 = some (tyJ0 k) := by decide +kernel
def RL : String := "RelativeFilesLaw"
abbrev cL_cell : ByteArray := method_2_code
def yL_cell : MethodName := ⟨RL, "cell", "([II)I"⟩
abbrev cL_cell_ : ByteArray := method_3_code
def yL_cell_ : MethodName := ⟨RL, "cell", "(LRelativeFiles;I[J)I"⟩
abbrev cL_law : ByteArray := code
def yL_law : MethodName := ⟨RL, "law", "([I)Z"⟩
def wsX0_init : List Cond := .code yX0_init cX0_init 3 none :: ([.methodLink RX0 3 objectInit, .instanceMethod objectInit, .code objectInit ⟨#[0xb1]⟩ 1 none, .methodLink RX0 9 Lib.Math.max.name, .static Lib.Math.max.name, .initialized "java/lang/Math", .code Lib.Math.max.name Lib.Math.max.code 2 (some .int), .arrayClass .int, .fieldLink RX0 15 "RelativeFiles$Shelf" "places" "[I", .arrayClass .long, .fieldLink RX0 21 "RelativeFiles$Shelf" "values" "[J", .fieldLink RX0 25 "RelativeFiles$Shelf" "held" "I"] ++ wsX00)
def wsX0_size : List Cond := .code yX0_size cX0_size 1 (some .int) :: ([.fieldLink RX0 25 "RelativeFiles$Shelf" "held" "I"] ++ wsX00)
def wsX0_clear : List Cond := .code yX0_clear cX0_clear 1 none :: ([.fieldLink RX0 25 "RelativeFiles$Shelf" "held" "I"] ++ wsX00)
def wsX0_rank : List Cond := .code yX0_rank cX0_rank 3 (some .int) :: ([.fieldLink RX0 25 "RelativeFiles$Shelf" "held" "I", .fieldLink RX0 15 "RelativeFiles$Shelf" "places" "[I"] ++ wsX00)
def wsX0_isAt : List Cond := .code yX0_isAt cX0_isAt 3 (some .boolean) :: ([.fieldLink RX0 25 "RelativeFiles$Shelf" "held" "I", .fieldLink RX0 15 "RelativeFiles$Shelf" "places" "[I"] ++ wsX00)
def wsX0_has : List Cond := .code yX0_has cX0_has 2 (some .boolean) :: ([.methodLink RX0 29 yX0_rank, .instanceMethod yX0_rank, .selects RX0 yX0_rank yX0_rank, .initialized RX0, .code yX0_rank cX0_rank 3 (some .int), .fieldLink RX0 25 "RelativeFiles$Shelf" "held" "I", .fieldLink RX0 15 "RelativeFiles$Shelf" "places" "[I", .methodLink RX0 33 yX0_isAt, .instanceMethod yX0_isAt, .selects RX0 yX0_isAt yX0_isAt, .code yX0_isAt cX0_isAt 3 (some .boolean)] ++ wsX00)
def wsX0_recordOf : List Cond := .code yX0_recordOf cX0_recordOf 3 (some .long) :: ([.fieldLink RX0 21 "RelativeFiles$Shelf" "values" "[J", .methodLink RX0 29 yX0_rank, .instanceMethod yX0_rank, .selects RX0 yX0_rank yX0_rank, .initialized RX0, .code yX0_rank cX0_rank 3 (some .int), .fieldLink RX0 25 "RelativeFiles$Shelf" "held" "I", .fieldLink RX0 15 "RelativeFiles$Shelf" "places" "[I", .methodLink RX0 33 yX0_isAt, .instanceMethod yX0_isAt, .selects RX0 yX0_isAt yX0_isAt, .code yX0_isAt cX0_isAt 3 (some .boolean)] ++ wsX00)
def wsX0_placeAt : List Cond := .code yX0_placeAt cX0_placeAt 2 (some .int) :: ([.fieldLink RX0 25 "RelativeFiles$Shelf" "held" "I", .fieldLink RX0 15 "RelativeFiles$Shelf" "places" "[I"] ++ wsX00)
def wsX0_least : List Cond := .code yX0_least cX0_least 1 (some .int) :: ([.methodLink RX0 37 yX0_placeAt, .instanceMethod yX0_placeAt, .selects RX0 yX0_placeAt yX0_placeAt, .initialized RX0, .code yX0_placeAt cX0_placeAt 2 (some .int), .fieldLink RX0 25 "RelativeFiles$Shelf" "held" "I", .fieldLink RX0 15 "RelativeFiles$Shelf" "places" "[I"] ++ wsX00)
def wsX0_greatest : List Cond := .code yX0_greatest cX0_greatest 1 (some .int) :: ([.fieldLink RX0 25 "RelativeFiles$Shelf" "held" "I", .methodLink RX0 37 yX0_placeAt, .instanceMethod yX0_placeAt, .selects RX0 yX0_placeAt yX0_placeAt, .initialized RX0, .code yX0_placeAt cX0_placeAt 2 (some .int), .fieldLink RX0 15 "RelativeFiles$Shelf" "places" "[I"] ++ wsX00)
def wsX0_firstAbove : List Cond := .code yX0_firstAbove cX0_firstAbove 3 (some .int) :: ([.methodLink RX0 29 yX0_rank, .instanceMethod yX0_rank, .selects RX0 yX0_rank yX0_rank, .initialized RX0, .code yX0_rank cX0_rank 3 (some .int), .fieldLink RX0 25 "RelativeFiles$Shelf" "held" "I", .fieldLink RX0 15 "RelativeFiles$Shelf" "places" "[I", .methodLink RX0 33 yX0_isAt, .instanceMethod yX0_isAt, .selects RX0 yX0_isAt yX0_isAt, .code yX0_isAt cX0_isAt 3 (some .boolean), .methodLink RX0 37 yX0_placeAt, .instanceMethod yX0_placeAt, .selects RX0 yX0_placeAt yX0_placeAt, .code yX0_placeAt cX0_placeAt 2 (some .int)] ++ wsX00)
def wsX0_lastBelow : List Cond := .code yX0_lastBelow cX0_lastBelow 2 (some .int) :: ([.methodLink RX0 29 yX0_rank, .instanceMethod yX0_rank, .selects RX0 yX0_rank yX0_rank, .initialized RX0, .code yX0_rank cX0_rank 3 (some .int), .fieldLink RX0 25 "RelativeFiles$Shelf" "held" "I", .fieldLink RX0 15 "RelativeFiles$Shelf" "places" "[I", .methodLink RX0 37 yX0_placeAt, .instanceMethod yX0_placeAt, .selects RX0 yX0_placeAt yX0_placeAt, .code yX0_placeAt cX0_placeAt 2 (some .int)] ++ wsX00)
def wsX0_add : List Cond := .code yX0_add cX0_add 6 (some .boolean) :: ([.fieldLink RX0 25 "RelativeFiles$Shelf" "held" "I", .fieldLink RX0 15 "RelativeFiles$Shelf" "places" "[I", .fieldLink RX0 21 "RelativeFiles$Shelf" "values" "[J", .methodLink RX0 29 yX0_rank, .instanceMethod yX0_rank, .selects RX0 yX0_rank yX0_rank, .initialized RX0, .code yX0_rank cX0_rank 3 (some .int)] ++ wsX00)
def wsX0_replace : List Cond := .code yX0_replace cX0_replace 5 none :: ([.fieldLink RX0 21 "RelativeFiles$Shelf" "values" "[J", .methodLink RX0 29 yX0_rank, .instanceMethod yX0_rank, .selects RX0 yX0_rank yX0_rank, .initialized RX0, .code yX0_rank cX0_rank 3 (some .int), .fieldLink RX0 25 "RelativeFiles$Shelf" "held" "I", .fieldLink RX0 15 "RelativeFiles$Shelf" "places" "[I", .methodLink RX0 33 yX0_isAt, .instanceMethod yX0_isAt, .selects RX0 yX0_isAt yX0_isAt, .code yX0_isAt cX0_isAt 3 (some .boolean)] ++ wsX00)
def wsX0_drop : List Cond := .code yX0_drop cX0_drop 4 none :: ([.fieldLink RX0 25 "RelativeFiles$Shelf" "held" "I", .fieldLink RX0 15 "RelativeFiles$Shelf" "places" "[I", .fieldLink RX0 21 "RelativeFiles$Shelf" "values" "[J", .methodLink RX0 29 yX0_rank, .instanceMethod yX0_rank, .selects RX0 yX0_rank yX0_rank, .initialized RX0, .code yX0_rank cX0_rank 3 (some .int), .methodLink RX0 33 yX0_isAt, .instanceMethod yX0_isAt, .selects RX0 yX0_isAt yX0_isAt, .code yX0_isAt cX0_isAt 3 (some .boolean)] ++ wsX00)
def wsX1_init_r1 : List Cond := [Cond.methodLink RX1 1 objectInit, Cond.instanceMethod objectInit, Cond.code objectInit ⟨#[0xb1]⟩ 1 none, Cond.constant RX1 9 (65536), Cond.methodLink RX1 10 Lib.Math.min.name, Cond.static Lib.Math.min.name, Cond.initialized "java/lang/Math", Cond.code Lib.Math.min.name Lib.Math.min.code 2 (some .int), Cond.methodLink RX1 16 Lib.Math.max.name, Cond.static Lib.Math.max.name, Cond.code Lib.Math.max.name Lib.Math.max.code 2 (some .int), Cond.fieldLink RX1 19 "RelativeFiles" "most" "I", Cond.classLink RX1 23 RX0, Cond.instantiable RX0 3, Cond.initialized RX0, Cond.fieldLink RX1 28 "RelativeFiles" "shelf" "LRelativeFiles$Shelf;", Cond.fieldLink RX1 32 "RelativeFiles" "there" "Z", Cond.fieldLink RX1 36 "RelativeFiles" "openMode" "I", Cond.fieldLink RX1 39 "RelativeFiles" "standing" "I", Cond.fieldLink RX1 42 "RelativeFiles" "position" "I", Cond.fieldLink RX1 45 "RelativeFiles" "lastRead" "I", Cond.fieldLink RX1 48 "RelativeFiles" "lastValue" "J", Cond.fieldLink RX1 52 "RelativeFiles" "keyDigits" "I", Cond.methodLink RX1 25 yX0_init]
def wsX1_init_r2 : List Cond := [Cond.instanceMethod yX0_init, Cond.code yX0_init cX0_init 3 none, Cond.methodLink RX0 3 objectInit, Cond.methodLink RX0 9 Lib.Math.max.name, Cond.arrayClass .int, Cond.fieldLink RX0 15 "RelativeFiles$Shelf" "places" "[I", Cond.arrayClass .long, Cond.fieldLink RX0 21 "RelativeFiles$Shelf" "values" "[J", Cond.fieldLink RX0 25 "RelativeFiles$Shelf" "held" "I"]
def wsX1_init : List Cond := .code yX1_init cX1_init 2 none :: ((wsX1_init_r1 ++ wsX1_init_r2) ++ wsX10 ++ wsX00)
def wsX1_stand : List Cond := .code yX1_stand cX1_stand 3 none :: ([.fieldLink RX1 39 "RelativeFiles" "standing" "I", .fieldLink RX1 42 "RelativeFiles" "position" "I", .fieldLink RX1 45 "RelativeFiles" "lastRead" "I"] ++ wsX10)
def wsX1_closeFile : List Cond := .code yX1_closeFile cX1_closeFile 1 (some .int) :: ([.fieldLink RX1 36 "RelativeFiles" "openMode" "I", .methodLink RX1 92 yX1_stand, .instanceMethod yX1_stand, .selects RX1 yX1_stand yX1_stand, .initialized RX1, .code yX1_stand cX1_stand 3 none, .fieldLink RX1 39 "RelativeFiles" "standing" "I", .fieldLink RX1 42 "RelativeFiles" "position" "I", .fieldLink RX1 45 "RelativeFiles" "lastRead" "I"] ++ wsX10)
def wsX1_openFile : List Cond := .code yX1_openFile cX1_openFile 3 (some .int) :: ([.fieldLink RX1 36 "RelativeFiles" "openMode" "I", .fieldLink RX1 32 "RelativeFiles" "there" "Z", .fieldLink RX1 28 "RelativeFiles" "shelf" "LRelativeFiles$Shelf;", .methodLink RX1 92 yX1_stand, .instanceMethod yX1_stand, .selects RX1 yX1_stand yX1_stand, .initialized RX1, .code yX1_stand cX1_stand 3 none, .fieldLink RX1 39 "RelativeFiles" "standing" "I", .fieldLink RX1 42 "RelativeFiles" "position" "I", .fieldLink RX1 45 "RelativeFiles" "lastRead" "I", .methodLink RX1 133 yX0_clear, .instanceMethod yX0_clear, .selects RX0 yX0_clear yX0_clear, .initialized RX0, .code yX0_clear cX0_clear 1 none, .fieldLink RX0 25 "RelativeFiles$Shelf" "held" "I"] ++ wsX10 ++ wsX00)
def wsX1_open_r1 : List Cond := [Cond.methodLink RX1 55 yX1_closeFile, Cond.instanceMethod yX1_closeFile, Cond.selects RX1 yX1_closeFile yX1_closeFile, Cond.initialized RX1, Cond.code yX1_closeFile cX1_closeFile 1 (some .int), Cond.fieldLink RX1 36 "RelativeFiles" "openMode" "I", Cond.methodLink RX1 92 yX1_stand, Cond.instanceMethod yX1_stand, Cond.selects RX1 yX1_stand yX1_stand, Cond.code yX1_stand cX1_stand 3 none, Cond.fieldLink RX1 39 "RelativeFiles" "standing" "I", Cond.fieldLink RX1 42 "RelativeFiles" "position" "I", Cond.fieldLink RX1 45 "RelativeFiles" "lastRead" "I", Cond.methodLink RX1 59 yX1_openFile, Cond.instanceMethod yX1_openFile, Cond.selects RX1 yX1_openFile yX1_openFile, Cond.code yX1_openFile cX1_openFile 3 (some .int), Cond.fieldLink RX1 32 "RelativeFiles" "there" "Z", Cond.fieldLink RX1 28 "RelativeFiles" "shelf" "LRelativeFiles$Shelf;", Cond.methodLink RX1 133 yX0_clear, Cond.instanceMethod yX0_clear, Cond.selects RX0 yX0_clear yX0_clear, Cond.initialized RX0, Cond.code yX0_clear cX0_clear 1 none]
def wsX1_open_r2 : List Cond := [Cond.fieldLink RX0 25 "RelativeFiles$Shelf" "held" "I"]
def wsX1_open : List Cond := .code yX1_open cX1_open 2 (some .int) :: ((wsX1_open_r1 ++ wsX1_open_r2) ++ wsX10 ++ wsX00)
def wsX1_placeInOrder : List Cond := .code yX1_placeInOrder cX1_placeInOrder 1 (some .int) :: ([.fieldLink RX1 36 "RelativeFiles" "openMode" "I", .fieldLink RX1 28 "RelativeFiles" "shelf" "LRelativeFiles$Shelf;", .methodLink RX1 127 yX0_greatest, .instanceMethod yX0_greatest, .selects RX0 yX0_greatest yX0_greatest, .initialized RX0, .code yX0_greatest cX0_greatest 1 (some .int), .fieldLink RX0 25 "RelativeFiles$Shelf" "held" "I", .methodLink RX0 37 yX0_placeAt, .instanceMethod yX0_placeAt, .selects RX0 yX0_placeAt yX0_placeAt, .code yX0_placeAt cX0_placeAt 2 (some .int), .fieldLink RX0 15 "RelativeFiles$Shelf" "places" "[I"] ++ wsX10 ++ wsX00)
def wsX1_isPlace : List Cond := .code yX1_isPlace cX1_isPlace 2 (some .boolean) :: ([.fieldLink RX1 19 "RelativeFiles" "most" "I"] ++ wsX10)
def wsX1_isTooLong : List Cond := .code yX1_isTooLong cX1_isTooLong 4 (some .boolean) :: ([.fieldLink RX1 52 "RelativeFiles" "keyDigits" "I"] ++ wsX10)
def wsX1_write_r1 : List Cond := [Cond.fieldLink RX1 36 "RelativeFiles" "openMode" "I", Cond.fieldLink RX1 45 "RelativeFiles" "lastRead" "I", Cond.fieldLink RX1 28 "RelativeFiles" "shelf" "LRelativeFiles$Shelf;", Cond.fieldLink RX1 48 "RelativeFiles" "lastValue" "J", Cond.methodLink RX1 63 yX1_placeInOrder, Cond.instanceMethod yX1_placeInOrder, Cond.selects RX1 yX1_placeInOrder yX1_placeInOrder, Cond.initialized RX1, Cond.code yX1_placeInOrder cX1_placeInOrder 1 (some .int), Cond.methodLink RX1 127 yX0_greatest, Cond.instanceMethod yX0_greatest, Cond.selects RX0 yX0_greatest yX0_greatest, Cond.initialized RX0, Cond.code yX0_greatest cX0_greatest 1 (some .int), Cond.fieldLink RX0 25 "RelativeFiles$Shelf" "held" "I", Cond.methodLink RX0 37 yX0_placeAt, Cond.instanceMethod yX0_placeAt, Cond.selects RX0 yX0_placeAt yX0_placeAt, Cond.code yX0_placeAt cX0_placeAt 2 (some .int), Cond.fieldLink RX0 15 "RelativeFiles$Shelf" "places" "[I", Cond.methodLink RX1 66 yX1_isPlace, Cond.instanceMethod yX1_isPlace, Cond.selects RX1 yX1_isPlace yX1_isPlace, Cond.code yX1_isPlace cX1_isPlace 2 (some .boolean)]
def wsX1_write_r2 : List Cond := [Cond.fieldLink RX1 19 "RelativeFiles" "most" "I", Cond.methodLink RX1 70 yX1_isTooLong, Cond.instanceMethod yX1_isTooLong, Cond.selects RX1 yX1_isTooLong yX1_isTooLong, Cond.code yX1_isTooLong cX1_isTooLong 4 (some .boolean), Cond.fieldLink RX1 52 "RelativeFiles" "keyDigits" "I", Cond.methodLink RX1 73 yX0_has, Cond.instanceMethod yX0_has, Cond.selects RX0 yX0_has yX0_has, Cond.code yX0_has cX0_has 2 (some .boolean), Cond.methodLink RX0 29 yX0_rank, Cond.instanceMethod yX0_rank, Cond.selects RX0 yX0_rank yX0_rank, Cond.code yX0_rank cX0_rank 3 (some .int), Cond.methodLink RX0 33 yX0_isAt, Cond.instanceMethod yX0_isAt, Cond.selects RX0 yX0_isAt yX0_isAt, Cond.code yX0_isAt cX0_isAt 3 (some .boolean), Cond.methodLink RX1 76 yX0_add, Cond.instanceMethod yX0_add, Cond.selects RX0 yX0_add yX0_add, Cond.code yX0_add cX0_add 6 (some .boolean), Cond.fieldLink RX0 21 "RelativeFiles$Shelf" "values" "[J"]
def wsX1_write : List Cond := .code yX1_write cX1_write 5 (some .int) :: ((wsX1_write_r1 ++ wsX1_write_r2) ++ wsX10 ++ wsX00)
def wsX1_refusalToRead : List Cond := .code yX1_refusalToRead cX1_refusalToRead 1 (some .int) :: ([.fieldLink RX1 36 "RelativeFiles" "openMode" "I"] ++ wsX10)
def wsX1_losePosition : List Cond := .code yX1_losePosition cX1_losePosition 1 none :: ([.methodLink RX1 92 yX1_stand, .instanceMethod yX1_stand, .selects RX1 yX1_stand yX1_stand, .initialized RX1, .code yX1_stand cX1_stand 3 none, .fieldLink RX1 39 "RelativeFiles" "standing" "I", .fieldLink RX1 42 "RelativeFiles" "position" "I", .fieldLink RX1 45 "RelativeFiles" "lastRead" "I"] ++ wsX10)
def wsX1_take_r1 : List Cond := [Cond.fieldLink RX1 45 "RelativeFiles" "lastRead" "I", Cond.fieldLink RX1 28 "RelativeFiles" "shelf" "LRelativeFiles$Shelf;", Cond.fieldLink RX1 48 "RelativeFiles" "lastValue" "J", Cond.methodLink RX1 92 yX1_stand, Cond.instanceMethod yX1_stand, Cond.selects RX1 yX1_stand yX1_stand, Cond.initialized RX1, Cond.code yX1_stand cX1_stand 3 none, Cond.fieldLink RX1 39 "RelativeFiles" "standing" "I", Cond.fieldLink RX1 42 "RelativeFiles" "position" "I", Cond.methodLink RX1 120 yX0_recordOf, Cond.instanceMethod yX0_recordOf, Cond.selects RX0 yX0_recordOf yX0_recordOf, Cond.initialized RX0, Cond.code yX0_recordOf cX0_recordOf 3 (some .long), Cond.fieldLink RX0 21 "RelativeFiles$Shelf" "values" "[J", Cond.methodLink RX0 29 yX0_rank, Cond.instanceMethod yX0_rank, Cond.selects RX0 yX0_rank yX0_rank, Cond.code yX0_rank cX0_rank 3 (some .int), Cond.fieldLink RX0 25 "RelativeFiles$Shelf" "held" "I", Cond.fieldLink RX0 15 "RelativeFiles$Shelf" "places" "[I", Cond.methodLink RX0 33 yX0_isAt, Cond.instanceMethod yX0_isAt]
def wsX1_take_r2 : List Cond := [Cond.selects RX0 yX0_isAt yX0_isAt, Cond.code yX0_isAt cX0_isAt 3 (some .boolean)]
def wsX1_take : List Cond := .code yX1_take cX1_take 2 none :: ((wsX1_take_r1 ++ wsX1_take_r2) ++ wsX10 ++ wsX00)
def wsX1_read_r1 : List Cond := [Cond.fieldLink RX1 28 "RelativeFiles" "shelf" "LRelativeFiles$Shelf;", Cond.methodLink RX1 80 yX1_refusalToRead, Cond.instanceMethod yX1_refusalToRead, Cond.selects RX1 yX1_refusalToRead yX1_refusalToRead, Cond.initialized RX1, Cond.code yX1_refusalToRead cX1_refusalToRead 1 (some .int), Cond.fieldLink RX1 36 "RelativeFiles" "openMode" "I", Cond.methodLink RX1 73 yX0_has, Cond.instanceMethod yX0_has, Cond.selects RX0 yX0_has yX0_has, Cond.initialized RX0, Cond.code yX0_has cX0_has 2 (some .boolean), Cond.methodLink RX0 29 yX0_rank, Cond.instanceMethod yX0_rank, Cond.selects RX0 yX0_rank yX0_rank, Cond.code yX0_rank cX0_rank 3 (some .int), Cond.fieldLink RX0 25 "RelativeFiles$Shelf" "held" "I", Cond.fieldLink RX0 15 "RelativeFiles$Shelf" "places" "[I", Cond.methodLink RX0 33 yX0_isAt, Cond.instanceMethod yX0_isAt, Cond.selects RX0 yX0_isAt yX0_isAt, Cond.code yX0_isAt cX0_isAt 3 (some .boolean), Cond.methodLink RX1 83 yX1_losePosition, Cond.instanceMethod yX1_losePosition]
def wsX1_read_r2 : List Cond := [Cond.selects RX1 yX1_losePosition yX1_losePosition, Cond.code yX1_losePosition cX1_losePosition 1 none, Cond.methodLink RX1 92 yX1_stand, Cond.instanceMethod yX1_stand, Cond.selects RX1 yX1_stand yX1_stand, Cond.code yX1_stand cX1_stand 3 none, Cond.fieldLink RX1 39 "RelativeFiles" "standing" "I", Cond.fieldLink RX1 42 "RelativeFiles" "position" "I", Cond.fieldLink RX1 45 "RelativeFiles" "lastRead" "I", Cond.methodLink RX1 86 yX1_take, Cond.instanceMethod yX1_take, Cond.selects RX1 yX1_take yX1_take, Cond.code yX1_take cX1_take 2 none, Cond.fieldLink RX1 48 "RelativeFiles" "lastValue" "J", Cond.methodLink RX1 120 yX0_recordOf, Cond.instanceMethod yX0_recordOf, Cond.selects RX0 yX0_recordOf yX0_recordOf, Cond.code yX0_recordOf cX0_recordOf 3 (some .long), Cond.fieldLink RX0 21 "RelativeFiles$Shelf" "values" "[J"]
def wsX1_read : List Cond := .code yX1_read cX1_read 3 (some .int) :: ((wsX1_read_r1 ++ wsX1_read_r2) ++ wsX10 ++ wsX00)
def wsX1_value : List Cond := .code yX1_value cX1_value 1 (some .long) :: ([.fieldLink RX1 48 "RelativeFiles" "lastValue" "J"] ++ wsX10)
def wsX1_placeToStart_r1 : List Cond := [Cond.fieldLink RX1 28 "RelativeFiles" "shelf" "LRelativeFiles$Shelf;", Cond.methodLink RX1 73 yX0_has, Cond.instanceMethod yX0_has, Cond.selects RX0 yX0_has yX0_has, Cond.initialized RX0, Cond.code yX0_has cX0_has 2 (some .boolean), Cond.methodLink RX0 29 yX0_rank, Cond.instanceMethod yX0_rank, Cond.selects RX0 yX0_rank yX0_rank, Cond.code yX0_rank cX0_rank 3 (some .int), Cond.fieldLink RX0 25 "RelativeFiles$Shelf" "held" "I", Cond.fieldLink RX0 15 "RelativeFiles$Shelf" "places" "[I", Cond.methodLink RX0 33 yX0_isAt, Cond.instanceMethod yX0_isAt, Cond.selects RX0 yX0_isAt yX0_isAt, Cond.code yX0_isAt cX0_isAt 3 (some .boolean), Cond.methodLink RX1 136 yX0_firstAbove, Cond.instanceMethod yX0_firstAbove, Cond.selects RX0 yX0_firstAbove yX0_firstAbove, Cond.code yX0_firstAbove cX0_firstAbove 3 (some .int), Cond.methodLink RX0 37 yX0_placeAt, Cond.instanceMethod yX0_placeAt, Cond.selects RX0 yX0_placeAt yX0_placeAt, Cond.code yX0_placeAt cX0_placeAt 2 (some .int)]
def wsX1_placeToStart_r2 : List Cond := [Cond.methodLink RX1 139 yX0_lastBelow, Cond.instanceMethod yX0_lastBelow, Cond.selects RX0 yX0_lastBelow yX0_lastBelow, Cond.code yX0_lastBelow cX0_lastBelow 2 (some .int)]
def wsX1_placeToStart : List Cond := .code yX1_placeToStart cX1_placeToStart 3 (some .int) :: ((wsX1_placeToStart_r1 ++ wsX1_placeToStart_r2) ++ wsX10 ++ wsX00)
def wsX1_start_r1 : List Cond := [Cond.methodLink RX1 80 yX1_refusalToRead, Cond.instanceMethod yX1_refusalToRead, Cond.selects RX1 yX1_refusalToRead yX1_refusalToRead, Cond.initialized RX1, Cond.code yX1_refusalToRead cX1_refusalToRead 1 (some .int), Cond.fieldLink RX1 36 "RelativeFiles" "openMode" "I", Cond.methodLink RX1 89 yX1_placeToStart, Cond.instanceMethod yX1_placeToStart, Cond.selects RX1 yX1_placeToStart yX1_placeToStart, Cond.code yX1_placeToStart cX1_placeToStart 3 (some .int), Cond.fieldLink RX1 28 "RelativeFiles" "shelf" "LRelativeFiles$Shelf;", Cond.methodLink RX1 73 yX0_has, Cond.instanceMethod yX0_has, Cond.selects RX0 yX0_has yX0_has, Cond.initialized RX0, Cond.code yX0_has cX0_has 2 (some .boolean), Cond.methodLink RX0 29 yX0_rank, Cond.instanceMethod yX0_rank, Cond.selects RX0 yX0_rank yX0_rank, Cond.code yX0_rank cX0_rank 3 (some .int), Cond.fieldLink RX0 25 "RelativeFiles$Shelf" "held" "I", Cond.fieldLink RX0 15 "RelativeFiles$Shelf" "places" "[I", Cond.methodLink RX0 33 yX0_isAt, Cond.instanceMethod yX0_isAt]
def wsX1_start_r2 : List Cond := [Cond.selects RX0 yX0_isAt yX0_isAt, Cond.code yX0_isAt cX0_isAt 3 (some .boolean), Cond.methodLink RX1 136 yX0_firstAbove, Cond.instanceMethod yX0_firstAbove, Cond.selects RX0 yX0_firstAbove yX0_firstAbove, Cond.code yX0_firstAbove cX0_firstAbove 3 (some .int), Cond.methodLink RX0 37 yX0_placeAt, Cond.instanceMethod yX0_placeAt, Cond.selects RX0 yX0_placeAt yX0_placeAt, Cond.code yX0_placeAt cX0_placeAt 2 (some .int), Cond.methodLink RX1 139 yX0_lastBelow, Cond.instanceMethod yX0_lastBelow, Cond.selects RX0 yX0_lastBelow yX0_lastBelow, Cond.code yX0_lastBelow cX0_lastBelow 2 (some .int), Cond.methodLink RX1 83 yX1_losePosition, Cond.instanceMethod yX1_losePosition, Cond.selects RX1 yX1_losePosition yX1_losePosition, Cond.code yX1_losePosition cX1_losePosition 1 none, Cond.methodLink RX1 92 yX1_stand, Cond.instanceMethod yX1_stand, Cond.selects RX1 yX1_stand yX1_stand, Cond.code yX1_stand cX1_stand 3 none, Cond.fieldLink RX1 39 "RelativeFiles" "standing" "I", Cond.fieldLink RX1 42 "RelativeFiles" "position" "I"]
def wsX1_start_r3 : List Cond := [Cond.fieldLink RX1 45 "RelativeFiles" "lastRead" "I"]
def wsX1_start : List Cond := .code yX1_start cX1_start 5 (some .int) :: ((wsX1_start_r1 ++ (wsX1_start_r2 ++ wsX1_start_r3)) ++ wsX10 ++ wsX00)
def wsX1_placeFromPosition_r1 : List Cond := [Cond.fieldLink RX1 39 "RelativeFiles" "standing" "I", Cond.fieldLink RX1 28 "RelativeFiles" "shelf" "LRelativeFiles$Shelf;", Cond.fieldLink RX1 42 "RelativeFiles" "position" "I", Cond.methodLink RX1 73 yX0_has, Cond.instanceMethod yX0_has, Cond.selects RX0 yX0_has yX0_has, Cond.initialized RX0, Cond.code yX0_has cX0_has 2 (some .boolean), Cond.methodLink RX0 29 yX0_rank, Cond.instanceMethod yX0_rank, Cond.selects RX0 yX0_rank yX0_rank, Cond.code yX0_rank cX0_rank 3 (some .int), Cond.fieldLink RX0 25 "RelativeFiles$Shelf" "held" "I", Cond.fieldLink RX0 15 "RelativeFiles$Shelf" "places" "[I", Cond.methodLink RX0 33 yX0_isAt, Cond.instanceMethod yX0_isAt, Cond.selects RX0 yX0_isAt yX0_isAt, Cond.code yX0_isAt cX0_isAt 3 (some .boolean), Cond.methodLink RX1 139 yX0_lastBelow, Cond.instanceMethod yX0_lastBelow, Cond.selects RX0 yX0_lastBelow yX0_lastBelow, Cond.code yX0_lastBelow cX0_lastBelow 2 (some .int), Cond.methodLink RX0 37 yX0_placeAt, Cond.instanceMethod yX0_placeAt]
def wsX1_placeFromPosition_r2 : List Cond := [Cond.selects RX0 yX0_placeAt yX0_placeAt, Cond.code yX0_placeAt cX0_placeAt 2 (some .int), Cond.methodLink RX1 136 yX0_firstAbove, Cond.instanceMethod yX0_firstAbove, Cond.selects RX0 yX0_firstAbove yX0_firstAbove, Cond.code yX0_firstAbove cX0_firstAbove 3 (some .int)]
def wsX1_placeFromPosition : List Cond := .code yX1_placeFromPosition cX1_placeFromPosition 2 (some .int) :: ((wsX1_placeFromPosition_r1 ++ wsX1_placeFromPosition_r2) ++ wsX10 ++ wsX00)
def wsX1_next_r1 : List Cond := [Cond.fieldLink RX1 39 "RelativeFiles" "standing" "I", Cond.fieldLink RX1 45 "RelativeFiles" "lastRead" "I", Cond.methodLink RX1 80 yX1_refusalToRead, Cond.instanceMethod yX1_refusalToRead, Cond.selects RX1 yX1_refusalToRead yX1_refusalToRead, Cond.initialized RX1, Cond.code yX1_refusalToRead cX1_refusalToRead 1 (some .int), Cond.fieldLink RX1 36 "RelativeFiles" "openMode" "I", Cond.methodLink RX1 96 yX1_placeFromPosition, Cond.instanceMethod yX1_placeFromPosition, Cond.selects RX1 yX1_placeFromPosition yX1_placeFromPosition, Cond.code yX1_placeFromPosition cX1_placeFromPosition 2 (some .int), Cond.fieldLink RX1 28 "RelativeFiles" "shelf" "LRelativeFiles$Shelf;", Cond.fieldLink RX1 42 "RelativeFiles" "position" "I", Cond.methodLink RX1 73 yX0_has, Cond.instanceMethod yX0_has, Cond.selects RX0 yX0_has yX0_has, Cond.initialized RX0, Cond.code yX0_has cX0_has 2 (some .boolean), Cond.methodLink RX0 29 yX0_rank, Cond.instanceMethod yX0_rank, Cond.selects RX0 yX0_rank yX0_rank, Cond.code yX0_rank cX0_rank 3 (some .int), Cond.fieldLink RX0 25 "RelativeFiles$Shelf" "held" "I"]
def wsX1_next_r2 : List Cond := [Cond.fieldLink RX0 15 "RelativeFiles$Shelf" "places" "[I", Cond.methodLink RX0 33 yX0_isAt, Cond.instanceMethod yX0_isAt, Cond.selects RX0 yX0_isAt yX0_isAt, Cond.code yX0_isAt cX0_isAt 3 (some .boolean), Cond.methodLink RX1 139 yX0_lastBelow, Cond.instanceMethod yX0_lastBelow, Cond.selects RX0 yX0_lastBelow yX0_lastBelow, Cond.code yX0_lastBelow cX0_lastBelow 2 (some .int), Cond.methodLink RX0 37 yX0_placeAt, Cond.instanceMethod yX0_placeAt, Cond.selects RX0 yX0_placeAt yX0_placeAt, Cond.code yX0_placeAt cX0_placeAt 2 (some .int), Cond.methodLink RX1 136 yX0_firstAbove, Cond.instanceMethod yX0_firstAbove, Cond.selects RX0 yX0_firstAbove yX0_firstAbove, Cond.code yX0_firstAbove cX0_firstAbove 3 (some .int), Cond.methodLink RX1 83 yX1_losePosition, Cond.instanceMethod yX1_losePosition, Cond.selects RX1 yX1_losePosition yX1_losePosition, Cond.code yX1_losePosition cX1_losePosition 1 none, Cond.methodLink RX1 92 yX1_stand, Cond.instanceMethod yX1_stand, Cond.selects RX1 yX1_stand yX1_stand]
def wsX1_next_r3 : List Cond := [Cond.code yX1_stand cX1_stand 3 none, Cond.methodLink RX1 70 yX1_isTooLong, Cond.instanceMethod yX1_isTooLong, Cond.selects RX1 yX1_isTooLong yX1_isTooLong, Cond.code yX1_isTooLong cX1_isTooLong 4 (some .boolean), Cond.fieldLink RX1 52 "RelativeFiles" "keyDigits" "I", Cond.methodLink RX1 86 yX1_take, Cond.instanceMethod yX1_take, Cond.selects RX1 yX1_take yX1_take, Cond.code yX1_take cX1_take 2 none, Cond.fieldLink RX1 48 "RelativeFiles" "lastValue" "J", Cond.methodLink RX1 120 yX0_recordOf, Cond.instanceMethod yX0_recordOf, Cond.selects RX0 yX0_recordOf yX0_recordOf, Cond.code yX0_recordOf cX0_recordOf 3 (some .long), Cond.fieldLink RX0 21 "RelativeFiles$Shelf" "values" "[J"]
def wsX1_next : List Cond := .code yX1_next cX1_next 4 (some .int) :: ((wsX1_next_r1 ++ (wsX1_next_r2 ++ wsX1_next_r3)) ++ wsX10 ++ wsX00)
def wsX1_placeToChange : List Cond := .code yX1_placeToChange cX1_placeToChange 2 (some .int) :: ([.fieldLink RX1 45 "RelativeFiles" "lastRead" "I"] ++ wsX10)
def wsX1_statusOfChange : List Cond := .code yX1_statusOfChange cX1_statusOfChange 3 (some .int) :: ([.fieldLink RX1 36 "RelativeFiles" "openMode" "I", .fieldLink RX1 45 "RelativeFiles" "lastRead" "I", .fieldLink RX1 28 "RelativeFiles" "shelf" "LRelativeFiles$Shelf;", .methodLink RX1 73 yX0_has, .instanceMethod yX0_has, .selects RX0 yX0_has yX0_has, .initialized RX0, .code yX0_has cX0_has 2 (some .boolean), .methodLink RX0 29 yX0_rank, .instanceMethod yX0_rank, .selects RX0 yX0_rank yX0_rank, .code yX0_rank cX0_rank 3 (some .int), .fieldLink RX0 25 "RelativeFiles$Shelf" "held" "I", .fieldLink RX0 15 "RelativeFiles$Shelf" "places" "[I", .methodLink RX0 33 yX0_isAt, .instanceMethod yX0_isAt, .selects RX0 yX0_isAt yX0_isAt, .code yX0_isAt cX0_isAt 3 (some .boolean)] ++ wsX10 ++ wsX00)
def wsX1_rewrite_r1 : List Cond := [Cond.fieldLink RX1 28 "RelativeFiles" "shelf" "LRelativeFiles$Shelf;", Cond.fieldLink RX1 48 "RelativeFiles" "lastValue" "J", Cond.methodLink RX1 100 yX1_placeToChange, Cond.instanceMethod yX1_placeToChange, Cond.selects RX1 yX1_placeToChange yX1_placeToChange, Cond.initialized RX1, Cond.code yX1_placeToChange cX1_placeToChange 2 (some .int), Cond.fieldLink RX1 45 "RelativeFiles" "lastRead" "I", Cond.methodLink RX1 103 yX1_statusOfChange, Cond.instanceMethod yX1_statusOfChange, Cond.selects RX1 yX1_statusOfChange yX1_statusOfChange, Cond.code yX1_statusOfChange cX1_statusOfChange 3 (some .int), Cond.fieldLink RX1 36 "RelativeFiles" "openMode" "I", Cond.methodLink RX1 73 yX0_has, Cond.instanceMethod yX0_has, Cond.selects RX0 yX0_has yX0_has, Cond.initialized RX0, Cond.code yX0_has cX0_has 2 (some .boolean), Cond.methodLink RX0 29 yX0_rank, Cond.instanceMethod yX0_rank, Cond.selects RX0 yX0_rank yX0_rank, Cond.code yX0_rank cX0_rank 3 (some .int), Cond.fieldLink RX0 25 "RelativeFiles$Shelf" "held" "I", Cond.fieldLink RX0 15 "RelativeFiles$Shelf" "places" "[I"]
def wsX1_rewrite_r2 : List Cond := [Cond.methodLink RX0 33 yX0_isAt, Cond.instanceMethod yX0_isAt, Cond.selects RX0 yX0_isAt yX0_isAt, Cond.code yX0_isAt cX0_isAt 3 (some .boolean), Cond.methodLink RX1 106 yX0_replace, Cond.instanceMethod yX0_replace, Cond.selects RX0 yX0_replace yX0_replace, Cond.code yX0_replace cX0_replace 5 none, Cond.fieldLink RX0 21 "RelativeFiles$Shelf" "values" "[J"]
def wsX1_rewrite : List Cond := .code yX1_rewrite cX1_rewrite 6 (some .int) :: ((wsX1_rewrite_r1 ++ wsX1_rewrite_r2) ++ wsX10 ++ wsX00)
def wsX1_remove_r1 : List Cond := [Cond.fieldLink RX1 28 "RelativeFiles" "shelf" "LRelativeFiles$Shelf;", Cond.methodLink RX1 100 yX1_placeToChange, Cond.instanceMethod yX1_placeToChange, Cond.selects RX1 yX1_placeToChange yX1_placeToChange, Cond.initialized RX1, Cond.code yX1_placeToChange cX1_placeToChange 2 (some .int), Cond.fieldLink RX1 45 "RelativeFiles" "lastRead" "I", Cond.methodLink RX1 103 yX1_statusOfChange, Cond.instanceMethod yX1_statusOfChange, Cond.selects RX1 yX1_statusOfChange yX1_statusOfChange, Cond.code yX1_statusOfChange cX1_statusOfChange 3 (some .int), Cond.fieldLink RX1 36 "RelativeFiles" "openMode" "I", Cond.methodLink RX1 73 yX0_has, Cond.instanceMethod yX0_has, Cond.selects RX0 yX0_has yX0_has, Cond.initialized RX0, Cond.code yX0_has cX0_has 2 (some .boolean), Cond.methodLink RX0 29 yX0_rank, Cond.instanceMethod yX0_rank, Cond.selects RX0 yX0_rank yX0_rank, Cond.code yX0_rank cX0_rank 3 (some .int), Cond.fieldLink RX0 25 "RelativeFiles$Shelf" "held" "I", Cond.fieldLink RX0 15 "RelativeFiles$Shelf" "places" "[I", Cond.methodLink RX0 33 yX0_isAt]
def wsX1_remove_r2 : List Cond := [Cond.instanceMethod yX0_isAt, Cond.selects RX0 yX0_isAt yX0_isAt, Cond.code yX0_isAt cX0_isAt 3 (some .boolean), Cond.methodLink RX1 110 yX0_drop, Cond.instanceMethod yX0_drop, Cond.selects RX0 yX0_drop yX0_drop, Cond.code yX0_drop cX0_drop 4 none, Cond.fieldLink RX0 21 "RelativeFiles$Shelf" "values" "[J"]
def wsX1_remove : List Cond := .code yX1_remove cX1_remove 4 (some .int) :: ((wsX1_remove_r1 ++ wsX1_remove_r2) ++ wsX10 ++ wsX00)
def wsX1_number : List Cond := .code yX1_number cX1_number 1 (some .int) :: ([.fieldLink RX1 45 "RelativeFiles" "lastRead" "I"] ++ wsX10)
def wsX1_cell_r1 : List Cond := [Cond.classLink RX1 113 RJx00060, Cond.instantiable RJx00060 6, Cond.initialized RJx00060, Cond.fieldLink RX1 28 "RelativeFiles" "shelf" "LRelativeFiles$Shelf;", Cond.methodLink RX1 66 yX1_isPlace, Cond.instanceMethod yX1_isPlace, Cond.selects RX1 yX1_isPlace yX1_isPlace, Cond.initialized RX1, Cond.code yX1_isPlace cX1_isPlace 2 (some .boolean), Cond.fieldLink RX1 19 "RelativeFiles" "most" "I", Cond.methodLink RX1 120 yX0_recordOf, Cond.instanceMethod yX0_recordOf, Cond.selects RX0 yX0_recordOf yX0_recordOf, Cond.initialized RX0, Cond.code yX0_recordOf cX0_recordOf 3 (some .long), Cond.fieldLink RX0 21 "RelativeFiles$Shelf" "values" "[J", Cond.methodLink RX0 29 yX0_rank, Cond.instanceMethod yX0_rank, Cond.selects RX0 yX0_rank yX0_rank, Cond.code yX0_rank cX0_rank 3 (some .int), Cond.fieldLink RX0 25 "RelativeFiles$Shelf" "held" "I", Cond.fieldLink RX0 15 "RelativeFiles$Shelf" "places" "[I", Cond.methodLink RX0 33 yX0_isAt, Cond.instanceMethod yX0_isAt]
def wsX1_cell_r2 : List Cond := [Cond.selects RX0 yX0_isAt yX0_isAt, Cond.code yX0_isAt cX0_isAt 3 (some .boolean)]
def wsX1_cell : List Cond := .code yX1_cell cX1_cell 2 (some .long) :: ((wsX1_cell_r1 ++ wsX1_cell_r2) ++ wsJx000600 ++ wsX10 ++ wsX00)
def wsX1_records : List Cond := .code yX1_records cX1_records 1 (some .int) :: ([.fieldLink RX1 28 "RelativeFiles" "shelf" "LRelativeFiles$Shelf;", .methodLink RX1 124 yX0_size, .instanceMethod yX0_size, .selects RX0 yX0_size yX0_size, .initialized RX0, .code yX0_size cX0_size 1 (some .int), .fieldLink RX0 25 "RelativeFiles$Shelf" "held" "I"] ++ wsX10 ++ wsX00)
def wsX1_digits : List Cond := .code yX1_digits cX1_digits 3 (some .int) :: ([.fieldLink RX1 52 "RelativeFiles" "keyDigits" "I"] ++ wsX10)
def wsX1_count : List Cond := .code yX1_count cX1_count 2 (some .int) :: ([.fieldLink RX1 19 "RelativeFiles" "most" "I", .fieldLink RX1 32 "RelativeFiles" "there" "Z", .fieldLink RX1 36 "RelativeFiles" "openMode" "I", .fieldLink RX1 28 "RelativeFiles" "shelf" "LRelativeFiles$Shelf;", .methodLink RX1 127 yX0_greatest, .instanceMethod yX0_greatest, .selects RX0 yX0_greatest yX0_greatest, .initialized RX0, .code yX0_greatest cX0_greatest 1 (some .int), .fieldLink RX0 25 "RelativeFiles$Shelf" "held" "I", .methodLink RX0 37 yX0_placeAt, .instanceMethod yX0_placeAt, .selects RX0 yX0_placeAt yX0_placeAt, .code yX0_placeAt cX0_placeAt 2 (some .int), .fieldLink RX0 15 "RelativeFiles$Shelf" "places" "[I", .methodLink RX1 130 yX0_least, .instanceMethod yX0_least, .selects RX0 yX0_least yX0_least, .code yX0_least cX0_least 1 (some .int)] ++ wsX10 ++ wsX00)
def wsX2_init : List Cond := .code yX2_init cX2_init 2 none :: ([.methodLink RX2 1 objectInit, .instanceMethod objectInit, .code objectInit ⟨#[0xb1]⟩ 1 none, .arrayClass .int, .fieldLink RX2 7 "RelativeFilesModel" "numbers" "[I", .arrayClass .long, .fieldLink RX2 13 "RelativeFilesModel" "values" "[J", .fieldLink RX2 17 "RelativeFilesModel" "mode" "I", .fieldLink RX2 21 "RelativeFilesModel" "digits" "I", .constant RX2 24 (65536), .fieldLink RX2 25 "RelativeFilesModel" "most" "I"] ++ wsX20)
def wsX2_thrown : List Cond := .code yX2_thrown cX2_thrown 1 (some .int) :: ([.fieldLink RX2 28 "RelativeFilesModel" "code" "I"] ++ wsX20)
def wsX2_find : List Cond := .code yX2_find cX2_find 4 (some .int) :: ([.fieldLink RX2 31 "RelativeFilesModel" "size" "I", .fieldLink RX2 7 "RelativeFilesModel" "numbers" "[I"] ++ wsX20)
def wsX2_from : List Cond := .code yX2_from cX2_from 5 (some .int) :: ([.fieldLink RX2 31 "RelativeFilesModel" "size" "I", .fieldLink RX2 7 "RelativeFilesModel" "numbers" "[I"] ++ wsX20)
def wsX2_upTo : List Cond := .code yX2_upTo cX2_upTo 5 (some .int) :: ([.fieldLink RX2 31 "RelativeFilesModel" "size" "I", .fieldLink RX2 7 "RelativeFilesModel" "numbers" "[I"] ++ wsX20)
def wsX2_isLong : List Cond := .code yX2_isLong cX2_isLong 5 (some .boolean) :: ([.fieldLink RX2 21 "RelativeFilesModel" "digits" "I", .constantLong RX2 34 (10)] ++ wsX20)
def wsX2_isPlace : List Cond := .code yX2_isPlace cX2_isPlace 2 (some .boolean) :: ([.fieldLink RX2 25 "RelativeFilesModel" "most" "I"] ++ wsX20)
def wsX2_reads : List Cond := .code yX2_reads cX2_reads 1 (some .boolean) :: ([.fieldLink RX2 17 "RelativeFilesModel" "mode" "I"] ++ wsX20)
def wsX2_open : List Cond := .code yX2_open cX2_open 3 (some .int) :: ([.fieldLink RX2 28 "RelativeFilesModel" "code" "I", .fieldLink RX2 17 "RelativeFilesModel" "mode" "I", .fieldLink RX2 36 "RelativeFilesModel" "last" "I", .fieldLink RX2 39 "RelativeFilesModel" "there" "Z", .fieldLink RX2 31 "RelativeFilesModel" "size" "I", .fieldLink RX2 43 "RelativeFilesModel" "position" "I", .fieldLink RX2 46 "RelativeFilesModel" "ended" "Z"] ++ wsX20)
def wsX2_add : List Cond := .code yX2_add cX2_add 4 none :: ([.fieldLink RX2 7 "RelativeFilesModel" "numbers" "[I", .fieldLink RX2 31 "RelativeFilesModel" "size" "I", .fieldLink RX2 13 "RelativeFilesModel" "values" "[J", .fieldLink RX2 49 "RelativeFilesModel" "value" "J"] ++ wsX20)
def wsX2_write_r1 : List Cond := [Cond.fieldLink RX2 28 "RelativeFilesModel" "code" "I", Cond.fieldLink RX2 17 "RelativeFilesModel" "mode" "I", Cond.fieldLink RX2 36 "RelativeFilesModel" "last" "I", Cond.fieldLink RX2 25 "RelativeFilesModel" "most" "I", Cond.methodLink RX2 53 yX2_upTo, Cond.instanceMethod yX2_upTo, Cond.selects RX2 yX2_upTo yX2_upTo, Cond.initialized RX2, Cond.code yX2_upTo cX2_upTo 5 (some .int), Cond.fieldLink RX2 31 "RelativeFilesModel" "size" "I", Cond.fieldLink RX2 7 "RelativeFilesModel" "numbers" "[I", Cond.methodLink RX2 57 yX2_isPlace, Cond.instanceMethod yX2_isPlace, Cond.selects RX2 yX2_isPlace yX2_isPlace, Cond.code yX2_isPlace cX2_isPlace 2 (some .boolean), Cond.methodLink RX2 61 yX2_isLong, Cond.instanceMethod yX2_isLong, Cond.selects RX2 yX2_isLong yX2_isLong, Cond.code yX2_isLong cX2_isLong 5 (some .boolean), Cond.fieldLink RX2 21 "RelativeFilesModel" "digits" "I", Cond.constantLong RX2 34 (10), Cond.methodLink RX2 64 yX2_find, Cond.instanceMethod yX2_find, Cond.selects RX2 yX2_find yX2_find]
def wsX2_write_r2 : List Cond := [Cond.code yX2_find cX2_find 4 (some .int), Cond.methodLink RX2 68 yX2_add, Cond.instanceMethod yX2_add, Cond.selects RX2 yX2_add yX2_add, Cond.code yX2_add cX2_add 4 none, Cond.fieldLink RX2 13 "RelativeFilesModel" "values" "[J", Cond.fieldLink RX2 49 "RelativeFilesModel" "value" "J"]
def wsX2_write : List Cond := .code yX2_write cX2_write 5 (some .int) :: ((wsX2_write_r1 ++ wsX2_write_r2) ++ wsX20)
def wsX2_take : List Cond := .code yX2_take cX2_take 2 none :: ([.fieldLink RX2 43 "RelativeFilesModel" "position" "I", .fieldLink RX2 72 "RelativeFilesModel" "place" "I", .fieldLink RX2 36 "RelativeFilesModel" "last" "I", .fieldLink RX2 13 "RelativeFilesModel" "values" "[J", .fieldLink RX2 49 "RelativeFilesModel" "value" "J", .methodLink RX2 64 yX2_find, .instanceMethod yX2_find, .selects RX2 yX2_find yX2_find, .initialized RX2, .code yX2_find cX2_find 4 (some .int), .fieldLink RX2 31 "RelativeFilesModel" "size" "I", .fieldLink RX2 7 "RelativeFilesModel" "numbers" "[I"] ++ wsX20)
def wsX2_read : List Cond := .code yX2_read cX2_read 2 (some .int) :: ([.fieldLink RX2 28 "RelativeFilesModel" "code" "I", .fieldLink RX2 17 "RelativeFilesModel" "mode" "I", .fieldLink RX2 36 "RelativeFilesModel" "last" "I", .fieldLink RX2 46 "RelativeFilesModel" "ended" "Z", .fieldLink RX2 43 "RelativeFilesModel" "position" "I", .methodLink RX2 75 yX2_reads, .instanceMethod yX2_reads, .selects RX2 yX2_reads yX2_reads, .initialized RX2, .code yX2_reads cX2_reads 1 (some .boolean), .methodLink RX2 64 yX2_find, .instanceMethod yX2_find, .selects RX2 yX2_find yX2_find, .code yX2_find cX2_find 4 (some .int), .fieldLink RX2 31 "RelativeFilesModel" "size" "I", .fieldLink RX2 7 "RelativeFilesModel" "numbers" "[I", .methodLink RX2 79 yX2_take, .instanceMethod yX2_take, .selects RX2 yX2_take yX2_take, .code yX2_take cX2_take 2 none, .fieldLink RX2 72 "RelativeFilesModel" "place" "I", .fieldLink RX2 13 "RelativeFilesModel" "values" "[J", .fieldLink RX2 49 "RelativeFilesModel" "value" "J"] ++ wsX20)
def wsX2_value : List Cond := .code yX2_value cX2_value 1 (some .long) :: ([.fieldLink RX2 28 "RelativeFilesModel" "code" "I", .fieldLink RX2 49 "RelativeFilesModel" "value" "J"] ++ wsX20)
def wsX2_start_r1 : List Cond := [Cond.fieldLink RX2 28 "RelativeFilesModel" "code" "I", Cond.fieldLink RX2 17 "RelativeFilesModel" "mode" "I", Cond.fieldLink RX2 36 "RelativeFilesModel" "last" "I", Cond.fieldLink RX2 46 "RelativeFilesModel" "ended" "Z", Cond.fieldLink RX2 43 "RelativeFilesModel" "position" "I", Cond.fieldLink RX2 72 "RelativeFilesModel" "place" "I", Cond.methodLink RX2 75 yX2_reads, Cond.instanceMethod yX2_reads, Cond.selects RX2 yX2_reads yX2_reads, Cond.initialized RX2, Cond.code yX2_reads cX2_reads 1 (some .boolean), Cond.methodLink RX2 64 yX2_find, Cond.instanceMethod yX2_find, Cond.selects RX2 yX2_find yX2_find, Cond.code yX2_find cX2_find 4 (some .int), Cond.fieldLink RX2 31 "RelativeFilesModel" "size" "I", Cond.fieldLink RX2 7 "RelativeFilesModel" "numbers" "[I", Cond.methodLink RX2 83 yX2_from, Cond.instanceMethod yX2_from, Cond.selects RX2 yX2_from yX2_from, Cond.code yX2_from cX2_from 5 (some .int), Cond.methodLink RX2 53 yX2_upTo, Cond.instanceMethod yX2_upTo, Cond.selects RX2 yX2_upTo yX2_upTo]
def wsX2_start_r2 : List Cond := [Cond.code yX2_upTo cX2_upTo 5 (some .int)]
def wsX2_start : List Cond := .code yX2_start cX2_start 4 (some .int) :: ((wsX2_start_r1 ++ wsX2_start_r2) ++ wsX20)
def wsX2_next_r1 : List Cond := [Cond.fieldLink RX2 28 "RelativeFilesModel" "code" "I", Cond.fieldLink RX2 17 "RelativeFilesModel" "mode" "I", Cond.fieldLink RX2 36 "RelativeFilesModel" "last" "I", Cond.fieldLink RX2 43 "RelativeFilesModel" "position" "I", Cond.fieldLink RX2 46 "RelativeFilesModel" "ended" "Z", Cond.fieldLink RX2 72 "RelativeFilesModel" "place" "I", Cond.methodLink RX2 75 yX2_reads, Cond.instanceMethod yX2_reads, Cond.selects RX2 yX2_reads yX2_reads, Cond.initialized RX2, Cond.code yX2_reads cX2_reads 1 (some .boolean), Cond.methodLink RX2 53 yX2_upTo, Cond.instanceMethod yX2_upTo, Cond.selects RX2 yX2_upTo yX2_upTo, Cond.code yX2_upTo cX2_upTo 5 (some .int), Cond.fieldLink RX2 31 "RelativeFilesModel" "size" "I", Cond.fieldLink RX2 7 "RelativeFilesModel" "numbers" "[I", Cond.methodLink RX2 83 yX2_from, Cond.instanceMethod yX2_from, Cond.selects RX2 yX2_from yX2_from, Cond.code yX2_from cX2_from 5 (some .int), Cond.methodLink RX2 61 yX2_isLong, Cond.instanceMethod yX2_isLong, Cond.selects RX2 yX2_isLong yX2_isLong]
def wsX2_next_r2 : List Cond := [Cond.code yX2_isLong cX2_isLong 5 (some .boolean), Cond.fieldLink RX2 21 "RelativeFilesModel" "digits" "I", Cond.constantLong RX2 34 (10), Cond.methodLink RX2 79 yX2_take, Cond.instanceMethod yX2_take, Cond.selects RX2 yX2_take yX2_take, Cond.code yX2_take cX2_take 2 none, Cond.fieldLink RX2 13 "RelativeFilesModel" "values" "[J", Cond.fieldLink RX2 49 "RelativeFilesModel" "value" "J", Cond.methodLink RX2 64 yX2_find, Cond.instanceMethod yX2_find, Cond.selects RX2 yX2_find yX2_find, Cond.code yX2_find cX2_find 4 (some .int)]
def wsX2_next : List Cond := .code yX2_next cX2_next 5 (some .int) :: ((wsX2_next_r1 ++ wsX2_next_r2) ++ wsX20)
def wsX2_meant : List Cond := .code yX2_meant cX2_meant 2 (some .int) :: ([.fieldLink RX2 36 "RelativeFilesModel" "last" "I", .methodLink RX2 64 yX2_find, .instanceMethod yX2_find, .selects RX2 yX2_find yX2_find, .initialized RX2, .code yX2_find cX2_find 4 (some .int), .fieldLink RX2 31 "RelativeFilesModel" "size" "I", .fieldLink RX2 7 "RelativeFilesModel" "numbers" "[I"] ++ wsX20)
def wsX2_rewrite : List Cond := .code yX2_rewrite cX2_rewrite 5 (some .int) :: ([.fieldLink RX2 28 "RelativeFilesModel" "code" "I", .fieldLink RX2 17 "RelativeFilesModel" "mode" "I", .fieldLink RX2 36 "RelativeFilesModel" "last" "I", .fieldLink RX2 13 "RelativeFilesModel" "values" "[J", .fieldLink RX2 49 "RelativeFilesModel" "value" "J", .methodLink RX2 86 yX2_meant, .instanceMethod yX2_meant, .selects RX2 yX2_meant yX2_meant, .initialized RX2, .code yX2_meant cX2_meant 2 (some .int), .methodLink RX2 64 yX2_find, .instanceMethod yX2_find, .selects RX2 yX2_find yX2_find, .code yX2_find cX2_find 4 (some .int), .fieldLink RX2 31 "RelativeFilesModel" "size" "I", .fieldLink RX2 7 "RelativeFilesModel" "numbers" "[I"] ++ wsX20)
def wsX2_remove : List Cond := .code yX2_remove cX2_remove 3 (some .int) :: ([.fieldLink RX2 28 "RelativeFilesModel" "code" "I", .fieldLink RX2 17 "RelativeFilesModel" "mode" "I", .fieldLink RX2 36 "RelativeFilesModel" "last" "I", .fieldLink RX2 31 "RelativeFilesModel" "size" "I", .fieldLink RX2 7 "RelativeFilesModel" "numbers" "[I", .fieldLink RX2 13 "RelativeFilesModel" "values" "[J", .methodLink RX2 86 yX2_meant, .instanceMethod yX2_meant, .selects RX2 yX2_meant yX2_meant, .initialized RX2, .code yX2_meant cX2_meant 2 (some .int), .methodLink RX2 64 yX2_find, .instanceMethod yX2_find, .selects RX2 yX2_find yX2_find, .code yX2_find cX2_find 4 (some .int)] ++ wsX20)
def wsX2_number : List Cond := .code yX2_number cX2_number 1 (some .int) :: ([.fieldLink RX2 28 "RelativeFilesModel" "code" "I", .fieldLink RX2 36 "RelativeFilesModel" "last" "I"] ++ wsX20)
def wsX2_cell : List Cond := .code yX2_cell cX2_cell 3 (some .long) :: ([.fieldLink RX2 28 "RelativeFilesModel" "code" "I", .fieldLink RX2 13 "RelativeFilesModel" "values" "[J", .methodLink RX2 57 yX2_isPlace, .instanceMethod yX2_isPlace, .selects RX2 yX2_isPlace yX2_isPlace, .initialized RX2, .code yX2_isPlace cX2_isPlace 2 (some .boolean), .fieldLink RX2 25 "RelativeFilesModel" "most" "I", .methodLink RX2 64 yX2_find, .instanceMethod yX2_find, .selects RX2 yX2_find yX2_find, .code yX2_find cX2_find 4 (some .int), .fieldLink RX2 31 "RelativeFilesModel" "size" "I", .fieldLink RX2 7 "RelativeFilesModel" "numbers" "[I"] ++ wsX20)
def wsX2_records : List Cond := .code yX2_records cX2_records 1 (some .int) :: ([.fieldLink RX2 28 "RelativeFilesModel" "code" "I", .fieldLink RX2 31 "RelativeFilesModel" "size" "I"] ++ wsX20)
def wsX2_digits : List Cond := .code yX2_digits cX2_digits 3 (some .int) :: ([.fieldLink RX2 28 "RelativeFilesModel" "code" "I", .fieldLink RX2 21 "RelativeFilesModel" "digits" "I"] ++ wsX20)
def wsX2_count : List Cond := .code yX2_count cX2_count 2 (some .int) :: ([.fieldLink RX2 28 "RelativeFilesModel" "code" "I", .fieldLink RX2 25 "RelativeFilesModel" "most" "I", .fieldLink RX2 39 "RelativeFilesModel" "there" "Z", .fieldLink RX2 17 "RelativeFilesModel" "mode" "I", .methodLink RX2 53 yX2_upTo, .instanceMethod yX2_upTo, .selects RX2 yX2_upTo yX2_upTo, .initialized RX2, .code yX2_upTo cX2_upTo 5 (some .int), .fieldLink RX2 31 "RelativeFilesModel" "size" "I", .fieldLink RX2 7 "RelativeFilesModel" "numbers" "[I", .methodLink RX2 83 yX2_from, .instanceMethod yX2_from, .selects RX2 yX2_from yX2_from, .code yX2_from cX2_from 5 (some .int)] ++ wsX20)
def wsJx00060_init_a7421 : List Cond := .code yJx00060_init_a7421 cJx00060_init_a7421 2 none :: ([])
def wsJ9_max_7cf53 : List Cond := .code yJ9_max_7cf53 cJ9_max_7cf53 2 (some .int) :: ([])
def wsJ9_min_7cf53 : List Cond := .code yJ9_min_7cf53 cJ9_min_7cf53 2 (some .int) :: ([])
def wsL_cell : List Cond := .code yL_cell cL_cell 2 (some .int) :: ([])
def wsL_cell__r1 : List Cond := [Cond.methodLink RL 7 yX1_cell, Cond.instanceMethod yX1_cell, Cond.selects RX1 yX1_cell yX1_cell, Cond.initialized RX1, Cond.code yX1_cell cX1_cell 2 (some .long), Cond.classLink RX1 113 RJx00060, Cond.instantiable RJx00060 6, Cond.initialized RJx00060, Cond.fieldLink RX1 28 "RelativeFiles" "shelf" "LRelativeFiles$Shelf;", Cond.methodLink RX1 66 yX1_isPlace, Cond.instanceMethod yX1_isPlace, Cond.selects RX1 yX1_isPlace yX1_isPlace, Cond.code yX1_isPlace cX1_isPlace 2 (some .boolean), Cond.fieldLink RX1 19 "RelativeFiles" "most" "I", Cond.methodLink RX1 120 yX0_recordOf, Cond.instanceMethod yX0_recordOf, Cond.selects RX0 yX0_recordOf yX0_recordOf, Cond.initialized RX0, Cond.code yX0_recordOf cX0_recordOf 3 (some .long), Cond.fieldLink RX0 21 "RelativeFiles$Shelf" "values" "[J", Cond.methodLink RX0 29 yX0_rank, Cond.instanceMethod yX0_rank, Cond.selects RX0 yX0_rank yX0_rank, Cond.code yX0_rank cX0_rank 3 (some .int)]
def wsL_cell__r2 : List Cond := [Cond.fieldLink RX0 25 "RelativeFiles$Shelf" "held" "I", Cond.fieldLink RX0 15 "RelativeFiles$Shelf" "places" "[I", Cond.methodLink RX0 33 yX0_isAt, Cond.instanceMethod yX0_isAt, Cond.selects RX0 yX0_isAt yX0_isAt, Cond.code yX0_isAt cX0_isAt 3 (some .boolean)]
def wsL_cell_ : List Cond := .codeWith yL_cell_ cL_cell_ 4 (some .int) [(0, 8, 11, 13)] :: ((wsL_cell__r1 ++ wsL_cell__r2) ++ wsJx000600 ++ wsX10 ++ wsX00)
def wsL_law_r1 : List Cond := [Cond.classLink RL 8 RX1, Cond.instantiable RX1 9, Cond.initialized RX1, Cond.classLink RL 23 RX2, Cond.instantiable RX2 13, Cond.initialized RX2, Cond.arrayClass .long, Cond.constantLong RL 31 (4294967295), Cond.methodLink RL 15 yL_cell, Cond.static yL_cell, Cond.initialized RL, Cond.code yL_cell cL_cell 2 (some .int), Cond.methodLink RL 20 yX1_init, Cond.instanceMethod yX1_init, Cond.code yX1_init cX1_init 2 none, Cond.methodLink RX1 1 objectInit, Cond.instanceMethod objectInit, Cond.code objectInit ⟨#[0xb1]⟩ 1 none, Cond.constant RX1 9 (65536), Cond.methodLink RX1 10 Lib.Math.min.name, Cond.static Lib.Math.min.name, Cond.initialized "java/lang/Math", Cond.code Lib.Math.min.name Lib.Math.min.code 2 (some .int), Cond.methodLink RX1 16 Lib.Math.max.name]
def wsL_law_r2 : List Cond := [Cond.static Lib.Math.max.name, Cond.code Lib.Math.max.name Lib.Math.max.code 2 (some .int), Cond.fieldLink RX1 19 "RelativeFiles" "most" "I", Cond.classLink RX1 23 RX0, Cond.instantiable RX0 3, Cond.initialized RX0, Cond.fieldLink RX1 28 "RelativeFiles" "shelf" "LRelativeFiles$Shelf;", Cond.fieldLink RX1 32 "RelativeFiles" "there" "Z", Cond.fieldLink RX1 36 "RelativeFiles" "openMode" "I", Cond.fieldLink RX1 39 "RelativeFiles" "standing" "I", Cond.fieldLink RX1 42 "RelativeFiles" "position" "I", Cond.fieldLink RX1 45 "RelativeFiles" "lastRead" "I", Cond.fieldLink RX1 48 "RelativeFiles" "lastValue" "J", Cond.fieldLink RX1 52 "RelativeFiles" "keyDigits" "I", Cond.methodLink RX1 25 yX0_init, Cond.instanceMethod yX0_init, Cond.code yX0_init cX0_init 3 none, Cond.methodLink RX0 3 objectInit, Cond.methodLink RX0 9 Lib.Math.max.name, Cond.arrayClass .int, Cond.fieldLink RX0 15 "RelativeFiles$Shelf" "places" "[I", Cond.fieldLink RX0 21 "RelativeFiles$Shelf" "values" "[J", Cond.fieldLink RX0 25 "RelativeFiles$Shelf" "held" "I", Cond.methodLink RL 25 yX2_init]
def wsL_law_r3 : List Cond := [Cond.instanceMethod yX2_init, Cond.code yX2_init cX2_init 2 none, Cond.methodLink RX2 1 objectInit, Cond.fieldLink RX2 7 "RelativeFilesModel" "numbers" "[I", Cond.fieldLink RX2 13 "RelativeFilesModel" "values" "[J", Cond.fieldLink RX2 17 "RelativeFilesModel" "mode" "I", Cond.fieldLink RX2 21 "RelativeFilesModel" "digits" "I", Cond.constant RX2 24 (65536), Cond.fieldLink RX2 25 "RelativeFilesModel" "most" "I", Cond.methodLink RL 26 yX1_open, Cond.instanceMethod yX1_open, Cond.selects RX1 yX1_open yX1_open, Cond.code yX1_open cX1_open 2 (some .int), Cond.methodLink RX1 55 yX1_closeFile, Cond.instanceMethod yX1_closeFile, Cond.selects RX1 yX1_closeFile yX1_closeFile, Cond.code yX1_closeFile cX1_closeFile 1 (some .int), Cond.methodLink RX1 92 yX1_stand, Cond.instanceMethod yX1_stand, Cond.selects RX1 yX1_stand yX1_stand, Cond.code yX1_stand cX1_stand 3 none, Cond.methodLink RX1 59 yX1_openFile, Cond.instanceMethod yX1_openFile, Cond.selects RX1 yX1_openFile yX1_openFile]
def wsL_law_r4 : List Cond := [Cond.code yX1_openFile cX1_openFile 3 (some .int), Cond.methodLink RX1 133 yX0_clear, Cond.instanceMethod yX0_clear, Cond.selects RX0 yX0_clear yX0_clear, Cond.code yX0_clear cX0_clear 1 none, Cond.methodLink RL 30 yX2_open, Cond.instanceMethod yX2_open, Cond.selects RX2 yX2_open yX2_open, Cond.code yX2_open cX2_open 3 (some .int), Cond.fieldLink RX2 28 "RelativeFilesModel" "code" "I", Cond.fieldLink RX2 36 "RelativeFilesModel" "last" "I", Cond.fieldLink RX2 39 "RelativeFilesModel" "there" "Z", Cond.fieldLink RX2 31 "RelativeFilesModel" "size" "I", Cond.fieldLink RX2 43 "RelativeFilesModel" "position" "I", Cond.fieldLink RX2 46 "RelativeFilesModel" "ended" "Z", Cond.methodLink RL 33 yX1_write, Cond.instanceMethod yX1_write, Cond.selects RX1 yX1_write yX1_write, Cond.code yX1_write cX1_write 5 (some .int), Cond.methodLink RX1 63 yX1_placeInOrder, Cond.instanceMethod yX1_placeInOrder, Cond.selects RX1 yX1_placeInOrder yX1_placeInOrder, Cond.code yX1_placeInOrder cX1_placeInOrder 1 (some .int), Cond.methodLink RX1 127 yX0_greatest]
def wsL_law_r5 : List Cond := [Cond.instanceMethod yX0_greatest, Cond.selects RX0 yX0_greatest yX0_greatest, Cond.code yX0_greatest cX0_greatest 1 (some .int), Cond.methodLink RX0 37 yX0_placeAt, Cond.instanceMethod yX0_placeAt, Cond.selects RX0 yX0_placeAt yX0_placeAt, Cond.code yX0_placeAt cX0_placeAt 2 (some .int), Cond.methodLink RX1 66 yX1_isPlace, Cond.instanceMethod yX1_isPlace, Cond.selects RX1 yX1_isPlace yX1_isPlace, Cond.code yX1_isPlace cX1_isPlace 2 (some .boolean), Cond.methodLink RX1 70 yX1_isTooLong, Cond.instanceMethod yX1_isTooLong, Cond.selects RX1 yX1_isTooLong yX1_isTooLong, Cond.code yX1_isTooLong cX1_isTooLong 4 (some .boolean), Cond.methodLink RX1 73 yX0_has, Cond.instanceMethod yX0_has, Cond.selects RX0 yX0_has yX0_has, Cond.code yX0_has cX0_has 2 (some .boolean), Cond.methodLink RX0 29 yX0_rank, Cond.instanceMethod yX0_rank, Cond.selects RX0 yX0_rank yX0_rank, Cond.code yX0_rank cX0_rank 3 (some .int), Cond.methodLink RX0 33 yX0_isAt]
def wsL_law_r6 : List Cond := [Cond.instanceMethod yX0_isAt, Cond.selects RX0 yX0_isAt yX0_isAt, Cond.code yX0_isAt cX0_isAt 3 (some .boolean), Cond.methodLink RX1 76 yX0_add, Cond.instanceMethod yX0_add, Cond.selects RX0 yX0_add yX0_add, Cond.code yX0_add cX0_add 6 (some .boolean), Cond.methodLink RL 37 yX2_write, Cond.instanceMethod yX2_write, Cond.selects RX2 yX2_write yX2_write, Cond.code yX2_write cX2_write 5 (some .int), Cond.methodLink RX2 53 yX2_upTo, Cond.instanceMethod yX2_upTo, Cond.selects RX2 yX2_upTo yX2_upTo, Cond.code yX2_upTo cX2_upTo 5 (some .int), Cond.methodLink RX2 57 yX2_isPlace, Cond.instanceMethod yX2_isPlace, Cond.selects RX2 yX2_isPlace yX2_isPlace, Cond.code yX2_isPlace cX2_isPlace 2 (some .boolean), Cond.methodLink RX2 61 yX2_isLong, Cond.instanceMethod yX2_isLong, Cond.selects RX2 yX2_isLong yX2_isLong, Cond.code yX2_isLong cX2_isLong 5 (some .boolean), Cond.constantLong RX2 34 (10)]
def wsL_law_r7 : List Cond := [Cond.methodLink RX2 64 yX2_find, Cond.instanceMethod yX2_find, Cond.selects RX2 yX2_find yX2_find, Cond.code yX2_find cX2_find 4 (some .int), Cond.methodLink RX2 68 yX2_add, Cond.instanceMethod yX2_add, Cond.selects RX2 yX2_add yX2_add, Cond.code yX2_add cX2_add 4 none, Cond.fieldLink RX2 49 "RelativeFilesModel" "value" "J", Cond.methodLink RL 38 yX1_read, Cond.instanceMethod yX1_read, Cond.selects RX1 yX1_read yX1_read, Cond.code yX1_read cX1_read 3 (some .int), Cond.methodLink RX1 80 yX1_refusalToRead, Cond.instanceMethod yX1_refusalToRead, Cond.selects RX1 yX1_refusalToRead yX1_refusalToRead, Cond.code yX1_refusalToRead cX1_refusalToRead 1 (some .int), Cond.methodLink RX1 83 yX1_losePosition, Cond.instanceMethod yX1_losePosition, Cond.selects RX1 yX1_losePosition yX1_losePosition, Cond.code yX1_losePosition cX1_losePosition 1 none, Cond.methodLink RX1 86 yX1_take, Cond.instanceMethod yX1_take, Cond.selects RX1 yX1_take yX1_take]
def wsL_law_r8 : List Cond := [Cond.code yX1_take cX1_take 2 none, Cond.methodLink RX1 120 yX0_recordOf, Cond.instanceMethod yX0_recordOf, Cond.selects RX0 yX0_recordOf yX0_recordOf, Cond.code yX0_recordOf cX0_recordOf 3 (some .long), Cond.methodLink RL 41 yX2_read, Cond.instanceMethod yX2_read, Cond.selects RX2 yX2_read yX2_read, Cond.code yX2_read cX2_read 2 (some .int), Cond.methodLink RX2 75 yX2_reads, Cond.instanceMethod yX2_reads, Cond.selects RX2 yX2_reads yX2_reads, Cond.code yX2_reads cX2_reads 1 (some .boolean), Cond.methodLink RX2 79 yX2_take, Cond.instanceMethod yX2_take, Cond.selects RX2 yX2_take yX2_take, Cond.code yX2_take cX2_take 2 none, Cond.fieldLink RX2 72 "RelativeFilesModel" "place" "I", Cond.methodLink RL 42 yX1_value, Cond.instanceMethod yX1_value, Cond.selects RX1 yX1_value yX1_value, Cond.code yX1_value cX1_value 1 (some .long), Cond.methodLink RL 46 yX2_value, Cond.instanceMethod yX2_value]
def wsL_law_r9 : List Cond := [Cond.selects RX2 yX2_value yX2_value, Cond.code yX2_value cX2_value 1 (some .long), Cond.methodLink RL 47 yX1_start, Cond.instanceMethod yX1_start, Cond.selects RX1 yX1_start yX1_start, Cond.code yX1_start cX1_start 5 (some .int), Cond.methodLink RX1 89 yX1_placeToStart, Cond.instanceMethod yX1_placeToStart, Cond.selects RX1 yX1_placeToStart yX1_placeToStart, Cond.code yX1_placeToStart cX1_placeToStart 3 (some .int), Cond.methodLink RX1 136 yX0_firstAbove, Cond.instanceMethod yX0_firstAbove, Cond.selects RX0 yX0_firstAbove yX0_firstAbove, Cond.code yX0_firstAbove cX0_firstAbove 3 (some .int), Cond.methodLink RX1 139 yX0_lastBelow, Cond.instanceMethod yX0_lastBelow, Cond.selects RX0 yX0_lastBelow yX0_lastBelow, Cond.code yX0_lastBelow cX0_lastBelow 2 (some .int), Cond.methodLink RL 51 yX2_start, Cond.instanceMethod yX2_start, Cond.selects RX2 yX2_start yX2_start, Cond.code yX2_start cX2_start 4 (some .int), Cond.methodLink RX2 83 yX2_from, Cond.instanceMethod yX2_from]
def wsL_law_r10 : List Cond := [Cond.selects RX2 yX2_from yX2_from, Cond.code yX2_from cX2_from 5 (some .int), Cond.methodLink RL 52 yX1_next, Cond.instanceMethod yX1_next, Cond.selects RX1 yX1_next yX1_next, Cond.code yX1_next cX1_next 4 (some .int), Cond.methodLink RX1 96 yX1_placeFromPosition, Cond.instanceMethod yX1_placeFromPosition, Cond.selects RX1 yX1_placeFromPosition yX1_placeFromPosition, Cond.code yX1_placeFromPosition cX1_placeFromPosition 2 (some .int), Cond.methodLink RL 56 yX2_next, Cond.instanceMethod yX2_next, Cond.selects RX2 yX2_next yX2_next, Cond.code yX2_next cX2_next 5 (some .int), Cond.methodLink RL 57 yX1_rewrite, Cond.instanceMethod yX1_rewrite, Cond.selects RX1 yX1_rewrite yX1_rewrite, Cond.code yX1_rewrite cX1_rewrite 6 (some .int), Cond.methodLink RX1 100 yX1_placeToChange, Cond.instanceMethod yX1_placeToChange, Cond.selects RX1 yX1_placeToChange yX1_placeToChange, Cond.code yX1_placeToChange cX1_placeToChange 2 (some .int), Cond.methodLink RX1 103 yX1_statusOfChange, Cond.instanceMethod yX1_statusOfChange]
def wsL_law_r11 : List Cond := [Cond.selects RX1 yX1_statusOfChange yX1_statusOfChange, Cond.code yX1_statusOfChange cX1_statusOfChange 3 (some .int), Cond.methodLink RX1 106 yX0_replace, Cond.instanceMethod yX0_replace, Cond.selects RX0 yX0_replace yX0_replace, Cond.code yX0_replace cX0_replace 5 none, Cond.methodLink RL 60 yX2_rewrite, Cond.instanceMethod yX2_rewrite, Cond.selects RX2 yX2_rewrite yX2_rewrite, Cond.code yX2_rewrite cX2_rewrite 5 (some .int), Cond.methodLink RX2 86 yX2_meant, Cond.instanceMethod yX2_meant, Cond.selects RX2 yX2_meant yX2_meant, Cond.code yX2_meant cX2_meant 2 (some .int), Cond.methodLink RL 61 yX1_remove, Cond.instanceMethod yX1_remove, Cond.selects RX1 yX1_remove yX1_remove, Cond.code yX1_remove cX1_remove 4 (some .int), Cond.methodLink RX1 110 yX0_drop, Cond.instanceMethod yX0_drop, Cond.selects RX0 yX0_drop yX0_drop, Cond.code yX0_drop cX0_drop 4 none, Cond.methodLink RL 64 yX2_remove, Cond.instanceMethod yX2_remove]
def wsL_law_r12 : List Cond := [Cond.selects RX2 yX2_remove yX2_remove, Cond.code yX2_remove cX2_remove 3 (some .int), Cond.methodLink RL 65 yX1_number, Cond.instanceMethod yX1_number, Cond.selects RX1 yX1_number yX1_number, Cond.code yX1_number cX1_number 1 (some .int), Cond.methodLink RL 69 yX2_number, Cond.instanceMethod yX2_number, Cond.selects RX2 yX2_number yX2_number, Cond.code yX2_number cX2_number 1 (some .int), Cond.methodLink RL 70 yL_cell_, Cond.static yL_cell_, Cond.codeWith yL_cell_ cL_cell_ 4 (some .int) [(0, 8, 11, 13)], Cond.methodLink RL 7 yX1_cell, Cond.instanceMethod yX1_cell, Cond.selects RX1 yX1_cell yX1_cell, Cond.code yX1_cell cX1_cell 2 (some .long), Cond.classLink RX1 113 RJx00060, Cond.instantiable RJx00060 6, Cond.initialized RJx00060, Cond.methodLink RL 73 yX2_cell, Cond.instanceMethod yX2_cell, Cond.selects RX2 yX2_cell yX2_cell, Cond.code yX2_cell cX2_cell 3 (some .long)]
def wsL_law_r13 : List Cond := [Cond.methodLink RL 74 yX2_thrown, Cond.instanceMethod yX2_thrown, Cond.selects RX2 yX2_thrown yX2_thrown, Cond.code yX2_thrown cX2_thrown 1 (some .int), Cond.methodLink RL 77 yX1_records, Cond.instanceMethod yX1_records, Cond.selects RX1 yX1_records yX1_records, Cond.code yX1_records cX1_records 1 (some .int), Cond.methodLink RX1 124 yX0_size, Cond.instanceMethod yX0_size, Cond.selects RX0 yX0_size yX0_size, Cond.code yX0_size cX0_size 1 (some .int), Cond.methodLink RL 80 yX2_records, Cond.instanceMethod yX2_records, Cond.selects RX2 yX2_records yX2_records, Cond.code yX2_records cX2_records 1 (some .int), Cond.methodLink RL 81 yX1_digits, Cond.instanceMethod yX1_digits, Cond.selects RX1 yX1_digits yX1_digits, Cond.code yX1_digits cX1_digits 3 (some .int), Cond.methodLink RL 84 yX2_digits, Cond.instanceMethod yX2_digits, Cond.selects RX2 yX2_digits yX2_digits, Cond.code yX2_digits cX2_digits 3 (some .int)]
def wsL_law_r14 : List Cond := [Cond.methodLink RL 85 yX1_count, Cond.instanceMethod yX1_count, Cond.selects RX1 yX1_count yX1_count, Cond.code yX1_count cX1_count 2 (some .int), Cond.methodLink RX1 130 yX0_least, Cond.instanceMethod yX0_least, Cond.selects RX0 yX0_least yX0_least, Cond.code yX0_least cX0_least 1 (some .int), Cond.methodLink RL 88 yX2_count, Cond.instanceMethod yX2_count, Cond.selects RX2 yX2_count yX2_count, Cond.code yX2_count cX2_count 2 (some .int)]
def wsL_law : List Cond := (wsL_law_r1 ++ (wsL_law_r2 ++ (wsL_law_r3 ++ (wsL_law_r4 ++ (wsL_law_r5 ++ (wsL_law_r6 ++ (wsL_law_r7 ++ (wsL_law_r8 ++ (wsL_law_r9 ++ (wsL_law_r10 ++ (wsL_law_r11 ++ (wsL_law_r12 ++ (wsL_law_r13 ++ wsL_law_r14))))))))))))) ++ wsX10 ++ wsX20 ++ wsX00 ++ wsJx000600 ++ ([] : List Cond)
set_option maxRecDepth 20000 in
theorem wsL_law_in : ∀ w ∈ wsL_law, w ∈ lw_tbl := fun w h => (goodIn_p wsL_law [256, 40, 43, 47, 50, 55, 340, 101, 105, 109, 113, 117, 390, 121, 125, 129, 133, 137, 141, 145, 149, 153, 157, 394, 398, 402, 406, 411, 415, 161, 165, 169, 173, 177, 419, 423, 427, 181, 431, 185, 189, 193, 197, 435, 439, 201, 205, 443, 209, 213, 217, 221, 447, 451, 225, 229, 455, 233, 459, 264, 463, 386, 237, 241, 467, 245, 471, 249, 253, 475] (by decide +kernel) (by decide +kernel) w h).1
theorem inlX0 : ∀ w ∈ wsX00, w ∈ wsL_law := fun _ h => List.mem_append_left _ (List.mem_append_left _ (List.mem_append_right _ h))
theorem inX0 : ∀ w ∈ wsX00, w ∈ lw_tbl := fun w h => wsL_law_in w (inlX0 w h)
theorem inlX1 : ∀ w ∈ wsX10, w ∈ wsL_law := fun _ h => List.mem_append_left _ (List.mem_append_left _ (List.mem_append_left _ (List.mem_append_left _ (List.mem_append_right _ h))))
theorem inX1 : ∀ w ∈ wsX10, w ∈ lw_tbl := fun w h => wsL_law_in w (inlX1 w h)
theorem inlX2 : ∀ w ∈ wsX20, w ∈ wsL_law := fun _ h => List.mem_append_left _ (List.mem_append_left _ (List.mem_append_left _ (List.mem_append_right _ h)))
theorem inX2 : ∀ w ∈ wsX20, w ∈ lw_tbl := fun w h => wsL_law_in w (inlX2 w h)
theorem inlJx00060 : ∀ w ∈ wsJx000600, w ∈ wsL_law := fun _ h => List.mem_append_left _ (List.mem_append_right _ h)
theorem inJx00060 : ∀ w ∈ wsJx000600, w ∈ lw_tbl := fun w h => wsL_law_in w (inlJx00060 w h)
theorem inJ9 : ∀ w ∈ wsJ90, w ∈ lw_tbl := by decide +kernel
theorem inJ0 : ∀ w ∈ wsJ00, w ∈ lw_tbl := by decide +kernel
set_option maxRecDepth 20000 in
theorem ggX0_has_X0_rank : GoodIn wsX0_has wsX0_rank := goodIn_r _ [5, 6, 7, 12, 13, 14] (by decide +kernel) (by decide +kernel)
set_option maxRecDepth 20000 in
theorem gX0_has_X0_rank : GoodIn wsX0_has (wsV RX0 29 RX0 yX0_rank wsX0_rank) := goodIn_app (goodIn_of _ (by decide +kernel)) ggX0_has_X0_rank
set_option maxRecDepth 20000 in
theorem ggX0_has_X0_isAt : GoodIn wsX0_has wsX0_isAt := goodIn_r _ [11, 6, 7, 12, 13, 14] (by decide +kernel) (by decide +kernel)
set_option maxRecDepth 20000 in
theorem gX0_has_X0_isAt : GoodIn wsX0_has (wsV RX0 33 RX0 yX0_isAt wsX0_isAt) := goodIn_app (goodIn_of _ (by decide +kernel)) ggX0_has_X0_isAt
set_option maxRecDepth 20000 in
theorem ggX0_recordOf_X0_rank : GoodIn wsX0_recordOf wsX0_rank := goodIn_r _ [6, 7, 8, 13, 14, 15] (by decide +kernel) (by decide +kernel)
set_option maxRecDepth 20000 in
theorem gX0_recordOf_X0_rank : GoodIn wsX0_recordOf (wsV RX0 29 RX0 yX0_rank wsX0_rank) := goodIn_app (goodIn_of _ (by decide +kernel)) ggX0_recordOf_X0_rank
set_option maxRecDepth 20000 in
theorem ggX0_recordOf_X0_isAt : GoodIn wsX0_recordOf wsX0_isAt := goodIn_r _ [12, 7, 8, 13, 14, 15] (by decide +kernel) (by decide +kernel)
set_option maxRecDepth 20000 in
theorem gX0_recordOf_X0_isAt : GoodIn wsX0_recordOf (wsV RX0 33 RX0 yX0_isAt wsX0_isAt) := goodIn_app (goodIn_of _ (by decide +kernel)) ggX0_recordOf_X0_isAt
set_option maxRecDepth 20000 in
theorem ggX0_least_X0_placeAt : GoodIn wsX0_least wsX0_placeAt := goodIn_r _ [5, 6, 7, 8, 9, 10] (by decide +kernel) (by decide +kernel)
set_option maxRecDepth 20000 in
theorem gX0_least_X0_placeAt : GoodIn wsX0_least (wsV RX0 37 RX0 yX0_placeAt wsX0_placeAt) := goodIn_app (goodIn_of _ (by decide +kernel)) ggX0_least_X0_placeAt
set_option maxRecDepth 20000 in
theorem ggX0_greatest_X0_placeAt : GoodIn wsX0_greatest wsX0_placeAt := goodIn_r _ [6, 1, 7, 8, 9, 10] (by decide +kernel) (by decide +kernel)
set_option maxRecDepth 20000 in
theorem gX0_greatest_X0_placeAt : GoodIn wsX0_greatest (wsV RX0 37 RX0 yX0_placeAt wsX0_placeAt) := goodIn_app (goodIn_of _ (by decide +kernel)) ggX0_greatest_X0_placeAt
set_option maxRecDepth 20000 in
theorem ggX0_firstAbove_X0_rank : GoodIn wsX0_firstAbove wsX0_rank := goodIn_r _ [5, 6, 7, 16, 17, 18] (by decide +kernel) (by decide +kernel)
set_option maxRecDepth 20000 in
theorem gX0_firstAbove_X0_rank : GoodIn wsX0_firstAbove (wsV RX0 29 RX0 yX0_rank wsX0_rank) := goodIn_app (goodIn_of _ (by decide +kernel)) ggX0_firstAbove_X0_rank
set_option maxRecDepth 20000 in
theorem ggX0_firstAbove_X0_isAt : GoodIn wsX0_firstAbove wsX0_isAt := goodIn_r _ [11, 6, 7, 16, 17, 18] (by decide +kernel) (by decide +kernel)
set_option maxRecDepth 20000 in
theorem gX0_firstAbove_X0_isAt : GoodIn wsX0_firstAbove (wsV RX0 33 RX0 yX0_isAt wsX0_isAt) := goodIn_app (goodIn_of _ (by decide +kernel)) ggX0_firstAbove_X0_isAt
set_option maxRecDepth 20000 in
theorem ggX0_firstAbove_X0_placeAt : GoodIn wsX0_firstAbove wsX0_placeAt := goodIn_r _ [15, 6, 7, 16, 17, 18] (by decide +kernel) (by decide +kernel)
set_option maxRecDepth 20000 in
theorem gX0_firstAbove_X0_placeAt : GoodIn wsX0_firstAbove (wsV RX0 37 RX0 yX0_placeAt wsX0_placeAt) := goodIn_app (goodIn_of _ (by decide +kernel)) ggX0_firstAbove_X0_placeAt
set_option maxRecDepth 20000 in
theorem ggX0_lastBelow_X0_rank : GoodIn wsX0_lastBelow wsX0_rank := goodIn_r _ [5, 6, 7, 12, 13, 14] (by decide +kernel) (by decide +kernel)
set_option maxRecDepth 20000 in
theorem gX0_lastBelow_X0_rank : GoodIn wsX0_lastBelow (wsV RX0 29 RX0 yX0_rank wsX0_rank) := goodIn_app (goodIn_of _ (by decide +kernel)) ggX0_lastBelow_X0_rank
set_option maxRecDepth 20000 in
theorem ggX0_lastBelow_X0_placeAt : GoodIn wsX0_lastBelow wsX0_placeAt := goodIn_r _ [11, 6, 7, 12, 13, 14] (by decide +kernel) (by decide +kernel)
set_option maxRecDepth 20000 in
theorem gX0_lastBelow_X0_placeAt : GoodIn wsX0_lastBelow (wsV RX0 37 RX0 yX0_placeAt wsX0_placeAt) := goodIn_app (goodIn_of _ (by decide +kernel)) ggX0_lastBelow_X0_placeAt
set_option maxRecDepth 20000 in
theorem ggX0_add_X0_rank : GoodIn wsX0_add wsX0_rank := goodIn_r _ [8, 1, 2, 9, 10, 11] (by decide +kernel) (by decide +kernel)
set_option maxRecDepth 20000 in
theorem gX0_add_X0_rank : GoodIn wsX0_add (wsV RX0 29 RX0 yX0_rank wsX0_rank) := goodIn_app (goodIn_of _ (by decide +kernel)) ggX0_add_X0_rank
set_option maxRecDepth 20000 in
theorem ggX0_replace_X0_rank : GoodIn wsX0_replace wsX0_rank := goodIn_r _ [6, 7, 8, 13, 14, 15] (by decide +kernel) (by decide +kernel)
set_option maxRecDepth 20000 in
theorem gX0_replace_X0_rank : GoodIn wsX0_replace (wsV RX0 29 RX0 yX0_rank wsX0_rank) := goodIn_app (goodIn_of _ (by decide +kernel)) ggX0_replace_X0_rank
set_option maxRecDepth 20000 in
theorem ggX0_replace_X0_isAt : GoodIn wsX0_replace wsX0_isAt := goodIn_r _ [12, 7, 8, 13, 14, 15] (by decide +kernel) (by decide +kernel)
set_option maxRecDepth 20000 in
theorem gX0_replace_X0_isAt : GoodIn wsX0_replace (wsV RX0 33 RX0 yX0_isAt wsX0_isAt) := goodIn_app (goodIn_of _ (by decide +kernel)) ggX0_replace_X0_isAt
set_option maxRecDepth 20000 in
theorem ggX0_drop_X0_rank : GoodIn wsX0_drop wsX0_rank := goodIn_r _ [8, 1, 2, 13, 14, 15] (by decide +kernel) (by decide +kernel)
set_option maxRecDepth 20000 in
theorem gX0_drop_X0_rank : GoodIn wsX0_drop (wsV RX0 29 RX0 yX0_rank wsX0_rank) := goodIn_app (goodIn_of _ (by decide +kernel)) ggX0_drop_X0_rank
set_option maxRecDepth 20000 in
theorem ggX0_drop_X0_isAt : GoodIn wsX0_drop wsX0_isAt := goodIn_r _ [12, 1, 2, 13, 14, 15] (by decide +kernel) (by decide +kernel)
set_option maxRecDepth 20000 in
theorem gX0_drop_X0_isAt : GoodIn wsX0_drop (wsV RX0 33 RX0 yX0_isAt wsX0_isAt) := goodIn_app (goodIn_of _ (by decide +kernel)) ggX0_drop_X0_isAt
set_option maxRecDepth 20000 in
theorem ggX1_init_X0_init : GoodIn wsX1_init wsX0_init := goodIn_r _ [26, 27, 2, 3, 28, 10, 7, 11, 29, 30, 31, 32, 33, 43, 44, 45] (by decide +kernel) (by decide +kernel)
set_option maxRecDepth 20000 in
theorem gX1_init_X0_init : GoodIn wsX1_init (wsX0_init) := ggX1_init_X0_init
set_option maxRecDepth 20000 in
theorem ggX1_open_X1_closeFile : GoodIn wsX1_open wsX1_closeFile := goodIn_r _ [5, 6, 7, 8, 9, 4, 10, 11, 12, 13, 26, 27, 28, 29, 30, 31, 32, 33, 34] (by decide +kernel) (by decide +kernel)
set_option maxRecDepth 20000 in
theorem gX1_open_X1_closeFile : GoodIn wsX1_open (wsV RX1 55 RX1 yX1_closeFile wsX1_closeFile) := goodIn_app (goodIn_of _ (by decide +kernel)) ggX1_open_X1_closeFile
set_option maxRecDepth 20000 in
theorem ggX1_open_X1_openFile : GoodIn wsX1_open wsX1_openFile := goodIn_r _ [17, 6, 18, 19, 7, 8, 9, 4, 10, 11, 12, 13, 20, 21, 22, 23, 24, 25, 26, 27, 28, 29, 30, 31, 32, 33, 34, 35, 36, 37] (by decide +kernel) (by decide +kernel)
set_option maxRecDepth 20000 in
theorem gX1_open_X1_openFile : GoodIn wsX1_open (wsV RX1 59 RX1 yX1_openFile wsX1_openFile) := goodIn_app (goodIn_of _ (by decide +kernel)) ggX1_open_X1_openFile
set_option maxRecDepth 20000 in
theorem ggX1_write_X1_placeInOrder : GoodIn wsX1_write wsX1_placeInOrder := goodIn_r _ [9, 1, 3, 10, 11, 12, 13, 14, 15, 16, 17, 18, 19, 20, 48, 49, 50, 51, 52, 53, 54, 55, 56, 57, 58, 59] (by decide +kernel) (by decide +kernel)
set_option maxRecDepth 20000 in
theorem gX1_write_X1_placeInOrder : GoodIn wsX1_write (wsV RX1 63 RX1 yX1_placeInOrder wsX1_placeInOrder) := goodIn_app (goodIn_of _ (by decide +kernel)) ggX1_write_X1_placeInOrder
set_option maxRecDepth 20000 in
theorem ggX1_write_X1_isPlace : GoodIn wsX1_write wsX1_isPlace := goodIn_r _ [24, 25, 48, 49, 50, 51, 52, 53, 54, 55, 56] (by decide +kernel) (by decide +kernel)
set_option maxRecDepth 20000 in
theorem gX1_write_X1_isPlace : GoodIn wsX1_write (wsV RX1 66 RX1 yX1_isPlace wsX1_isPlace) := goodIn_app (goodIn_of _ (by decide +kernel)) ggX1_write_X1_isPlace
set_option maxRecDepth 20000 in
theorem ggX1_write_X1_isTooLong : GoodIn wsX1_write wsX1_isTooLong := goodIn_r _ [29, 30, 48, 49, 50, 51, 52, 53, 54, 55, 56] (by decide +kernel) (by decide +kernel)
set_option maxRecDepth 20000 in
theorem gX1_write_X1_isTooLong : GoodIn wsX1_write (wsV RX1 70 RX1 yX1_isTooLong wsX1_isTooLong) := goodIn_app (goodIn_of _ (by decide +kernel)) ggX1_write_X1_isTooLong
set_option maxRecDepth 20000 in
theorem ggX1_write_X0_has : GoodIn wsX1_write wsX0_has := goodIn_r _ [34, 35, 36, 37, 13, 38, 15, 20, 39, 40, 41, 42, 57, 58, 59] (by decide +kernel) (by decide +kernel)
set_option maxRecDepth 20000 in
theorem gX1_write_X0_has : GoodIn wsX1_write (wsV RX1 73 RX0 yX0_has wsX0_has) := goodIn_app (goodIn_of _ (by decide +kernel)) ggX1_write_X0_has
set_option maxRecDepth 20000 in
theorem ggX1_write_X0_add : GoodIn wsX1_write wsX0_add := goodIn_r _ [46, 15, 20, 47, 35, 36, 37, 13, 38, 57, 58, 59] (by decide +kernel) (by decide +kernel)
set_option maxRecDepth 20000 in
theorem gX1_write_X0_add : GoodIn wsX1_write (wsV RX1 76 RX0 yX0_add wsX0_add) := goodIn_app (goodIn_of _ (by decide +kernel)) ggX1_write_X0_add
set_option maxRecDepth 20000 in
theorem ggX1_read_X1_refusalToRead : GoodIn wsX1_read wsX1_refusalToRead := goodIn_r _ [6, 7, 44, 45, 46, 47, 48, 49, 50, 51, 52] (by decide +kernel) (by decide +kernel)
set_option maxRecDepth 20000 in
theorem gX1_read_X1_refusalToRead : GoodIn wsX1_read (wsV RX1 80 RX1 yX1_refusalToRead wsX1_refusalToRead) := goodIn_app (goodIn_of _ (by decide +kernel)) ggX1_read_X1_refusalToRead
set_option maxRecDepth 20000 in
theorem ggX1_read_X0_has : GoodIn wsX1_read wsX0_has := goodIn_r _ [12, 13, 14, 15, 11, 16, 17, 18, 19, 20, 21, 22, 53, 54, 55] (by decide +kernel) (by decide +kernel)
set_option maxRecDepth 20000 in
theorem gX1_read_X0_has : GoodIn wsX1_read (wsV RX1 73 RX0 yX0_has wsX0_has) := goodIn_app (goodIn_of _ (by decide +kernel)) ggX1_read_X0_has
set_option maxRecDepth 20000 in
theorem ggX1_read_X1_losePosition : GoodIn wsX1_read wsX1_losePosition := goodIn_r _ [26, 27, 28, 29, 5, 30, 31, 32, 33, 44, 45, 46, 47, 48, 49, 50, 51, 52] (by decide +kernel) (by decide +kernel)
set_option maxRecDepth 20000 in
theorem gX1_read_X1_losePosition : GoodIn wsX1_read (wsV RX1 83 RX1 yX1_losePosition wsX1_losePosition) := goodIn_app (goodIn_of _ (by decide +kernel)) ggX1_read_X1_losePosition
set_option maxRecDepth 20000 in
theorem ggX1_read_X1_take : GoodIn wsX1_read wsX1_take := goodIn_r _ [37, 33, 1, 38, 27, 28, 29, 5, 30, 31, 32, 39, 40, 41, 11, 42, 43, 13, 14, 15, 16, 17, 18, 19, 20, 21, 22, 44, 45, 46, 47, 48, 49, 50, 51, 52, 53, 54, 55] (by decide +kernel) (by decide +kernel)
set_option maxRecDepth 20000 in
theorem gX1_read_X1_take : GoodIn wsX1_read (wsV RX1 86 RX1 yX1_take wsX1_take) := goodIn_app (goodIn_of _ (by decide +kernel)) ggX1_read_X1_take
set_option maxRecDepth 20000 in
theorem ggX1_start_X1_refusalToRead : GoodIn wsX1_start wsX1_refusalToRead := goodIn_r _ [5, 6, 50, 51, 52, 53, 54, 55, 56, 57, 58] (by decide +kernel) (by decide +kernel)
set_option maxRecDepth 20000 in
theorem gX1_start_X1_refusalToRead : GoodIn wsX1_start (wsV RX1 80 RX1 yX1_refusalToRead wsX1_refusalToRead) := goodIn_app (goodIn_of _ (by decide +kernel)) ggX1_start_X1_refusalToRead
set_option maxRecDepth 20000 in
theorem ggX1_start_X1_placeToStart : GoodIn wsX1_start wsX1_placeToStart := goodIn_r _ [10, 11, 12, 13, 14, 15, 16, 17, 18, 19, 20, 21, 22, 23, 24, 25, 26, 27, 28, 29, 30, 31, 32, 33, 34, 35, 36, 37, 38, 50, 51, 52, 53, 54, 55, 56, 57, 58, 59, 60, 61] (by decide +kernel) (by decide +kernel)
set_option maxRecDepth 20000 in
theorem gX1_start_X1_placeToStart : GoodIn wsX1_start (wsV RX1 89 RX1 yX1_placeToStart wsX1_placeToStart) := goodIn_app (goodIn_of _ (by decide +kernel)) ggX1_start_X1_placeToStart
set_option maxRecDepth 20000 in
theorem ggX1_start_X1_losePosition : GoodIn wsX1_start wsX1_losePosition := goodIn_r _ [42, 43, 44, 45, 4, 46, 47, 48, 49, 50, 51, 52, 53, 54, 55, 56, 57, 58] (by decide +kernel) (by decide +kernel)
set_option maxRecDepth 20000 in
theorem gX1_start_X1_losePosition : GoodIn wsX1_start (wsV RX1 83 RX1 yX1_losePosition wsX1_losePosition) := goodIn_app (goodIn_of _ (by decide +kernel)) ggX1_start_X1_losePosition
set_option maxRecDepth 20000 in
theorem ggX1_start_X1_stand : GoodIn wsX1_start wsX1_stand := goodIn_r _ [46, 47, 48, 49, 50, 51, 52, 53, 54, 55, 56, 57, 58] (by decide +kernel) (by decide +kernel)
set_option maxRecDepth 20000 in
theorem gX1_start_X1_stand : GoodIn wsX1_start (wsV RX1 92 RX1 yX1_stand wsX1_stand) := goodIn_app (goodIn_of _ (by decide +kernel)) ggX1_start_X1_stand
set_option maxRecDepth 20000 in
theorem ggX1_next_X1_refusalToRead : GoodIn wsX1_next wsX1_refusalToRead := goodIn_r _ [7, 8, 65, 66, 67, 68, 69, 70, 71, 72, 73] (by decide +kernel) (by decide +kernel)
set_option maxRecDepth 20000 in
theorem gX1_next_X1_refusalToRead : GoodIn wsX1_next (wsV RX1 80 RX1 yX1_refusalToRead wsX1_refusalToRead) := goodIn_app (goodIn_of _ (by decide +kernel)) ggX1_next_X1_refusalToRead
set_option maxRecDepth 20000 in
theorem ggX1_next_X1_placeFromPosition : GoodIn wsX1_next wsX1_placeFromPosition := goodIn_r _ [12, 1, 13, 14, 15, 16, 17, 18, 19, 20, 21, 22, 23, 24, 25, 26, 27, 28, 29, 30, 31, 32, 33, 34, 35, 36, 37, 38, 39, 40, 41, 65, 66, 67, 68, 69, 70, 71, 72, 73, 74, 75, 76] (by decide +kernel) (by decide +kernel)
set_option maxRecDepth 20000 in
theorem gX1_next_X1_placeFromPosition : GoodIn wsX1_next (wsV RX1 96 RX1 yX1_placeFromPosition wsX1_placeFromPosition) := goodIn_app (goodIn_of _ (by decide +kernel)) ggX1_next_X1_placeFromPosition
set_option maxRecDepth 20000 in
theorem ggX1_next_X1_losePosition : GoodIn wsX1_next wsX1_losePosition := goodIn_r _ [45, 46, 47, 48, 6, 49, 1, 14, 2, 65, 66, 67, 68, 69, 70, 71, 72, 73] (by decide +kernel) (by decide +kernel)
set_option maxRecDepth 20000 in
theorem gX1_next_X1_losePosition : GoodIn wsX1_next (wsV RX1 83 RX1 yX1_losePosition wsX1_losePosition) := goodIn_app (goodIn_of _ (by decide +kernel)) ggX1_next_X1_losePosition
set_option maxRecDepth 20000 in
theorem ggX1_next_X1_isTooLong : GoodIn wsX1_next wsX1_isTooLong := goodIn_r _ [53, 54, 65, 66, 67, 68, 69, 70, 71, 72, 73] (by decide +kernel) (by decide +kernel)
set_option maxRecDepth 20000 in
theorem gX1_next_X1_isTooLong : GoodIn wsX1_next (wsV RX1 70 RX1 yX1_isTooLong wsX1_isTooLong) := goodIn_app (goodIn_of _ (by decide +kernel)) ggX1_next_X1_isTooLong
set_option maxRecDepth 20000 in
theorem ggX1_next_X1_take : GoodIn wsX1_next wsX1_take := goodIn_r _ [58, 2, 13, 59, 46, 47, 48, 6, 49, 1, 14, 60, 61, 62, 18, 63, 64, 20, 21, 22, 23, 24, 25, 26, 27, 28, 29, 65, 66, 67, 68, 69, 70, 71, 72, 73, 74, 75, 76] (by decide +kernel) (by decide +kernel)
set_option maxRecDepth 20000 in
theorem gX1_next_X1_take : GoodIn wsX1_next (wsV RX1 86 RX1 yX1_take wsX1_take) := goodIn_app (goodIn_of _ (by decide +kernel)) ggX1_next_X1_take
set_option maxRecDepth 20000 in
theorem ggX1_rewrite_X1_placeToChange : GoodIn wsX1_rewrite wsX1_placeToChange := goodIn_r _ [7, 8, 34, 35, 36, 37, 38, 39, 40, 41, 42] (by decide +kernel) (by decide +kernel)
set_option maxRecDepth 20000 in
theorem gX1_rewrite_X1_placeToChange : GoodIn wsX1_rewrite (wsV RX1 100 RX1 yX1_placeToChange wsX1_placeToChange) := goodIn_app (goodIn_of _ (by decide +kernel)) ggX1_rewrite_X1_placeToChange
set_option maxRecDepth 20000 in
theorem ggX1_rewrite_X1_statusOfChange : GoodIn wsX1_rewrite wsX1_statusOfChange := goodIn_r _ [12, 13, 8, 1, 14, 15, 16, 17, 18, 19, 20, 21, 22, 23, 24, 25, 26, 27, 28, 34, 35, 36, 37, 38, 39, 40, 41, 42, 43, 44, 45] (by decide +kernel) (by decide +kernel)
set_option maxRecDepth 20000 in
theorem gX1_rewrite_X1_statusOfChange : GoodIn wsX1_rewrite (wsV RX1 103 RX1 yX1_statusOfChange wsX1_statusOfChange) := goodIn_app (goodIn_of _ (by decide +kernel)) ggX1_rewrite_X1_statusOfChange
set_option maxRecDepth 20000 in
theorem ggX1_rewrite_X0_replace : GoodIn wsX1_rewrite wsX0_replace := goodIn_r _ [32, 33, 19, 20, 21, 17, 22, 23, 24, 25, 26, 27, 28, 43, 44, 45] (by decide +kernel) (by decide +kernel)
set_option maxRecDepth 20000 in
theorem gX1_rewrite_X0_replace : GoodIn wsX1_rewrite (wsV RX1 106 RX0 yX0_replace wsX0_replace) := goodIn_app (goodIn_of _ (by decide +kernel)) ggX1_rewrite_X0_replace
set_option maxRecDepth 20000 in
theorem ggX1_remove_X1_placeToChange : GoodIn wsX1_remove wsX1_placeToChange := goodIn_r _ [6, 7, 33, 34, 35, 36, 37, 38, 39, 40, 41] (by decide +kernel) (by decide +kernel)
set_option maxRecDepth 20000 in
theorem gX1_remove_X1_placeToChange : GoodIn wsX1_remove (wsV RX1 100 RX1 yX1_placeToChange wsX1_placeToChange) := goodIn_app (goodIn_of _ (by decide +kernel)) ggX1_remove_X1_placeToChange
set_option maxRecDepth 20000 in
theorem ggX1_remove_X1_statusOfChange : GoodIn wsX1_remove wsX1_statusOfChange := goodIn_r _ [11, 12, 7, 1, 13, 14, 15, 16, 17, 18, 19, 20, 21, 22, 23, 24, 25, 26, 27, 33, 34, 35, 36, 37, 38, 39, 40, 41, 42, 43, 44] (by decide +kernel) (by decide +kernel)
set_option maxRecDepth 20000 in
theorem gX1_remove_X1_statusOfChange : GoodIn wsX1_remove (wsV RX1 103 RX1 yX1_statusOfChange wsX1_statusOfChange) := goodIn_app (goodIn_of _ (by decide +kernel)) ggX1_remove_X1_statusOfChange
set_option maxRecDepth 20000 in
theorem ggX1_remove_X0_drop : GoodIn wsX1_remove wsX0_drop := goodIn_r _ [31, 22, 23, 32, 18, 19, 20, 16, 21, 24, 25, 26, 27, 42, 43, 44] (by decide +kernel) (by decide +kernel)
set_option maxRecDepth 20000 in
theorem gX1_remove_X0_drop : GoodIn wsX1_remove (wsV RX1 110 RX0 yX0_drop wsX0_drop) := goodIn_app (goodIn_of _ (by decide +kernel)) ggX1_remove_X0_drop
set_option maxRecDepth 20000 in
theorem ggX1_cell_X1_isPlace : GoodIn wsX1_cell wsX1_isPlace := goodIn_r _ [9, 10, 33, 34, 35, 36, 37, 38, 39, 40, 41] (by decide +kernel) (by decide +kernel)
set_option maxRecDepth 20000 in
theorem gX1_cell_X1_isPlace : GoodIn wsX1_cell (wsV RX1 66 RX1 yX1_isPlace wsX1_isPlace) := goodIn_app (goodIn_of _ (by decide +kernel)) ggX1_cell_X1_isPlace
set_option maxRecDepth 20000 in
theorem ggX1_cell_X0_recordOf : GoodIn wsX1_cell wsX0_recordOf := goodIn_r _ [15, 16, 17, 18, 19, 14, 20, 21, 22, 23, 24, 25, 26, 42, 43, 44] (by decide +kernel) (by decide +kernel)
set_option maxRecDepth 20000 in
theorem gX1_cell_X0_recordOf : GoodIn wsX1_cell (wsV RX1 120 RX0 yX0_recordOf wsX0_recordOf) := goodIn_app (goodIn_of _ (by decide +kernel)) ggX1_cell_X0_recordOf
set_option maxRecDepth 20000 in
theorem ggX1_records_X0_size : GoodIn wsX1_records wsX0_size := goodIn_r _ [6, 7, 17, 18, 19] (by decide +kernel) (by decide +kernel)
set_option maxRecDepth 20000 in
theorem gX1_records_X0_size : GoodIn wsX1_records (wsV RX1 124 RX0 yX0_size wsX0_size) := goodIn_app (goodIn_of _ (by decide +kernel)) ggX1_records_X0_size
set_option maxRecDepth 20000 in
theorem ggX1_count_X0_greatest : GoodIn wsX1_count wsX0_greatest := goodIn_r _ [9, 10, 11, 12, 13, 8, 14, 15, 29, 30, 31] (by decide +kernel) (by decide +kernel)
set_option maxRecDepth 20000 in
theorem gX1_count_X0_greatest : GoodIn wsX1_count (wsV RX1 127 RX0 yX0_greatest wsX0_greatest) := goodIn_app (goodIn_of _ (by decide +kernel)) ggX1_count_X0_greatest
set_option maxRecDepth 20000 in
theorem ggX1_count_X0_least : GoodIn wsX1_count wsX0_least := goodIn_r _ [19, 11, 12, 13, 8, 14, 10, 15, 29, 30, 31] (by decide +kernel) (by decide +kernel)
set_option maxRecDepth 20000 in
theorem gX1_count_X0_least : GoodIn wsX1_count (wsV RX1 130 RX0 yX0_least wsX0_least) := goodIn_app (goodIn_of _ (by decide +kernel)) ggX1_count_X0_least
set_option maxRecDepth 20000 in
theorem ggX1_openFile_X1_stand : GoodIn wsX1_openFile wsX1_stand := goodIn_r _ [8, 9, 10, 11, 18, 19, 20, 21, 22, 23, 24, 25, 26] (by decide +kernel) (by decide +kernel)
set_option maxRecDepth 20000 in
theorem gX1_openFile_X1_stand : GoodIn wsX1_openFile (wsV RX1 92 RX1 yX1_stand wsX1_stand) := goodIn_app (goodIn_of _ (by decide +kernel)) ggX1_openFile_X1_stand
set_option maxRecDepth 20000 in
theorem ggX1_openFile_X0_clear : GoodIn wsX1_openFile wsX0_clear := goodIn_r _ [16, 17, 27, 28, 29] (by decide +kernel) (by decide +kernel)
set_option maxRecDepth 20000 in
theorem gX1_openFile_X0_clear : GoodIn wsX1_openFile (wsV RX1 133 RX0 yX0_clear wsX0_clear) := goodIn_app (goodIn_of _ (by decide +kernel)) ggX1_openFile_X0_clear
set_option maxRecDepth 20000 in
theorem ggX1_closeFile_X1_stand : GoodIn wsX1_closeFile wsX1_stand := goodIn_r _ [6, 7, 8, 9, 10, 11, 12, 13, 14, 15, 16, 17, 18] (by decide +kernel) (by decide +kernel)
set_option maxRecDepth 20000 in
theorem gX1_closeFile_X1_stand : GoodIn wsX1_closeFile (wsV RX1 92 RX1 yX1_stand wsX1_stand) := goodIn_app (goodIn_of _ (by decide +kernel)) ggX1_closeFile_X1_stand
set_option maxRecDepth 20000 in
theorem ggX1_statusOfChange_X0_has : GoodIn wsX1_statusOfChange wsX0_has := goodIn_r _ [8, 9, 10, 11, 7, 12, 13, 14, 15, 16, 17, 18, 28, 29, 30] (by decide +kernel) (by decide +kernel)
set_option maxRecDepth 20000 in
theorem gX1_statusOfChange_X0_has : GoodIn wsX1_statusOfChange (wsV RX1 73 RX0 yX0_has wsX0_has) := goodIn_app (goodIn_of _ (by decide +kernel)) ggX1_statusOfChange_X0_has
set_option maxRecDepth 20000 in
theorem ggX1_placeInOrder_X0_greatest : GoodIn wsX1_placeInOrder wsX0_greatest := goodIn_r _ [7, 8, 9, 10, 11, 6, 12, 13, 23, 24, 25] (by decide +kernel) (by decide +kernel)
set_option maxRecDepth 20000 in
theorem gX1_placeInOrder_X0_greatest : GoodIn wsX1_placeInOrder (wsV RX1 127 RX0 yX0_greatest wsX0_greatest) := goodIn_app (goodIn_of _ (by decide +kernel)) ggX1_placeInOrder_X0_greatest
set_option maxRecDepth 20000 in
theorem ggX1_placeToStart_X0_has : GoodIn wsX1_placeToStart wsX0_has := goodIn_r _ [6, 7, 8, 9, 5, 10, 11, 12, 13, 14, 15, 16, 38, 39, 40] (by decide +kernel) (by decide +kernel)
set_option maxRecDepth 20000 in
theorem gX1_placeToStart_X0_has : GoodIn wsX1_placeToStart (wsV RX1 73 RX0 yX0_has wsX0_has) := goodIn_app (goodIn_of _ (by decide +kernel)) ggX1_placeToStart_X0_has
set_option maxRecDepth 20000 in
theorem ggX1_placeToStart_X0_firstAbove : GoodIn wsX1_placeToStart wsX0_firstAbove := goodIn_r _ [20, 7, 8, 9, 5, 10, 11, 12, 13, 14, 15, 16, 21, 22, 23, 24, 38, 39, 40] (by decide +kernel) (by decide +kernel)
set_option maxRecDepth 20000 in
theorem gX1_placeToStart_X0_firstAbove : GoodIn wsX1_placeToStart (wsV RX1 136 RX0 yX0_firstAbove wsX0_firstAbove) := goodIn_app (goodIn_of _ (by decide +kernel)) ggX1_placeToStart_X0_firstAbove
set_option maxRecDepth 20000 in
theorem ggX1_placeToStart_X0_lastBelow : GoodIn wsX1_placeToStart wsX0_lastBelow := goodIn_r _ [28, 7, 8, 9, 5, 10, 11, 12, 21, 22, 23, 24, 38, 39, 40] (by decide +kernel) (by decide +kernel)
set_option maxRecDepth 20000 in
theorem gX1_placeToStart_X0_lastBelow : GoodIn wsX1_placeToStart (wsV RX1 139 RX0 yX0_lastBelow wsX0_lastBelow) := goodIn_app (goodIn_of _ (by decide +kernel)) ggX1_placeToStart_X0_lastBelow
set_option maxRecDepth 20000 in
theorem ggX1_placeFromPosition_X0_has : GoodIn wsX1_placeFromPosition wsX0_has := goodIn_r _ [8, 9, 10, 11, 7, 12, 13, 14, 15, 16, 17, 18, 40, 41, 42] (by decide +kernel) (by decide +kernel)
set_option maxRecDepth 20000 in
theorem gX1_placeFromPosition_X0_has : GoodIn wsX1_placeFromPosition (wsV RX1 73 RX0 yX0_has wsX0_has) := goodIn_app (goodIn_of _ (by decide +kernel)) ggX1_placeFromPosition_X0_has
set_option maxRecDepth 20000 in
theorem ggX1_placeFromPosition_X0_lastBelow : GoodIn wsX1_placeFromPosition wsX0_lastBelow := goodIn_r _ [22, 9, 10, 11, 7, 12, 13, 14, 23, 24, 25, 26, 40, 41, 42] (by decide +kernel) (by decide +kernel)
set_option maxRecDepth 20000 in
theorem gX1_placeFromPosition_X0_lastBelow : GoodIn wsX1_placeFromPosition (wsV RX1 139 RX0 yX0_lastBelow wsX0_lastBelow) := goodIn_app (goodIn_of _ (by decide +kernel)) ggX1_placeFromPosition_X0_lastBelow
set_option maxRecDepth 20000 in
theorem ggX1_placeFromPosition_X0_firstAbove : GoodIn wsX1_placeFromPosition wsX0_firstAbove := goodIn_r _ [30, 9, 10, 11, 7, 12, 13, 14, 15, 16, 17, 18, 23, 24, 25, 26, 40, 41, 42] (by decide +kernel) (by decide +kernel)
set_option maxRecDepth 20000 in
theorem gX1_placeFromPosition_X0_firstAbove : GoodIn wsX1_placeFromPosition (wsV RX1 136 RX0 yX0_firstAbove wsX0_firstAbove) := goodIn_app (goodIn_of _ (by decide +kernel)) ggX1_placeFromPosition_X0_firstAbove
set_option maxRecDepth 20000 in
theorem ggX1_take_X1_stand : GoodIn wsX1_take wsX1_stand := goodIn_r _ [8, 9, 10, 1, 27, 28, 29, 30, 31, 32, 33, 34, 35] (by decide +kernel) (by decide +kernel)
set_option maxRecDepth 20000 in
theorem gX1_take_X1_stand : GoodIn wsX1_take (wsV RX1 92 RX1 yX1_stand wsX1_stand) := goodIn_app (goodIn_of _ (by decide +kernel)) ggX1_take_X1_stand
set_option maxRecDepth 20000 in
theorem ggX1_take_X0_recordOf : GoodIn wsX1_take wsX0_recordOf := goodIn_r _ [15, 16, 17, 18, 19, 14, 20, 21, 22, 23, 24, 25, 26, 36, 37, 38] (by decide +kernel) (by decide +kernel)
set_option maxRecDepth 20000 in
theorem gX1_take_X0_recordOf : GoodIn wsX1_take (wsV RX1 120 RX0 yX0_recordOf wsX0_recordOf) := goodIn_app (goodIn_of _ (by decide +kernel)) ggX1_take_X0_recordOf
set_option maxRecDepth 20000 in
theorem ggX1_losePosition_X1_stand : GoodIn wsX1_losePosition wsX1_stand := goodIn_r _ [5, 6, 7, 8, 9, 10, 11, 12, 13, 14, 15, 16, 17] (by decide +kernel) (by decide +kernel)
set_option maxRecDepth 20000 in
theorem gX1_losePosition_X1_stand : GoodIn wsX1_losePosition (wsV RX1 92 RX1 yX1_stand wsX1_stand) := goodIn_app (goodIn_of _ (by decide +kernel)) ggX1_losePosition_X1_stand
set_option maxRecDepth 20000 in
theorem ggX2_write_X2_upTo : GoodIn wsX2_write wsX2_upTo := goodIn_r _ [9, 10, 11, 32, 33, 34, 35, 36, 37, 38, 39, 40, 41, 42, 43, 44] (by decide +kernel) (by decide +kernel)
set_option maxRecDepth 20000 in
theorem gX2_write_X2_upTo : GoodIn wsX2_write (wsV RX2 53 RX2 yX2_upTo wsX2_upTo) := goodIn_app (goodIn_of _ (by decide +kernel)) ggX2_write_X2_upTo
set_option maxRecDepth 20000 in
theorem ggX2_write_X2_isPlace : GoodIn wsX2_write wsX2_isPlace := goodIn_r _ [15, 4, 32, 33, 34, 35, 36, 37, 38, 39, 40, 41, 42, 43, 44] (by decide +kernel) (by decide +kernel)
set_option maxRecDepth 20000 in
theorem gX2_write_X2_isPlace : GoodIn wsX2_write (wsV RX2 57 RX2 yX2_isPlace wsX2_isPlace) := goodIn_app (goodIn_of _ (by decide +kernel)) ggX2_write_X2_isPlace
set_option maxRecDepth 20000 in
theorem ggX2_write_X2_isLong : GoodIn wsX2_write wsX2_isLong := goodIn_r _ [19, 20, 21, 32, 33, 34, 35, 36, 37, 38, 39, 40, 41, 42, 43, 44] (by decide +kernel) (by decide +kernel)
set_option maxRecDepth 20000 in
theorem gX2_write_X2_isLong : GoodIn wsX2_write (wsV RX2 61 RX2 yX2_isLong wsX2_isLong) := goodIn_app (goodIn_of _ (by decide +kernel)) ggX2_write_X2_isLong
set_option maxRecDepth 20000 in
theorem ggX2_write_X2_find : GoodIn wsX2_write wsX2_find := goodIn_r _ [25, 10, 11, 32, 33, 34, 35, 36, 37, 38, 39, 40, 41, 42, 43, 44] (by decide +kernel) (by decide +kernel)
set_option maxRecDepth 20000 in
theorem gX2_write_X2_find : GoodIn wsX2_write (wsV RX2 64 RX2 yX2_find wsX2_find) := goodIn_app (goodIn_of _ (by decide +kernel)) ggX2_write_X2_find
set_option maxRecDepth 20000 in
theorem ggX2_write_X2_add : GoodIn wsX2_write wsX2_add := goodIn_r _ [29, 11, 10, 30, 31, 32, 33, 34, 35, 36, 37, 38, 39, 40, 41, 42, 43, 44] (by decide +kernel) (by decide +kernel)
set_option maxRecDepth 20000 in
theorem gX2_write_X2_add : GoodIn wsX2_write (wsV RX2 68 RX2 yX2_add wsX2_add) := goodIn_app (goodIn_of _ (by decide +kernel)) ggX2_write_X2_add
set_option maxRecDepth 20000 in
theorem ggX2_take_X2_find : GoodIn wsX2_take wsX2_find := goodIn_r _ [10, 11, 12, 13, 14, 15, 16, 17, 18, 19, 20, 21, 22, 23, 24, 25] (by decide +kernel) (by decide +kernel)
set_option maxRecDepth 20000 in
theorem gX2_take_X2_find : GoodIn wsX2_take (wsV RX2 64 RX2 yX2_find wsX2_find) := goodIn_app (goodIn_of _ (by decide +kernel)) ggX2_take_X2_find
set_option maxRecDepth 20000 in
theorem ggX2_read_X2_reads : GoodIn wsX2_read wsX2_reads := goodIn_r _ [10, 2, 24, 25, 26, 27, 28, 29, 30, 31, 32, 33, 34, 35, 36] (by decide +kernel) (by decide +kernel)
set_option maxRecDepth 20000 in
theorem gX2_read_X2_reads : GoodIn wsX2_read (wsV RX2 75 RX2 yX2_reads wsX2_reads) := goodIn_app (goodIn_of _ (by decide +kernel)) ggX2_read_X2_reads
set_option maxRecDepth 20000 in
theorem ggX2_read_X2_find : GoodIn wsX2_read wsX2_find := goodIn_r _ [14, 15, 16, 24, 25, 26, 27, 28, 29, 30, 31, 32, 33, 34, 35, 36] (by decide +kernel) (by decide +kernel)
set_option maxRecDepth 20000 in
theorem gX2_read_X2_find : GoodIn wsX2_read (wsV RX2 64 RX2 yX2_find wsX2_find) := goodIn_app (goodIn_of _ (by decide +kernel)) ggX2_read_X2_find
set_option maxRecDepth 20000 in
theorem ggX2_read_X2_take : GoodIn wsX2_read wsX2_take := goodIn_r _ [20, 5, 21, 3, 22, 23, 11, 12, 13, 9, 14, 15, 16, 24, 25, 26, 27, 28, 29, 30, 31, 32, 33, 34, 35, 36] (by decide +kernel) (by decide +kernel)
set_option maxRecDepth 20000 in
theorem gX2_read_X2_take : GoodIn wsX2_read (wsV RX2 79 RX2 yX2_take wsX2_take) := goodIn_app (goodIn_of _ (by decide +kernel)) ggX2_read_X2_take
set_option maxRecDepth 20000 in
theorem ggX2_start_X2_reads : GoodIn wsX2_start wsX2_reads := goodIn_r _ [11, 2, 26, 27, 28, 29, 30, 31, 32, 33, 34, 35, 36, 37, 38] (by decide +kernel) (by decide +kernel)
set_option maxRecDepth 20000 in
theorem gX2_start_X2_reads : GoodIn wsX2_start (wsV RX2 75 RX2 yX2_reads wsX2_reads) := goodIn_app (goodIn_of _ (by decide +kernel)) ggX2_start_X2_reads
set_option maxRecDepth 20000 in
theorem ggX2_start_X2_find : GoodIn wsX2_start wsX2_find := goodIn_r _ [15, 16, 17, 26, 27, 28, 29, 30, 31, 32, 33, 34, 35, 36, 37, 38] (by decide +kernel) (by decide +kernel)
set_option maxRecDepth 20000 in
theorem gX2_start_X2_find : GoodIn wsX2_start (wsV RX2 64 RX2 yX2_find wsX2_find) := goodIn_app (goodIn_of _ (by decide +kernel)) ggX2_start_X2_find
set_option maxRecDepth 20000 in
theorem ggX2_start_X2_from : GoodIn wsX2_start wsX2_from := goodIn_r _ [21, 16, 17, 26, 27, 28, 29, 30, 31, 32, 33, 34, 35, 36, 37, 38] (by decide +kernel) (by decide +kernel)
set_option maxRecDepth 20000 in
theorem gX2_start_X2_from : GoodIn wsX2_start (wsV RX2 83 RX2 yX2_from wsX2_from) := goodIn_app (goodIn_of _ (by decide +kernel)) ggX2_start_X2_from
set_option maxRecDepth 20000 in
theorem ggX2_start_X2_upTo : GoodIn wsX2_start wsX2_upTo := goodIn_r _ [25, 16, 17, 26, 27, 28, 29, 30, 31, 32, 33, 34, 35, 36, 37, 38] (by decide +kernel) (by decide +kernel)
set_option maxRecDepth 20000 in
theorem gX2_start_X2_upTo : GoodIn wsX2_start (wsV RX2 53 RX2 yX2_upTo wsX2_upTo) := goodIn_app (goodIn_of _ (by decide +kernel)) ggX2_start_X2_upTo
set_option maxRecDepth 20000 in
theorem ggX2_next_X2_reads : GoodIn wsX2_next wsX2_reads := goodIn_r _ [11, 2, 38, 39, 40, 41, 42, 43, 44, 45, 46, 47, 48, 49, 50] (by decide +kernel) (by decide +kernel)
set_option maxRecDepth 20000 in
theorem gX2_next_X2_reads : GoodIn wsX2_next (wsV RX2 75 RX2 yX2_reads wsX2_reads) := goodIn_app (goodIn_of _ (by decide +kernel)) ggX2_next_X2_reads
set_option maxRecDepth 20000 in
theorem ggX2_next_X2_upTo : GoodIn wsX2_next wsX2_upTo := goodIn_r _ [15, 16, 17, 38, 39, 40, 41, 42, 43, 44, 45, 46, 47, 48, 49, 50] (by decide +kernel) (by decide +kernel)
set_option maxRecDepth 20000 in
theorem gX2_next_X2_upTo : GoodIn wsX2_next (wsV RX2 53 RX2 yX2_upTo wsX2_upTo) := goodIn_app (goodIn_of _ (by decide +kernel)) ggX2_next_X2_upTo
set_option maxRecDepth 20000 in
theorem ggX2_next_X2_from : GoodIn wsX2_next wsX2_from := goodIn_r _ [21, 16, 17, 38, 39, 40, 41, 42, 43, 44, 45, 46, 47, 48, 49, 50] (by decide +kernel) (by decide +kernel)
set_option maxRecDepth 20000 in
theorem gX2_next_X2_from : GoodIn wsX2_next (wsV RX2 83 RX2 yX2_from wsX2_from) := goodIn_app (goodIn_of _ (by decide +kernel)) ggX2_next_X2_from
set_option maxRecDepth 20000 in
theorem ggX2_next_X2_isLong : GoodIn wsX2_next wsX2_isLong := goodIn_r _ [25, 26, 27, 38, 39, 40, 41, 42, 43, 44, 45, 46, 47, 48, 49, 50] (by decide +kernel) (by decide +kernel)
set_option maxRecDepth 20000 in
theorem gX2_next_X2_isLong : GoodIn wsX2_next (wsV RX2 61 RX2 yX2_isLong wsX2_isLong) := goodIn_app (goodIn_of _ (by decide +kernel)) ggX2_next_X2_isLong
set_option maxRecDepth 20000 in
theorem ggX2_next_X2_take : GoodIn wsX2_next wsX2_take := goodIn_r _ [31, 4, 6, 3, 32, 33, 34, 35, 36, 10, 37, 16, 17, 38, 39, 40, 41, 42, 43, 44, 45, 46, 47, 48, 49, 50] (by decide +kernel) (by decide +kernel)
set_option maxRecDepth 20000 in
theorem gX2_next_X2_take : GoodIn wsX2_next (wsV RX2 79 RX2 yX2_take wsX2_take) := goodIn_app (goodIn_of _ (by decide +kernel)) ggX2_next_X2_take
set_option maxRecDepth 20000 in
theorem ggX2_meant_X2_find : GoodIn wsX2_meant wsX2_find := goodIn_r _ [6, 7, 8, 9, 10, 11, 12, 13, 14, 15, 16, 17, 18, 19, 20, 21] (by decide +kernel) (by decide +kernel)
set_option maxRecDepth 20000 in
theorem gX2_meant_X2_find : GoodIn wsX2_meant (wsV RX2 64 RX2 yX2_find wsX2_find) := goodIn_app (goodIn_of _ (by decide +kernel)) ggX2_meant_X2_find
set_option maxRecDepth 20000 in
theorem ggX2_rewrite_X2_meant : GoodIn wsX2_rewrite wsX2_meant := goodIn_r _ [10, 3, 11, 12, 13, 9, 14, 15, 16, 17, 18, 19, 20, 21, 22, 23, 24, 25, 26, 27, 28, 29] (by decide +kernel) (by decide +kernel)
set_option maxRecDepth 20000 in
theorem gX2_rewrite_X2_meant : GoodIn wsX2_rewrite (wsV RX2 86 RX2 yX2_meant wsX2_meant) := goodIn_app (goodIn_of _ (by decide +kernel)) ggX2_rewrite_X2_meant
set_option maxRecDepth 20000 in
theorem ggX2_remove_X2_meant : GoodIn wsX2_remove wsX2_meant := goodIn_r _ [11, 3, 12, 13, 14, 10, 15, 4, 5, 16, 17, 18, 19, 20, 21, 22, 23, 24, 25, 26, 27, 28] (by decide +kernel) (by decide +kernel)
set_option maxRecDepth 20000 in
theorem gX2_remove_X2_meant : GoodIn wsX2_remove (wsV RX2 86 RX2 yX2_meant wsX2_meant) := goodIn_app (goodIn_of _ (by decide +kernel)) ggX2_remove_X2_meant
set_option maxRecDepth 20000 in
theorem ggX2_cell_X2_isPlace : GoodIn wsX2_cell wsX2_isPlace := goodIn_r _ [7, 8, 15, 16, 17, 18, 19, 20, 21, 22, 23, 24, 25, 26, 27] (by decide +kernel) (by decide +kernel)
set_option maxRecDepth 20000 in
theorem gX2_cell_X2_isPlace : GoodIn wsX2_cell (wsV RX2 57 RX2 yX2_isPlace wsX2_isPlace) := goodIn_app (goodIn_of _ (by decide +kernel)) ggX2_cell_X2_isPlace
set_option maxRecDepth 20000 in
theorem ggX2_cell_X2_find : GoodIn wsX2_cell wsX2_find := goodIn_r _ [12, 13, 14, 15, 16, 17, 18, 19, 20, 21, 22, 23, 24, 25, 26, 27] (by decide +kernel) (by decide +kernel)
set_option maxRecDepth 20000 in
theorem gX2_cell_X2_find : GoodIn wsX2_cell (wsV RX2 64 RX2 yX2_find wsX2_find) := goodIn_app (goodIn_of _ (by decide +kernel)) ggX2_cell_X2_find
set_option maxRecDepth 20000 in
theorem ggX2_count_X2_upTo : GoodIn wsX2_count wsX2_upTo := goodIn_r _ [9, 10, 11, 16, 17, 18, 19, 20, 21, 22, 23, 24, 25, 26, 27, 28] (by decide +kernel) (by decide +kernel)
set_option maxRecDepth 20000 in
theorem gX2_count_X2_upTo : GoodIn wsX2_count (wsV RX2 53 RX2 yX2_upTo wsX2_upTo) := goodIn_app (goodIn_of _ (by decide +kernel)) ggX2_count_X2_upTo
set_option maxRecDepth 20000 in
theorem ggX2_count_X2_from : GoodIn wsX2_count wsX2_from := goodIn_r _ [15, 10, 11, 16, 17, 18, 19, 20, 21, 22, 23, 24, 25, 26, 27, 28] (by decide +kernel) (by decide +kernel)
set_option maxRecDepth 20000 in
theorem gX2_count_X2_from : GoodIn wsX2_count (wsV RX2 83 RX2 yX2_from wsX2_from) := goodIn_app (goodIn_of _ (by decide +kernel)) ggX2_count_X2_from
set_option maxRecDepth 20000 in
theorem ggL_cell__X1_cell : GoodIn wsL_cell_ wsX1_cell := goodIn_r _ [5, 6, 7, 8, 9, 10, 11, 12, 4, 13, 14, 15, 16, 17, 18, 19, 20, 21, 22, 23, 24, 25, 26, 27, 28, 29, 30, 31, 32, 33, 34, 35, 36, 37, 38, 39, 40, 41, 42, 43, 44, 45, 46, 47, 48] (by decide +kernel) (by decide +kernel)
set_option maxRecDepth 20000 in
theorem gL_cell__X1_cell : GoodIn wsL_cell_ (wsV RL 7 RX1 yX1_cell wsX1_cell) := goodIn_app (goodIn_of _ (by decide +kernel)) ggL_cell__X1_cell
set_option maxRecDepth 20000 in
theorem ggL_law_L_cell : GoodIn wsL_law wsL_cell := goodIn_r _ [11] (by decide +kernel) (by decide +kernel)
set_option maxRecDepth 20000 in
theorem gL_law_L_cell : GoodIn wsL_law (va_wsS RL 15 yL_cell wsL_cell) := goodIn_app (goodIn_of _ (by decide +kernel)) ggL_law_L_cell
set_option maxRecDepth 20000 in
theorem ggL_law_X1_init : GoodIn wsL_law wsX1_init := goodIn_r _ [14, 15, 16, 17, 18, 19, 20, 21, 22, 23, 24, 25, 26, 27, 28, 29, 30, 31, 32, 33, 34, 35, 36, 37, 38, 39, 40, 41, 42, 43, 44, 6, 45, 46, 324, 325, 326, 327, 328, 329, 330, 331, 332, 346, 347, 348] (by decide +kernel) (by decide +kernel)
set_option maxRecDepth 20000 in
theorem gL_law_X1_init : GoodIn wsL_law (wsX1_init) := ggL_law_X1_init
set_option maxRecDepth 20000 in
theorem ggL_law_X2_init : GoodIn wsL_law wsX2_init := goodIn_r _ [49, 50, 16, 17, 43, 51, 6, 52, 53, 54, 55, 56, 333, 334, 335, 336, 337, 338, 339, 340, 341, 342, 343, 344, 345] (by decide +kernel) (by decide +kernel)
set_option maxRecDepth 20000 in
theorem gL_law_X2_init : GoodIn wsL_law (wsX2_init) := ggL_law_X2_init
set_option maxRecDepth 20000 in
theorem ggL_law_X1_open : GoodIn wsL_law wsX1_open := goodIn_r _ [60, 61, 62, 63, 2, 64, 32, 65, 66, 67, 68, 33, 34, 35, 69, 70, 71, 72, 31, 30, 73, 74, 75, 29, 76, 46, 324, 325, 326, 327, 328, 329, 330, 331, 332, 346, 347, 348] (by decide +kernel) (by decide +kernel)
set_option maxRecDepth 20000 in
theorem gL_law_X1_open : GoodIn wsL_law (wsV RL 26 RX1 yX1_open wsX1_open) := goodIn_app (goodIn_of _ (by decide +kernel)) ggL_law_X1_open
set_option maxRecDepth 20000 in
theorem ggL_law_X2_open : GoodIn wsL_law wsX2_open := goodIn_r _ [80, 81, 53, 82, 83, 84, 85, 86, 333, 334, 335, 336, 337, 338, 339, 340, 341, 342, 343, 344, 345] (by decide +kernel) (by decide +kernel)
set_option maxRecDepth 20000 in
theorem gL_law_X2_open : GoodIn wsL_law (wsV RL 30 RX2 yX2_open wsX2_open) := goodIn_app (goodIn_of _ (by decide +kernel)) ggL_law_X2_open
set_option maxRecDepth 20000 in
theorem ggL_law_X1_write : GoodIn wsL_law wsX1_write := goodIn_r _ [90, 32, 35, 30, 36, 91, 92, 93, 2, 94, 95, 96, 97, 29, 98, 46, 99, 100, 101, 102, 44, 103, 104, 105, 106, 26, 107, 108, 109, 110, 37, 111, 112, 113, 114, 115, 116, 117, 118, 119, 120, 121, 122, 123, 124, 125, 126, 45, 324, 325, 326, 327, 328, 329, 330, 331, 332, 346, 347, 348] (by decide +kernel) (by decide +kernel)
set_option maxRecDepth 20000 in
theorem gL_law_X1_write : GoodIn wsL_law (wsV RL 33 RX1 yX1_write wsX1_write) := goodIn_app (goodIn_of _ (by decide +kernel)) ggL_law_X1_write
set_option maxRecDepth 20000 in
theorem ggL_law_X2_write : GoodIn wsL_law wsX2_write := goodIn_r _ [130, 81, 53, 82, 56, 131, 132, 133, 5, 134, 84, 51, 135, 136, 137, 138, 139, 140, 141, 142, 54, 143, 144, 145, 146, 147, 148, 149, 150, 151, 52, 152, 333, 334, 335, 336, 337, 338, 339, 340, 341, 342, 343, 344, 345] (by decide +kernel) (by decide +kernel)
set_option maxRecDepth 20000 in
theorem gL_law_X2_write : GoodIn wsL_law (wsV RL 37 RX2 yX2_write wsX2_write) := goodIn_app (goodIn_of _ (by decide +kernel)) ggL_law_X2_write
set_option maxRecDepth 20000 in
theorem ggL_law_X1_read : GoodIn wsL_law wsX1_read := goodIn_r _ [156, 30, 157, 158, 159, 2, 160, 32, 111, 112, 113, 29, 114, 115, 116, 117, 118, 46, 44, 119, 120, 121, 122, 161, 162, 163, 164, 65, 66, 67, 68, 33, 34, 35, 165, 166, 167, 168, 36, 169, 170, 171, 172, 45, 324, 325, 326, 327, 328, 329, 330, 331, 332, 346, 347, 348] (by decide +kernel) (by decide +kernel)
set_option maxRecDepth 20000 in
theorem gL_law_X1_read : GoodIn wsL_law (wsV RL 38 RX1 yX1_read wsX1_read) := goodIn_app (goodIn_of _ (by decide +kernel)) ggL_law_X1_read
set_option maxRecDepth 20000 in
theorem ggL_law_X2_read : GoodIn wsL_law wsX2_read := goodIn_r _ [176, 81, 53, 82, 86, 85, 177, 178, 179, 5, 180, 144, 145, 146, 147, 84, 51, 181, 182, 183, 184, 185, 52, 152, 333, 334, 335, 336, 337, 338, 339, 340, 341, 342, 343, 344, 345] (by decide +kernel) (by decide +kernel)
set_option maxRecDepth 20000 in
theorem gL_law_X2_read : GoodIn wsL_law (wsV RL 41 RX2 yX2_read wsX2_read) := goodIn_app (goodIn_of _ (by decide +kernel)) ggL_law_X2_read
set_option maxRecDepth 20000 in
theorem ggL_law_X1_value : GoodIn wsL_law wsX1_value := goodIn_r _ [189, 36, 324, 325, 326, 327, 328, 329, 330, 331, 332] (by decide +kernel) (by decide +kernel)
set_option maxRecDepth 20000 in
theorem gL_law_X1_value : GoodIn wsL_law (wsV RL 42 RX1 yX1_value wsX1_value) := goodIn_app (goodIn_of _ (by decide +kernel)) ggL_law_X1_value
set_option maxRecDepth 20000 in
theorem ggL_law_X2_value : GoodIn wsL_law wsX2_value := goodIn_r _ [193, 81, 152, 333, 334, 335, 336, 337, 338, 339, 340, 341, 342, 343, 344, 345] (by decide +kernel) (by decide +kernel)
set_option maxRecDepth 20000 in
theorem gL_law_X2_value : GoodIn wsL_law (wsV RL 46 RX2 yX2_value wsX2_value) := goodIn_app (goodIn_of _ (by decide +kernel)) ggL_law_X2_value
set_option maxRecDepth 20000 in
theorem ggL_law_X1_start : GoodIn wsL_law wsX1_start := goodIn_r _ [197, 157, 158, 159, 2, 160, 32, 198, 199, 200, 201, 30, 111, 112, 113, 29, 114, 115, 116, 117, 118, 46, 44, 119, 120, 121, 122, 202, 203, 204, 205, 99, 100, 101, 102, 206, 207, 208, 209, 161, 162, 163, 164, 65, 66, 67, 68, 33, 34, 35, 324, 325, 326, 327, 328, 329, 330, 331, 332, 346, 347, 348] (by decide +kernel) (by decide +kernel)
set_option maxRecDepth 20000 in
theorem gL_law_X1_start : GoodIn wsL_law (wsV RL 47 RX1 yX1_start wsX1_start) := goodIn_app (goodIn_of _ (by decide +kernel)) ggL_law_X1_start
set_option maxRecDepth 20000 in
theorem ggL_law_X2_start : GoodIn wsL_law wsX2_start := goodIn_r _ [213, 81, 53, 82, 86, 85, 185, 177, 178, 179, 5, 180, 144, 145, 146, 147, 84, 51, 214, 215, 216, 217, 131, 132, 133, 134, 333, 334, 335, 336, 337, 338, 339, 340, 341, 342, 343, 344, 345] (by decide +kernel) (by decide +kernel)
set_option maxRecDepth 20000 in
theorem gL_law_X2_start : GoodIn wsL_law (wsV RL 51 RX2 yX2_start wsX2_start) := goodIn_app (goodIn_of _ (by decide +kernel)) ggL_law_X2_start
set_option maxRecDepth 20000 in
theorem ggL_law_X1_next : GoodIn wsL_law wsX1_next := goodIn_r _ [221, 33, 35, 157, 158, 159, 2, 160, 32, 222, 223, 224, 225, 30, 34, 111, 112, 113, 29, 114, 115, 116, 117, 118, 46, 44, 119, 120, 121, 122, 206, 207, 208, 209, 99, 100, 101, 102, 202, 203, 204, 205, 161, 162, 163, 164, 65, 66, 67, 68, 107, 108, 109, 110, 37, 165, 166, 167, 168, 36, 169, 170, 171, 172, 45, 324, 325, 326, 327, 328, 329, 330, 331, 332, 346, 347, 348] (by decide +kernel) (by decide +kernel)
set_option maxRecDepth 20000 in
theorem gL_law_X1_next : GoodIn wsL_law (wsV RL 52 RX1 yX1_next wsX1_next) := goodIn_app (goodIn_of _ (by decide +kernel)) ggL_law_X1_next
set_option maxRecDepth 20000 in
theorem ggL_law_X2_next : GoodIn wsL_law wsX2_next := goodIn_r _ [229, 81, 53, 82, 85, 86, 185, 177, 178, 179, 5, 180, 131, 132, 133, 134, 84, 51, 214, 215, 216, 217, 139, 140, 141, 142, 54, 143, 181, 182, 183, 184, 52, 152, 144, 145, 146, 147, 333, 334, 335, 336, 337, 338, 339, 340, 341, 342, 343, 344, 345] (by decide +kernel) (by decide +kernel)
set_option maxRecDepth 20000 in
theorem gL_law_X2_next : GoodIn wsL_law (wsV RL 56 RX2 yX2_next wsX2_next) := goodIn_app (goodIn_of _ (by decide +kernel)) ggL_law_X2_next
set_option maxRecDepth 20000 in
theorem ggL_law_X1_rewrite : GoodIn wsL_law wsX1_rewrite := goodIn_r _ [233, 30, 36, 234, 235, 236, 2, 237, 35, 238, 239, 240, 241, 32, 111, 112, 113, 29, 114, 115, 116, 117, 118, 46, 44, 119, 120, 121, 122, 242, 243, 244, 245, 45, 324, 325, 326, 327, 328, 329, 330, 331, 332, 346, 347, 348] (by decide +kernel) (by decide +kernel)
set_option maxRecDepth 20000 in
theorem gL_law_X1_rewrite : GoodIn wsL_law (wsV RL 57 RX1 yX1_rewrite wsX1_rewrite) := goodIn_app (goodIn_of _ (by decide +kernel)) ggL_law_X1_rewrite
set_option maxRecDepth 20000 in
theorem ggL_law_X2_rewrite : GoodIn wsL_law wsX2_rewrite := goodIn_r _ [249, 81, 53, 82, 52, 152, 250, 251, 252, 5, 253, 144, 145, 146, 147, 84, 51, 333, 334, 335, 336, 337, 338, 339, 340, 341, 342, 343, 344, 345] (by decide +kernel) (by decide +kernel)
set_option maxRecDepth 20000 in
theorem gL_law_X2_rewrite : GoodIn wsL_law (wsV RL 60 RX2 yX2_rewrite wsX2_rewrite) := goodIn_app (goodIn_of _ (by decide +kernel)) ggL_law_X2_rewrite
set_option maxRecDepth 20000 in
theorem ggL_law_X1_remove : GoodIn wsL_law wsX1_remove := goodIn_r _ [257, 30, 234, 235, 236, 2, 237, 35, 238, 239, 240, 241, 32, 111, 112, 113, 29, 114, 115, 116, 117, 118, 46, 44, 119, 120, 121, 122, 258, 259, 260, 261, 45, 324, 325, 326, 327, 328, 329, 330, 331, 332, 346, 347, 348] (by decide +kernel) (by decide +kernel)
set_option maxRecDepth 20000 in
theorem gL_law_X1_remove : GoodIn wsL_law (wsV RL 61 RX1 yX1_remove wsX1_remove) := goodIn_app (goodIn_of _ (by decide +kernel)) ggL_law_X1_remove
set_option maxRecDepth 20000 in
theorem ggL_law_X2_remove : GoodIn wsL_law wsX2_remove := goodIn_r _ [265, 81, 53, 82, 84, 51, 52, 250, 251, 252, 5, 253, 144, 145, 146, 147, 333, 334, 335, 336, 337, 338, 339, 340, 341, 342, 343, 344, 345] (by decide +kernel) (by decide +kernel)
set_option maxRecDepth 20000 in
theorem gL_law_X2_remove : GoodIn wsL_law (wsV RL 64 RX2 yX2_remove wsX2_remove) := goodIn_app (goodIn_of _ (by decide +kernel)) ggL_law_X2_remove
set_option maxRecDepth 20000 in
theorem ggL_law_X1_number : GoodIn wsL_law wsX1_number := goodIn_r _ [269, 35, 324, 325, 326, 327, 328, 329, 330, 331, 332] (by decide +kernel) (by decide +kernel)
set_option maxRecDepth 20000 in
theorem gL_law_X1_number : GoodIn wsL_law (wsV RL 65 RX1 yX1_number wsX1_number) := goodIn_app (goodIn_of _ (by decide +kernel)) ggL_law_X1_number
set_option maxRecDepth 20000 in
theorem ggL_law_X2_number : GoodIn wsL_law wsX2_number := goodIn_r _ [273, 81, 82, 333, 334, 335, 336, 337, 338, 339, 340, 341, 342, 343, 344, 345] (by decide +kernel) (by decide +kernel)
set_option maxRecDepth 20000 in
theorem gL_law_X2_number : GoodIn wsL_law (wsV RL 69 RX2 yX2_number wsX2_number) := goodIn_app (goodIn_of _ (by decide +kernel)) ggL_law_X2_number
set_option maxRecDepth 20000 in
theorem ggL_law_L_cell_ : GoodIn wsL_law wsL_cell_ := goodIn_r _ [276, 277, 278, 279, 2, 280, 281, 282, 283, 30, 103, 104, 105, 106, 26, 169, 170, 171, 29, 172, 45, 115, 116, 117, 118, 46, 44, 119, 120, 121, 122, 349, 350, 351, 352, 353, 354, 324, 325, 326, 327, 328, 329, 330, 331, 332, 346, 347, 348] (by decide +kernel) (by decide +kernel)
set_option maxRecDepth 20000 in
theorem gL_law_L_cell_ : GoodIn wsL_law (va_wsS RL 70 yL_cell_ wsL_cell_) := goodIn_app (goodIn_of _ (by decide +kernel)) ggL_law_L_cell_
set_option maxRecDepth 20000 in
theorem ggL_law_X2_cell : GoodIn wsL_law wsX2_cell := goodIn_r _ [287, 81, 52, 135, 136, 137, 5, 138, 56, 144, 145, 146, 147, 84, 51, 333, 334, 335, 336, 337, 338, 339, 340, 341, 342, 343, 344, 345] (by decide +kernel) (by decide +kernel)
set_option maxRecDepth 20000 in
theorem gL_law_X2_cell : GoodIn wsL_law (wsV RL 73 RX2 yX2_cell wsX2_cell) := goodIn_app (goodIn_of _ (by decide +kernel)) ggL_law_X2_cell
set_option maxRecDepth 20000 in
theorem ggL_law_X2_thrown : GoodIn wsL_law wsX2_thrown := goodIn_r _ [291, 81, 333, 334, 335, 336, 337, 338, 339, 340, 341, 342, 343, 344, 345] (by decide +kernel) (by decide +kernel)
set_option maxRecDepth 20000 in
theorem gL_law_X2_thrown : GoodIn wsL_law (wsV RL 74 RX2 yX2_thrown wsX2_thrown) := goodIn_app (goodIn_of _ (by decide +kernel)) ggL_law_X2_thrown
set_option maxRecDepth 20000 in
theorem ggL_law_X1_records : GoodIn wsL_law wsX1_records := goodIn_r _ [295, 30, 296, 297, 298, 29, 299, 46, 324, 325, 326, 327, 328, 329, 330, 331, 332, 346, 347, 348] (by decide +kernel) (by decide +kernel)
set_option maxRecDepth 20000 in
theorem gL_law_X1_records : GoodIn wsL_law (wsV RL 77 RX1 yX1_records wsX1_records) := goodIn_app (goodIn_of _ (by decide +kernel)) ggL_law_X1_records
set_option maxRecDepth 20000 in
theorem ggL_law_X2_records : GoodIn wsL_law wsX2_records := goodIn_r _ [303, 81, 84, 333, 334, 335, 336, 337, 338, 339, 340, 341, 342, 343, 344, 345] (by decide +kernel) (by decide +kernel)
set_option maxRecDepth 20000 in
theorem gL_law_X2_records : GoodIn wsL_law (wsV RL 80 RX2 yX2_records wsX2_records) := goodIn_app (goodIn_of _ (by decide +kernel)) ggL_law_X2_records
set_option maxRecDepth 20000 in
theorem ggL_law_X1_digits : GoodIn wsL_law wsX1_digits := goodIn_r _ [307, 37, 324, 325, 326, 327, 328, 329, 330, 331, 332] (by decide +kernel) (by decide +kernel)
set_option maxRecDepth 20000 in
theorem gL_law_X1_digits : GoodIn wsL_law (wsV RL 81 RX1 yX1_digits wsX1_digits) := goodIn_app (goodIn_of _ (by decide +kernel)) ggL_law_X1_digits
set_option maxRecDepth 20000 in
theorem ggL_law_X2_digits : GoodIn wsL_law wsX2_digits := goodIn_r _ [311, 81, 54, 333, 334, 335, 336, 337, 338, 339, 340, 341, 342, 343, 344, 345] (by decide +kernel) (by decide +kernel)
set_option maxRecDepth 20000 in
theorem gL_law_X2_digits : GoodIn wsL_law (wsV RL 84 RX2 yX2_digits wsX2_digits) := goodIn_app (goodIn_of _ (by decide +kernel)) ggL_law_X2_digits
set_option maxRecDepth 20000 in
theorem ggL_law_X1_count : GoodIn wsL_law wsX1_count := goodIn_r _ [315, 26, 31, 32, 30, 95, 96, 97, 29, 98, 46, 99, 100, 101, 102, 44, 316, 317, 318, 319, 324, 325, 326, 327, 328, 329, 330, 331, 332, 346, 347, 348] (by decide +kernel) (by decide +kernel)
set_option maxRecDepth 20000 in
theorem gL_law_X1_count : GoodIn wsL_law (wsV RL 85 RX1 yX1_count wsX1_count) := goodIn_app (goodIn_of _ (by decide +kernel)) ggL_law_X1_count
set_option maxRecDepth 20000 in
theorem ggL_law_X2_count : GoodIn wsL_law wsX2_count := goodIn_r _ [323, 81, 56, 83, 53, 131, 132, 133, 5, 134, 84, 51, 214, 215, 216, 217, 333, 334, 335, 336, 337, 338, 339, 340, 341, 342, 343, 344, 345] (by decide +kernel) (by decide +kernel)
set_option maxRecDepth 20000 in
theorem gL_law_X2_count : GoodIn wsL_law (wsV RL 88 RX2 yX2_count wsX2_count) := goodIn_app (goodIn_of _ (by decide +kernel)) ggL_law_X2_count
abbrev vwCl : List vw_C := [(RJx00060, TJx00060, 6), (RX0, TX0, 3), (RX1, TX1, 9), (RX2, TX2, 13)]
