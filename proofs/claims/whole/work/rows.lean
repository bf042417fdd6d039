section
-- ===== PART A: goes FIRST, ahead of the names: the tables' words, and 'selects' of the private methods out of them =====
/-- a private method of a class that the tables say can be made, by its rows of tables_1 -/
def lw_okq (q : MethodName × Nat) : Prop := (q.1.cls ≠ "java/lang/invoke/MethodHandle" ∧ q.1.cls ≠ "java/lang/invoke/VarHandle") ∧ Cond.instantiable q.1.cls q.2 ∈ tables_1 ∧ Cond.privateMethod q.1 ∈ tables_1 ∧ Cond.instanceMethod q.1 ∈ tables_1
theorem lw_p0 : lw_okq (⟨"RelativeFiles", "closeFile", "()I"⟩, 9) := ⟨⟨by decide +kernel, by decide +kernel⟩, List.mem_of_getElem? (i := 11) (by decide +kernel), List.mem_of_getElem? (i := 77) (by decide +kernel), List.mem_of_getElem? (i := 78) (by decide +kernel)⟩
theorem lw_p1 : lw_okq (⟨"RelativeFiles", "stand", "(II)V"⟩, 9) := ⟨⟨by decide +kernel, by decide +kernel⟩, List.mem_of_getElem? (i := 11) (by decide +kernel), List.mem_of_getElem? (i := 81) (by decide +kernel), List.mem_of_getElem? (i := 82) (by decide +kernel)⟩
theorem lw_p2 : lw_okq (⟨"RelativeFiles", "openFile", "(I)I"⟩, 9) := ⟨⟨by decide +kernel, by decide +kernel⟩, List.mem_of_getElem? (i := 11) (by decide +kernel), List.mem_of_getElem? (i := 85) (by decide +kernel), List.mem_of_getElem? (i := 86) (by decide +kernel)⟩
theorem lw_p3 : lw_okq (⟨"RelativeFiles", "placeInOrder", "()I"⟩, 9) := ⟨⟨by decide +kernel, by decide +kernel⟩, List.mem_of_getElem? (i := 11) (by decide +kernel), List.mem_of_getElem? (i := 97) (by decide +kernel), List.mem_of_getElem? (i := 98) (by decide +kernel)⟩
theorem lw_p4 : lw_okq (⟨"RelativeFiles$Shelf", "placeAt", "(I)I"⟩, 3) := ⟨⟨by decide +kernel, by decide +kernel⟩, List.mem_of_getElem? (i := 26) (by decide +kernel), List.mem_of_getElem? (i := 105) (by decide +kernel), List.mem_of_getElem? (i := 106) (by decide +kernel)⟩
theorem lw_p5 : lw_okq (⟨"RelativeFiles", "isPlace", "(I)Z"⟩, 9) := ⟨⟨by decide +kernel, by decide +kernel⟩, List.mem_of_getElem? (i := 11) (by decide +kernel), List.mem_of_getElem? (i := 109) (by decide +kernel), List.mem_of_getElem? (i := 110) (by decide +kernel)⟩
theorem lw_p6 : lw_okq (⟨"RelativeFiles", "isTooLong", "(I)Z"⟩, 9) := ⟨⟨by decide +kernel, by decide +kernel⟩, List.mem_of_getElem? (i := 11) (by decide +kernel), List.mem_of_getElem? (i := 113) (by decide +kernel), List.mem_of_getElem? (i := 114) (by decide +kernel)⟩
theorem lw_p7 : lw_okq (⟨"RelativeFiles$Shelf", "rank", "(I)I"⟩, 3) := ⟨⟨by decide +kernel, by decide +kernel⟩, List.mem_of_getElem? (i := 26) (by decide +kernel), List.mem_of_getElem? (i := 121) (by decide +kernel), List.mem_of_getElem? (i := 122) (by decide +kernel)⟩
theorem lw_p8 : lw_okq (⟨"RelativeFiles$Shelf", "isAt", "(II)Z"⟩, 3) := ⟨⟨by decide +kernel, by decide +kernel⟩, List.mem_of_getElem? (i := 26) (by decide +kernel), List.mem_of_getElem? (i := 125) (by decide +kernel), List.mem_of_getElem? (i := 126) (by decide +kernel)⟩
theorem lw_p9 : lw_okq (⟨"RelativeFiles", "refusalToRead", "()I"⟩, 9) := ⟨⟨by decide +kernel, by decide +kernel⟩, List.mem_of_getElem? (i := 11) (by decide +kernel), List.mem_of_getElem? (i := 137) (by decide +kernel), List.mem_of_getElem? (i := 138) (by decide +kernel)⟩
theorem lw_p10 : lw_okq (⟨"RelativeFiles", "losePosition", "()V"⟩, 9) := ⟨⟨by decide +kernel, by decide +kernel⟩, List.mem_of_getElem? (i := 11) (by decide +kernel), List.mem_of_getElem? (i := 141) (by decide +kernel), List.mem_of_getElem? (i := 142) (by decide +kernel)⟩
theorem lw_p11 : lw_okq (⟨"RelativeFiles", "take", "(I)V"⟩, 9) := ⟨⟨by decide +kernel, by decide +kernel⟩, List.mem_of_getElem? (i := 11) (by decide +kernel), List.mem_of_getElem? (i := 145) (by decide +kernel), List.mem_of_getElem? (i := 146) (by decide +kernel)⟩
theorem lw_p12 : lw_okq (⟨"RelativeFiles", "placeToStart", "(II)I"⟩, 9) := ⟨⟨by decide +kernel, by decide +kernel⟩, List.mem_of_getElem? (i := 11) (by decide +kernel), List.mem_of_getElem? (i := 161) (by decide +kernel), List.mem_of_getElem? (i := 162) (by decide +kernel)⟩
theorem lw_p13 : lw_okq (⟨"RelativeFiles", "placeFromPosition", "(Z)I"⟩, 9) := ⟨⟨by decide +kernel, by decide +kernel⟩, List.mem_of_getElem? (i := 11) (by decide +kernel), List.mem_of_getElem? (i := 177) (by decide +kernel), List.mem_of_getElem? (i := 178) (by decide +kernel)⟩
theorem lw_p14 : lw_okq (⟨"RelativeFiles", "placeToChange", "(I)I"⟩, 9) := ⟨⟨by decide +kernel, by decide +kernel⟩, List.mem_of_getElem? (i := 11) (by decide +kernel), List.mem_of_getElem? (i := 185) (by decide +kernel), List.mem_of_getElem? (i := 186) (by decide +kernel)⟩
theorem lw_p15 : lw_okq (⟨"RelativeFiles", "statusOfChange", "(II)I"⟩, 9) := ⟨⟨by decide +kernel, by decide +kernel⟩, List.mem_of_getElem? (i := 11) (by decide +kernel), List.mem_of_getElem? (i := 189) (by decide +kernel), List.mem_of_getElem? (i := 190) (by decide +kernel)⟩
def lw_privs_1 : List (MethodName × Nat) := [(⟨"RelativeFiles", "closeFile", "()I"⟩, 9), (⟨"RelativeFiles", "stand", "(II)V"⟩, 9), (⟨"RelativeFiles", "openFile", "(I)I"⟩, 9), (⟨"RelativeFiles", "placeInOrder", "()I"⟩, 9), (⟨"RelativeFiles$Shelf", "placeAt", "(I)I"⟩, 3), (⟨"RelativeFiles", "isPlace", "(I)Z"⟩, 9), (⟨"RelativeFiles", "isTooLong", "(I)Z"⟩, 9), (⟨"RelativeFiles$Shelf", "rank", "(I)I"⟩, 3), (⟨"RelativeFiles$Shelf", "isAt", "(II)Z"⟩, 3), (⟨"RelativeFiles", "refusalToRead", "()I"⟩, 9), (⟨"RelativeFiles", "losePosition", "()V"⟩, 9), (⟨"RelativeFiles", "take", "(I)V"⟩, 9), (⟨"RelativeFiles", "placeToStart", "(II)I"⟩, 9), (⟨"RelativeFiles", "placeFromPosition", "(Z)I"⟩, 9), (⟨"RelativeFiles", "placeToChange", "(I)I"⟩, 9), (⟨"RelativeFiles", "statusOfChange", "(II)I"⟩, 9)]
theorem lw_r1 : ∀ q ∈ lw_privs_1, lw_okq q := List.forall_mem_cons.mpr ⟨lw_p0, List.forall_mem_cons.mpr ⟨lw_p1, List.forall_mem_cons.mpr ⟨lw_p2, List.forall_mem_cons.mpr ⟨lw_p3, List.forall_mem_cons.mpr ⟨lw_p4, List.forall_mem_cons.mpr ⟨lw_p5, List.forall_mem_cons.mpr ⟨lw_p6, List.forall_mem_cons.mpr ⟨lw_p7, List.forall_mem_cons.mpr ⟨lw_p8, List.forall_mem_cons.mpr ⟨lw_p9, List.forall_mem_cons.mpr ⟨lw_p10, List.forall_mem_cons.mpr ⟨lw_p11, List.forall_mem_cons.mpr ⟨lw_p12, List.forall_mem_cons.mpr ⟨lw_p13, List.forall_mem_cons.mpr ⟨lw_p14, List.forall_mem_cons.mpr ⟨lw_p15, fun _ h => absurd h List.not_mem_nil⟩⟩⟩⟩⟩⟩⟩⟩⟩⟩⟩⟩⟩⟩⟩⟩
theorem lw_p16 : lw_okq (⟨"java/lang/Throwable", "fillInStackTrace", "(I)Ljava/lang/Throwable;"⟩, 6) := ⟨⟨by decide +kernel, by decide +kernel⟩, List.mem_of_getElem? (i := 278) (by decide +kernel), List.mem_of_getElem? (i := 276) (by decide +kernel), List.mem_of_getElem? (i := 277) (by decide +kernel)⟩
theorem lw_p17 : lw_okq (⟨"RelativeFilesModel", "upTo", "(J)I"⟩, 13) := ⟨⟨by decide +kernel, by decide +kernel⟩, List.mem_of_getElem? (i := 311) (by decide +kernel), List.mem_of_getElem? (i := 370) (by decide +kernel), List.mem_of_getElem? (i := 371) (by decide +kernel)⟩
theorem lw_p18 : lw_okq (⟨"RelativeFilesModel", "isPlace", "(I)Z"⟩, 13) := ⟨⟨by decide +kernel, by decide +kernel⟩, List.mem_of_getElem? (i := 311) (by decide +kernel), List.mem_of_getElem? (i := 374) (by decide +kernel), List.mem_of_getElem? (i := 375) (by decide +kernel)⟩
theorem lw_p19 : lw_okq (⟨"RelativeFilesModel", "isLong", "(I)Z"⟩, 13) := ⟨⟨by decide +kernel, by decide +kernel⟩, List.mem_of_getElem? (i := 311) (by decide +kernel), List.mem_of_getElem? (i := 378) (by decide +kernel), List.mem_of_getElem? (i := 379) (by decide +kernel)⟩
theorem lw_p20 : lw_okq (⟨"RelativeFilesModel", "find", "(I)I"⟩, 13) := ⟨⟨by decide +kernel, by decide +kernel⟩, List.mem_of_getElem? (i := 311) (by decide +kernel), List.mem_of_getElem? (i := 383) (by decide +kernel), List.mem_of_getElem? (i := 384) (by decide +kernel)⟩
theorem lw_p21 : lw_okq (⟨"RelativeFilesModel", "add", "(IJ)V"⟩, 13) := ⟨⟨by decide +kernel, by decide +kernel⟩, List.mem_of_getElem? (i := 311) (by decide +kernel), List.mem_of_getElem? (i := 387) (by decide +kernel), List.mem_of_getElem? (i := 388) (by decide +kernel)⟩
theorem lw_p22 : lw_okq (⟨"RelativeFilesModel", "reads", "()Z"⟩, 13) := ⟨⟨by decide +kernel, by decide +kernel⟩, List.mem_of_getElem? (i := 311) (by decide +kernel), List.mem_of_getElem? (i := 395) (by decide +kernel), List.mem_of_getElem? (i := 396) (by decide +kernel)⟩
theorem lw_p23 : lw_okq (⟨"RelativeFilesModel", "take", "(I)V"⟩, 13) := ⟨⟨by decide +kernel, by decide +kernel⟩, List.mem_of_getElem? (i := 311) (by decide +kernel), List.mem_of_getElem? (i := 399) (by decide +kernel), List.mem_of_getElem? (i := 400) (by decide +kernel)⟩
theorem lw_p24 : lw_okq (⟨"RelativeFilesModel", "from", "(J)I"⟩, 13) := ⟨⟨by decide +kernel, by decide +kernel⟩, List.mem_of_getElem? (i := 311) (by decide +kernel), List.mem_of_getElem? (i := 411) (by decide +kernel), List.mem_of_getElem? (i := 412) (by decide +kernel)⟩
theorem lw_p25 : lw_okq (⟨"RelativeFilesModel", "meant", "(I)I"⟩, 13) := ⟨⟨by decide +kernel, by decide +kernel⟩, List.mem_of_getElem? (i := 311) (by decide +kernel), List.mem_of_getElem? (i := 423) (by decide +kernel), List.mem_of_getElem? (i := 424) (by decide +kernel)⟩
def lw_privs_2 : List (MethodName × Nat) := [(⟨"java/lang/Throwable", "fillInStackTrace", "(I)Ljava/lang/Throwable;"⟩, 6), (⟨"RelativeFilesModel", "upTo", "(J)I"⟩, 13), (⟨"RelativeFilesModel", "isPlace", "(I)Z"⟩, 13), (⟨"RelativeFilesModel", "isLong", "(I)Z"⟩, 13), (⟨"RelativeFilesModel", "find", "(I)I"⟩, 13), (⟨"RelativeFilesModel", "add", "(IJ)V"⟩, 13), (⟨"RelativeFilesModel", "reads", "()Z"⟩, 13), (⟨"RelativeFilesModel", "take", "(I)V"⟩, 13), (⟨"RelativeFilesModel", "from", "(J)I"⟩, 13), (⟨"RelativeFilesModel", "meant", "(I)I"⟩, 13)]
theorem lw_r2 : ∀ q ∈ lw_privs_2, lw_okq q := List.forall_mem_cons.mpr ⟨lw_p16, List.forall_mem_cons.mpr ⟨lw_p17, List.forall_mem_cons.mpr ⟨lw_p18, List.forall_mem_cons.mpr ⟨lw_p19, List.forall_mem_cons.mpr ⟨lw_p20, List.forall_mem_cons.mpr ⟨lw_p21, List.forall_mem_cons.mpr ⟨lw_p22, List.forall_mem_cons.mpr ⟨lw_p23, List.forall_mem_cons.mpr ⟨lw_p24, List.forall_mem_cons.mpr ⟨lw_p25, fun _ h => absurd h List.not_mem_nil⟩⟩⟩⟩⟩⟩⟩⟩⟩⟩
def lw_privs : List (MethodName × Nat) := lw_privs_1 ++ (lw_privs_2)
def lw_tbl : List Cond := k2_sels lw_privs ++ tables_1
theorem lw_privs_ok : ∀ q ∈ lw_privs, lw_okq q := by
  show ∀ q ∈ lw_privs_1 ++ (lw_privs_2), lw_okq q
  exact List.forall_mem_append.mpr ⟨lw_r1, lw_r2⟩
end
section
/-! ===== BEGIN words of one list among another's, by their places ===== -/
theorem goodIn_r {big : List Cond} (ws : List Cond) (ps : List Nat) (hp : ws = ps.filterMap (fun i => big[i]?)) (h : ws.all goodWord = true) : GoodIn big ws := by
  intro w hw
  have h1 := List.all_eq_true.mp h w hw
  rw [hp] at hw
  obtain ⟨i, -, hi⟩ := List.mem_filterMap.mp hw
  have hm : w ∈ big := by first | exact List.mem_of_getElem? hi | exact List.getElem?_mem hi
  exact ⟨hm, good_of_word h1⟩
theorem goodIn_app {big a b : List Cond} (ha : GoodIn big a) (hb : GoodIn big b) : GoodIn big (a ++ b) := fun w h => (List.mem_append.mp h).elim (ha w) (hb w)
theorem goodIn_ca {big a b : List Cond} {c : Cond} (ha : GoodIn big (c :: a)) (hb : GoodIn big b) : GoodIn big (c :: (a ++ b)) := fun w h => (List.mem_cons.mp h).elim (fun e => ha w (List.mem_cons.mpr (Or.inl e))) (fun h => (List.mem_append.mp h).elim (fun h => ha w (List.mem_cons.mpr (Or.inr h))) (hb w))
theorem goodIn_sub {big ws : List Cond} (hm : ∀ w ∈ ws, w ∈ big) (h : ws.all goodWord = true) : GoodIn big ws := fun w hw => ⟨hm w hw, good_of_word (List.all_eq_true.mp h w hw)⟩
/-! ===== END ===== -/

/-! ===== BEGIN printed: names, fields, word lists, decode rows ===== -/
def RX0 : String := "RelativeFiles$Shelf"
def TX0 : u_T := fun k => match k with
  | 0 => ("RelativeFiles$Shelf", "places", "[I", true)
  | 1 => ("RelativeFiles$Shelf", "values", "[J", true)
  | _ => ("RelativeFiles$Shelf", "held", "I", false)
def tyX0 : Nat → FieldType := fun k => match k with
  | 0 => .array .int
  | 1 => .array .long
  | _ => .int
abbrev wsX00 : List Cond := u_ws RX0 TX0 3
theorem nmX0 : ∀ a, a < 3 → ∀ b, b < 3 → a ≠ b → (TX0 a).2.1 ≠ (TX0 b).2.1 := by decide +kernel
theorem tyX0_ok : ∀ k, k < 3 → parseFieldDescriptor (TX0 k).2.2.1 = some (tyX0 k) := by decide +kernel
abbrev cX0_init : ByteArray := prog_2_method_1_code
def yX0_init : MethodName := ⟨RX0, "<init>", "(I)V"⟩
abbrev cX0_size : ByteArray := prog_2_method_2_code
def yX0_size : MethodName := ⟨RX0, "size", "()I"⟩
abbrev cX0_clear : ByteArray := prog_2_method_3_code
def yX0_clear : MethodName := ⟨RX0, "clear", "()V"⟩
abbrev cX0_has : ByteArray := prog_2_method_4_code
def yX0_has : MethodName := ⟨RX0, "has", "(I)Z"⟩
abbrev cX0_recordOf : ByteArray := prog_2_method_5_code
def yX0_recordOf : MethodName := ⟨RX0, "recordOf", "(I)J"⟩
abbrev cX0_least : ByteArray := prog_2_method_6_code
def yX0_least : MethodName := ⟨RX0, "least", "()I"⟩
abbrev cX0_greatest : ByteArray := prog_2_method_7_code
def yX0_greatest : MethodName := ⟨RX0, "greatest", "()I"⟩
abbrev cX0_firstAbove : ByteArray := prog_2_method_8_code
def yX0_firstAbove : MethodName := ⟨RX0, "firstAbove", "(I)I"⟩
abbrev cX0_lastBelow : ByteArray := prog_2_method_9_code
def yX0_lastBelow : MethodName := ⟨RX0, "lastBelow", "(I)I"⟩
abbrev cX0_add : ByteArray := prog_2_method_10_code
def yX0_add : MethodName := ⟨RX0, "add", "(IJ)Z"⟩
abbrev cX0_replace : ByteArray := prog_2_method_11_code
def yX0_replace : MethodName := ⟨RX0, "replace", "(IJ)V"⟩
abbrev cX0_drop : ByteArray := prog_2_method_12_code
def yX0_drop : MethodName := ⟨RX0, "drop", "(I)V"⟩
abbrev cX0_rank : ByteArray := prog_2_method_13_code
def yX0_rank : MethodName := ⟨RX0, "rank", "(I)I"⟩
abbrev cX0_isAt : ByteArray := prog_2_method_14_code
def yX0_isAt : MethodName := ⟨RX0, "isAt", "(II)Z"⟩
abbrev cX0_placeAt : ByteArray := prog_2_method_15_code
def yX0_placeAt : MethodName := ⟨RX0, "placeAt", "(I)I"⟩
def RX1 : String := "RelativeFiles"
def TX1 : u_T := fun k => match k with
  | 0 => ("RelativeFiles", "most", "I", true)
  | 1 => ("RelativeFiles", "shelf", "LRelativeFiles$Shelf;", true)
  | 2 => ("RelativeFiles", "there", "Z", false)
  | 3 => ("RelativeFiles", "openMode", "I", false)
  | 4 => ("RelativeFiles", "standing", "I", false)
  | 5 => ("RelativeFiles", "position", "I", false)
  | 6 => ("RelativeFiles", "lastRead", "I", false)
  | 7 => ("RelativeFiles", "lastValue", "J", false)
  | _ => ("RelativeFiles", "keyDigits", "I", false)
def tyX1 : Nat → FieldType := fun k => match k with
  | 0 => .int
  | 1 => .object "RelativeFiles$Shelf"
  | 2 => .boolean
  | 3 => .int
  | 4 => .int
  | 5 => .int
  | 6 => .int
  | 7 => .long
  | _ => .int
abbrev wsX10 : List Cond := u_ws RX1 TX1 9
theorem nmX1 : ∀ a, a < 9 → ∀ b, b < 9 → a ≠ b → (TX1 a).2.1 ≠ (TX1 b).2.1 := by decide +kernel
theorem tyX1_ok : ∀ k, k < 9 → parseFieldDescriptor (TX1 k).2.2.1 = some (tyX1 k) := by decide +kernel
abbrev cX1_init : ByteArray := prog_1_method_1_code
def yX1_init : MethodName := ⟨RX1, "<init>", "(I)V"⟩
abbrev cX1_open : ByteArray := prog_1_method_2_code
def yX1_open : MethodName := ⟨RX1, "open", "(I)I"⟩
abbrev cX1_write : ByteArray := prog_1_method_3_code
def yX1_write : MethodName := ⟨RX1, "write", "(IJ)I"⟩
abbrev cX1_read : ByteArray := prog_1_method_4_code
def yX1_read : MethodName := ⟨RX1, "read", "(I)I"⟩
abbrev cX1_value : ByteArray := prog_1_method_5_code
def yX1_value : MethodName := ⟨RX1, "value", "()J"⟩
abbrev cX1_start : ByteArray := prog_1_method_6_code
def yX1_start : MethodName := ⟨RX1, "start", "(II)I"⟩
abbrev cX1_next : ByteArray := prog_1_method_7_code
def yX1_next : MethodName := ⟨RX1, "next", "(Z)I"⟩
abbrev cX1_rewrite : ByteArray := prog_1_method_8_code
def yX1_rewrite : MethodName := ⟨RX1, "rewrite", "(IJ)I"⟩
abbrev cX1_remove : ByteArray := prog_1_method_9_code
def yX1_remove : MethodName := ⟨RX1, "remove", "(I)I"⟩
abbrev cX1_number : ByteArray := prog_1_method_10_code
def yX1_number : MethodName := ⟨RX1, "number", "()I"⟩
abbrev cX1_cell : ByteArray := prog_1_method_11_code
def yX1_cell : MethodName := ⟨RX1, "cell", "(I)J"⟩
abbrev cX1_records : ByteArray := prog_1_method_12_code
def yX1_records : MethodName := ⟨RX1, "records", "()I"⟩
abbrev cX1_digits : ByteArray := prog_1_method_13_code
def yX1_digits : MethodName := ⟨RX1, "digits", "(I)I"⟩
abbrev cX1_count : ByteArray := prog_1_method_14_code
def yX1_count : MethodName := ⟨RX1, "count", "(I)I"⟩
abbrev cX1_openFile : ByteArray := prog_1_method_15_code
def yX1_openFile : MethodName := ⟨RX1, "openFile", "(I)I"⟩
abbrev cX1_closeFile : ByteArray := prog_1_method_16_code
def yX1_closeFile : MethodName := ⟨RX1, "closeFile", "()I"⟩
abbrev cX1_refusalToRead : ByteArray := prog_1_method_17_code
def yX1_refusalToRead : MethodName := ⟨RX1, "refusalToRead", "()I"⟩
abbrev cX1_statusOfChange : ByteArray := prog_1_method_18_code
def yX1_statusOfChange : MethodName := ⟨RX1, "statusOfChange", "(II)I"⟩
abbrev cX1_placeToChange : ByteArray := prog_1_method_19_code
def yX1_placeToChange : MethodName := ⟨RX1, "placeToChange", "(I)I"⟩
abbrev cX1_placeInOrder : ByteArray := prog_1_method_20_code
def yX1_placeInOrder : MethodName := ⟨RX1, "placeInOrder", "()I"⟩
abbrev cX1_placeToStart : ByteArray := prog_1_method_21_code
def yX1_placeToStart : MethodName := ⟨RX1, "placeToStart", "(II)I"⟩
abbrev cX1_placeFromPosition : ByteArray := prog_1_method_22_code
def yX1_placeFromPosition : MethodName := ⟨RX1, "placeFromPosition", "(Z)I"⟩
abbrev cX1_take : ByteArray := prog_1_method_23_code
def yX1_take : MethodName := ⟨RX1, "take", "(I)V"⟩
abbrev cX1_losePosition : ByteArray := prog_1_method_24_code
def yX1_losePosition : MethodName := ⟨RX1, "losePosition", "()V"⟩
abbrev cX1_stand : ByteArray := prog_1_method_25_code
def yX1_stand : MethodName := ⟨RX1, "stand", "(II)V"⟩
abbrev cX1_isPlace : ByteArray := prog_1_method_26_code
def yX1_isPlace : MethodName := ⟨RX1, "isPlace", "(I)Z"⟩
abbrev cX1_isTooLong : ByteArray := prog_1_method_27_code
def yX1_isTooLong : MethodName := ⟨RX1, "isTooLong", "(I)Z"⟩
def RX2 : String := "RelativeFilesModel"
def TX2 : u_T := fun k => match k with
  | 0 => ("RelativeFilesModel", "code", "I", false)
  | 1 => ("RelativeFilesModel", "most", "I", true)
  | 2 => ("RelativeFilesModel", "numbers", "[I", true)
  | 3 => ("RelativeFilesModel", "values", "[J", true)
  | 4 => ("RelativeFilesModel", "size", "I", false)
  | 5 => ("RelativeFilesModel", "there", "Z", false)
  | 6 => ("RelativeFilesModel", "ended", "Z", false)
  | 7 => ("RelativeFilesModel", "mode", "I", false)
  | 8 => ("RelativeFilesModel", "position", "I", false)
  | 9 => ("RelativeFilesModel", "place", "I", false)
  | 10 => ("RelativeFilesModel", "last", "I", false)
  | 11 => ("RelativeFilesModel", "digits", "I", false)
  | _ => ("RelativeFilesModel", "value", "J", false)
def tyX2 : Nat → FieldType := fun k => match k with
  | 0 => .int
  | 1 => .int
  | 2 => .array .int
  | 3 => .array .long
  | 4 => .int
  | 5 => .boolean
  | 6 => .boolean
  | 7 => .int
  | 8 => .int
  | 9 => .int
  | 10 => .int
  | 11 => .int
  | _ => .long
abbrev wsX20 : List Cond := u_ws RX2 TX2 13
theorem nmX2 : ∀ a, a < 13 → ∀ b, b < 13 → a ≠ b → (TX2 a).2.1 ≠ (TX2 b).2.1 := by decide +kernel
theorem tyX2_ok : ∀ k, k < 13 → parseFieldDescriptor (TX2 k).2.2.1 = some (tyX2 k) := by decide +kernel
abbrev cX2_init : ByteArray := prog_4_method_1_code
def yX2_init : MethodName := ⟨RX2, "<init>", "(I)V"⟩
abbrev cX2_thrown : ByteArray := prog_4_method_2_code
def yX2_thrown : MethodName := ⟨RX2, "thrown", "()I"⟩
abbrev cX2_find : ByteArray := prog_4_method_3_code
def yX2_find : MethodName := ⟨RX2, "find", "(I)I"⟩
abbrev cX2_from : ByteArray := prog_4_method_4_code
def yX2_from : MethodName := ⟨RX2, "from", "(J)I"⟩
abbrev cX2_upTo : ByteArray := prog_4_method_5_code
def yX2_upTo : MethodName := ⟨RX2, "upTo", "(J)I"⟩
abbrev cX2_isLong : ByteArray := prog_4_method_6_code
def yX2_isLong : MethodName := ⟨RX2, "isLong", "(I)Z"⟩
abbrev cX2_isPlace : ByteArray := prog_4_method_7_code
def yX2_isPlace : MethodName := ⟨RX2, "isPlace", "(I)Z"⟩
abbrev cX2_reads : ByteArray := prog_4_method_8_code
def yX2_reads : MethodName := ⟨RX2, "reads", "()Z"⟩
abbrev cX2_open : ByteArray := prog_4_method_9_code
def yX2_open : MethodName := ⟨RX2, "open", "(I)I"⟩
abbrev cX2_add : ByteArray := prog_4_method_10_code
def yX2_add : MethodName := ⟨RX2, "add", "(IJ)V"⟩
abbrev cX2_write : ByteArray := prog_4_method_11_code
def yX2_write : MethodName := ⟨RX2, "write", "(IJ)I"⟩
abbrev cX2_take : ByteArray := prog_4_method_12_code
def yX2_take : MethodName := ⟨RX2, "take", "(I)V"⟩
abbrev cX2_read : ByteArray := prog_4_method_13_code
def yX2_read : MethodName := ⟨RX2, "read", "(I)I"⟩
abbrev cX2_value : ByteArray := prog_4_method_14_code
def yX2_value : MethodName := ⟨RX2, "value", "()J"⟩
abbrev cX2_start : ByteArray := prog_4_method_15_code
def yX2_start : MethodName := ⟨RX2, "start", "(II)I"⟩
abbrev cX2_next : ByteArray := prog_4_method_16_code
def yX2_next : MethodName := ⟨RX2, "next", "(Z)I"⟩
abbrev cX2_meant : ByteArray := prog_4_method_17_code
def yX2_meant : MethodName := ⟨RX2, "meant", "(I)I"⟩
abbrev cX2_rewrite : ByteArray := prog_4_method_18_code
def yX2_rewrite : MethodName := ⟨RX2, "rewrite", "(IJ)I"⟩
abbrev cX2_remove : ByteArray := prog_4_method_19_code
def yX2_remove : MethodName := ⟨RX2, "remove", "(I)I"⟩
abbrev cX2_number : ByteArray := prog_4_method_20_code
def yX2_number : MethodName := ⟨RX2, "number", "()I"⟩
abbrev cX2_cell : ByteArray := prog_4_method_21_code
def yX2_cell : MethodName := ⟨RX2, "cell", "(I)J"⟩
abbrev cX2_records : ByteArray := prog_4_method_22_code
def yX2_records : MethodName := ⟨RX2, "records", "()I"⟩
abbrev cX2_digits : ByteArray := prog_4_method_23_code
def yX2_digits : MethodName := ⟨RX2, "digits", "(I)I"⟩
abbrev cX2_count : ByteArray := prog_4_method_24_code
def yX2_count : MethodName := ⟨RX2, "count", "(I)I"⟩
def RJx00060 : String := "java/lang/ArrayIndexOutOfBoundsException"
def TJx00060 : u_T := fun k => match k with
  | 0 => ("java/lang/Throwable", "cause", "Ljava/lang/Throwable;", false)
  | 1 => ("java/lang/Throwable", "stackTrace", "[Ljava/lang/StackTraceElement;", false)
  | 2 => ("java/lang/Throwable", "suppressedExceptions", "Ljava/util/List;", false)
  | 3 => ("java/lang/Throwable", "detailMessage", "Ljava/lang/String;", false)
  | 4 => ("java/lang/Throwable", "backtrace", "Ljava/lang/Object;", false)
  | _ => ("java/lang/Throwable", "depth", "I", false)
def tyJx00060 : Nat → FieldType := fun k => match k with
  | 0 => .object "java/lang/Throwable"
  | 1 => .array (.object "java/lang/StackTraceElement")
  | 2 => .object "java/util/List"
  | 3 => .object "java/lang/String"
  | 4 => .object "java/lang/Object"
  | _ => .int
abbrev wsJx000600 : List Cond := u_ws RJx00060 TJx00060 6
theorem nmJx00060 : ∀ a, a < 6 → ∀ b, b < 6 → a ≠ b → (TJx00060 a).2.1 ≠ (TJx00060 b).2.1 := by decide +kernel
theorem tyJx00060_ok : ∀ k, k < 6 → parseFieldDescriptor (TJx00060 k).2.2.1 = some (tyJx00060 k) := by decide +kernel
abbrev cJx00060_init_a7421 : ByteArray := prog_5_method_2_code
def yJx00060_init_a7421 : MethodName := ⟨RJx00060, "<init>", "(Ljava/lang/String;)V"⟩
def RJ9 : String := "java/lang/Math"
def TJ9 : u_T := fun k => match k with
  | _ => ("", "", "", false)
def tyJ9 : Nat → FieldType := fun k => match k with
  | _ => .int
abbrev wsJ90 : List Cond := u_ws RJ9 TJ9 0
theorem nmJ9 : ∀ a, a < 0 → ∀ b, b < 0 → a ≠ b → (TJ9 a).2.1 ≠ (TJ9 b).2.1 := by decide +kernel
theorem tyJ9_ok : ∀ k, k < 0 → parseFieldDescriptor (TJ9 k).2.2.1 = some (tyJ9 k) := by decide +kernel
abbrev cJ9_max_7cf53 : ByteArray := prog_8_method_65_code
def yJ9_max_7cf53 : MethodName := ⟨RJ9, "max", "(II)I"⟩
abbrev cJ9_min_7cf53 : ByteArray := prog_8_method_69_code
def yJ9_min_7cf53 : MethodName := ⟨RJ9, "min", "(II)I"⟩
def RJ0 : String := "java/lang/String"
def TJ0 : u_T := fun k => match k with
  | _ => ("", "", "", false)
def tyJ0 : Nat → FieldType := fun k => match k with
  | _ => .int
abbrev wsJ00 : List Cond := u_ws RJ0 TJ0 0
theorem nmJ0 : ∀ a, a < 0 → ∀ b, b < 0 → a ≠ b → (TJ0 a).2.1 ≠ (TJ0 b).2.1 := by decide +kernel
theorem tyJ0_ok : ∀ k, k < 0 → parseFieldDescriptor (TJ0 k).2.2.1 = some (tyJ0 k) := by decide +kernel
def RL : String := "RelativeFilesLaw"
abbrev cL_cell : ByteArray := method_2_code
def yL_cell : MethodName := ⟨RL, "cell", "([II)I"⟩
abbrev cL_cell_ : ByteArray := method_3_code
def yL_cell_ : MethodName := ⟨RL, "cell", "(LRelativeFiles;I[J)I"⟩
abbrev cL_law : ByteArray := code
def yL_law : MethodName := ⟨RL, "law", "([I)Z"⟩
def wsX0_init : List Cond := .code yX0_init cX0_init 3 none :: ([.methodLink RX0 3 objectInit, .instanceMethod objectInit, .code objectInit ⟨#[0xb1]⟩ 1 none, .methodLink RX0 9 Lib.Math.max.name, .static Lib.Math.max.name, .initialized "java/lang/Math", .code Lib.Math.max.name Lib.Math.max.code 2 (some .int), .arrayClass .int, .fieldLink RX0 15 "RelativeFiles$Shelf" "places" "[I", .arrayClass .long, .fieldLink RX0 21 "RelativeFiles$Shelf" "values" "[J", .fieldLink RX0 25 "RelativeFiles$Shelf" "held" "I"] ++ wsX00)
def wsX0_size : List Cond := .code yX0_size cX0_size 1 (some .int) :: ([.fieldLink RX0 25 "RelativeFiles$Shelf" "held" "I"] ++ wsX00)
def wsX0_clear : List Cond := .code yX0_clear cX0_clear 1 none :: ([.fieldLink RX0 25 "RelativeFiles$Shelf" "held" "I"] ++ wsX00)
def wsX0_rank : List Cond := .code yX0_rank cX0_rank 3 (some .int) :: ([.fieldLink RX0 25 "RelativeFiles$Shelf" "held" "I", .fieldLink RX0 15 "RelativeFiles$Shelf" "places" "[I"] ++ wsX00)
def wsX0_isAt : List Cond := .code yX0_isAt cX0_isAt 3 (some .boolean) :: ([.fieldLink RX0 25 "RelativeFiles$Shelf" "held" "I", .fieldLink RX0 15 "RelativeFiles$Shelf" "places" "[I"] ++ wsX00)
def wsX0_has : List Cond := .code yX0_has cX0_has 2 (some .boolean) :: ([.methodLink RX0 29 yX0_rank, .instanceMethod yX0_rank, .selects RX0 yX0_rank yX0_rank, .initialized RX0, .code yX0_rank cX0_rank 3 (some .int), .fieldLink RX0 25 "RelativeFiles$Shelf" "held" "I", .fieldLink RX0 15 "RelativeFiles$Shelf" "places" "[I", .methodLink RX0 33 yX0_isAt, .instanceMethod yX0_isAt, .selects RX0 yX0_isAt yX0_isAt, .code yX0_isAt cX0_isAt 3 (some .boolean)] ++ wsX00)
def wsX0_recordOf : List Cond := .code yX0_recordOf cX0_recordOf 3 (some .long) :: ([.fieldLink RX0 21 "RelativeFiles$Shelf" "values" "[J", .methodLink RX0 29 yX0_rank, .instanceMethod yX0_rank, .selects RX0 yX0_rank yX0_rank, .initialized RX0, .code yX0_rank cX0_rank 3 (some .int), .fieldLink RX0 25 "RelativeFiles$Shelf" "held" "I", .fieldLink RX0 15 "RelativeFiles$Shelf" "places" "[I", .methodLink RX0 33 yX0_isAt, .instanceMethod yX0_isAt, .selects RX0 yX0_isAt yX0_isAt, .code yX0_isAt cX0_isAt 3 (some .boolean)] ++ wsX00)
def wsX0_placeAt : List Cond := .code yX0_placeAt cX0_placeAt 2 (some .int) :: ([.fieldLink RX0 25 "RelativeFiles$Shelf" "held" "I", .fieldLink RX0 15 "RelativeFiles$Shelf" "places" "[I"] ++ wsX00)
def wsX0_least : List Cond := .code yX0_least cX0_least 1 (some .int) :: ([.methodLink RX0 37 yX0_placeAt, .instanceMethod yX0_placeAt, .selects RX0 yX0_placeAt yX0_placeAt, .initialized RX0, .code yX0_placeAt cX0_placeAt 2 (some .int), .fieldLink RX0 25 "RelativeFiles$Shelf" "held" "I", .fieldLink RX0 15 "RelativeFiles$Shelf" "places" "[I"] ++ wsX00)
def wsX0_greatest : List Cond := .code yX0_greatest cX0_greatest 1 (some .int) :: ([.fieldLink RX0 25 "RelativeFiles$Shelf" "held" "I", .methodLink RX0 37 yX0_placeAt, .instanceMethod yX0_placeAt, .selects RX0 yX0_placeAt yX0_placeAt, .initialized RX0, .code yX0_placeAt cX0_placeAt 2 (some .int), .fieldLink RX0 15 "RelativeFiles$Shelf" "places" "[I"] ++ wsX00)
def wsX0_firstAbove : List Cond := .code yX0_firstAbove cX0_firstAbove 3 (some .int) :: ([.methodLink RX0 29 yX0_rank, .instanceMethod yX0_rank, .selects RX0 yX0_rank yX0_rank, .initialized RX0, .code yX0_rank cX0_rank 3 (some .int), .fieldLink RX0 25 "RelativeFiles$Shelf" "held" "I", .fieldLink RX0 15 "RelativeFiles$Shelf" "places" "[I", .methodLink RX0 33 yX0_isAt, .instanceMethod yX0_isAt, .selects RX0 yX0_isAt yX0_isAt, .code yX0_isAt cX0_isAt 3 (some .boolean), .methodLink RX0 37 yX0_placeAt, .instanceMethod yX0_placeAt, .selects RX0 yX0_placeAt yX0_placeAt, .code yX0_placeAt cX0_placeAt 2 (some .int)] ++ wsX00)
def wsX0_lastBelow : List Cond := .code yX0_lastBelow cX0_lastBelow 2 (some .int) :: ([.methodLink RX0 29 yX0_rank, .instanceMethod yX0_rank, .selects RX0 yX0_rank yX0_rank, .initialized RX0, .code yX0_rank cX0_rank 3 (some .int), .fieldLink RX0 25 "RelativeFiles$Shelf" "held" "I", .fieldLink RX0 15 "RelativeFiles$Shelf" "places" "[I", .methodLink RX0 37 yX0_placeAt, .instanceMethod yX0_placeAt, .selects RX0 yX0_placeAt yX0_placeAt, .code yX0_placeAt cX0_placeAt 2 (some .int)] ++ wsX00)
def wsX0_add : List Cond := .code yX0_add cX0_add 6 (some .boolean) :: ([.fieldLink RX0 25 "RelativeFiles$Shelf" "held" "I", .fieldLink RX0 15 "RelativeFiles$Shelf" "places" "[I", .fieldLink RX0 21 "RelativeFiles$Shelf" "values" "[J", .methodLink RX0 29 yX0_rank, .instanceMethod yX0_rank, .selects RX0 yX0_rank yX0_rank, .initialized RX0, .code yX0_rank cX0_rank 3 (some .int)] ++ wsX00)
def wsX0_replace : List Cond := .code yX0_replace cX0_replace 5 none :: ([.fieldLink RX0 21 "RelativeFiles$Shelf" "values" "[J", .methodLink RX0 29 yX0_rank, .instanceMethod yX0_rank, .selects RX0 yX0_rank yX0_rank, .initialized RX0, .code yX0_rank cX0_rank 3 (some .int), .fieldLink RX0 25 "RelativeFiles$Shelf" "held" "I", .fieldLink RX0 15 "RelativeFiles$Shelf" "places" "[I", .methodLink RX0 33 yX0_isAt, .instanceMethod yX0_isAt, .selects RX0 yX0_isAt yX0_isAt, .code yX0_isAt cX0_isAt 3 (some .boolean)] ++ wsX00)
def wsX0_drop : List Cond := .code yX0_drop cX0_drop 4 none :: ([.fieldLink RX0 25 "RelativeFiles$Shelf" "held" "I", .fieldLink RX0 15 "RelativeFiles$Shelf" "places" "[I", .fieldLink RX0 21 "RelativeFiles$Shelf" "values" "[J", .methodLink RX0 29 yX0_rank, .instanceMethod yX0_rank, .selects RX0 yX0_rank yX0_rank, .initialized RX0, .code yX0_rank cX0_rank 3 (some .int), .methodLink RX0 33 yX0_isAt, .instanceMethod yX0_isAt, .selects RX0 yX0_isAt yX0_isAt, .code yX0_isAt cX0_isAt 3 (some .boolean)] ++ wsX00)
def wsX1_init_r1 : List Cond := [Cond.methodLink RX1 1 objectInit, Cond.instanceMethod objectInit, Cond.code objectInit ⟨#[0xb1]⟩ 1 none, Cond.constant RX1 9 (65536), Cond.methodLink RX1 10 Lib.Math.min.name, Cond.static Lib.Math.min.name, Cond.initialized "java/lang/Math", Cond.code Lib.Math.min.name Lib.Math.min.code 2 (some .int), Cond.methodLink RX1 16 Lib.Math.max.name, Cond.static Lib.Math.max.name, Cond.code Lib.Math.max.name Lib.Math.max.code 2 (some .int), Cond.fieldLink RX1 19 "RelativeFiles" "most" "I", Cond.classLink RX1 23 RX0, Cond.instantiable RX0 3, Cond.initialized RX0, Cond.fieldLink RX1 28 "RelativeFiles" "shelf" "LRelativeFiles$Shelf;", Cond.fieldLink RX1 32 "RelativeFiles" "there" "Z", Cond.fieldLink RX1 36 "RelativeFiles" "openMode" "I", Cond.fieldLink RX1 39 "RelativeFiles" "standing" "I", Cond.fieldLink RX1 42 "RelativeFiles" "position" "I", Cond.fieldLink RX1 45 "RelativeFiles" "lastRead" "I", Cond.fieldLink RX1 48 "RelativeFiles" "lastValue" "J", Cond.fieldLink RX1 52 "RelativeFiles" "keyDigits" "I", Cond.methodLink RX1 25 yX0_init]
def wsX1_init_r2 : List Cond := [Cond.instanceMethod yX0_init, Cond.code yX0_init cX0_init 3 none, Cond.methodLink RX0 3 objectInit, Cond.methodLink RX0 9 Lib.Math.max.name, Cond.arrayClass .int, Cond.fieldLink RX0 15 "RelativeFiles$Shelf" "places" "[I", Cond.arrayClass .long, Cond.fieldLink RX0 21 "RelativeFiles$Shelf" "values" "[J", Cond.fieldLink RX0 25 "RelativeFiles$Shelf" "held" "I"]
def wsX1_init : List Cond := .code yX1_init cX1_init 2 none :: ((wsX1_init_r1 ++ wsX1_init_r2) ++ wsX10 ++ wsX00)
def wsX1_stand : List Cond := .code yX1_stand cX1_stand 3 none :: ([.fieldLink RX1 39 "RelativeFiles" "standing" "I", .fieldLink RX1 42 "RelativeFiles" "position" "I", .fieldLink RX1 45 "RelativeFiles" "lastRead" "I"] ++ wsX10)
def wsX1_closeFile : List Cond := .code yX1_closeFile cX1_closeFile 1 (some .int) :: ([.fieldLink RX1 36 "RelativeFiles" "openMode" "I", .methodLink RX1 92 yX1_stand, .instanceMethod yX1_stand, .selects RX1 yX1_stand yX1_stand, .initialized RX1, .code yX1_stand cX1_stand 3 none, .fieldLink RX1 39 "RelativeFiles" "standing" "I", .fieldLink RX1 42 "RelativeFiles" "position" "I", .fieldLink RX1 45 "RelativeFiles" "lastRead" "I"] ++ wsX10)
def wsX1_openFile : List Cond := .code yX1_openFile cX1_openFile 3 (some .int) :: ([.fieldLink RX1 36 "RelativeFiles" "openMode" "I", .fieldLink RX1 32 "RelativeFiles" "there" "Z", .fieldLink RX1 28 "RelativeFiles" "shelf" "LRelativeFiles$Shelf;", .methodLink RX1 92 yX1_stand, .instanceMethod yX1_stand, .selects RX1 yX1_stand yX1_stand, .initialized RX1, .code yX1_stand cX1_stand 3 none, .fieldLink RX1 39 "RelativeFiles" "standing" "I", .fieldLink RX1 42 "RelativeFiles" "position" "I", .fieldLink RX1 45 "RelativeFiles" "lastRead" "I", .methodLink RX1 133 yX0_clear, .instanceMethod yX0_clear, .selects RX0 yX0_clear yX0_clear, .initialized RX0, .code yX0_clear cX0_clear 1 none, .fieldLink RX0 25 "RelativeFiles$Shelf" "held" "I"] ++ wsX10 ++ wsX00)
def wsX1_open_r1 : List Cond := [Cond.methodLink RX1 55 yX1_closeFile, Cond.instanceMethod yX1_closeFile, Cond.selects RX1 yX1_closeFile yX1_closeFile, Cond.initialized RX1, Cond.code yX1_closeFile cX1_closeFile 1 (some .int), Cond.fieldLink RX1 36 "RelativeFiles" "openMode" "I", Cond.methodLink RX1 92 yX1_stand, Cond.instanceMethod yX1_stand, Cond.selects RX1 yX1_stand yX1_stand, Cond.code yX1_stand cX1_stand 3 none, Cond.fieldLink RX1 39 "RelativeFiles" "standing" "I", Cond.fieldLink RX1 42 "RelativeFiles" "position" "I", Cond.fieldLink RX1 45 "RelativeFiles" "lastRead" "I", Cond.methodLink RX1 59 yX1_openFile, Cond.instanceMethod yX1_openFile, Cond.selects RX1 yX1_openFile yX1_openFile, Cond.code yX1_openFile cX1_openFile 3 (some .int), Cond.fieldLink RX1 32 "RelativeFiles" "there" "Z", Cond.fieldLink RX1 28 "RelativeFiles" "shelf" "LRelativeFiles$Shelf;", Cond.methodLink RX1 133 yX0_clear, Cond.instanceMethod yX0_clear, Cond.selects RX0 yX0_clear yX0_clear, Cond.initialized RX0, Cond.code yX0_clear cX0_clear 1 none]
def wsX1_open_r2 : List Cond := [Cond.fieldLink RX0 25 "RelativeFiles$Shelf" "held" "I"]
def wsX1_open : List Cond := .code yX1_open cX1_open 2 (some .int) :: ((wsX1_open_r1 ++ wsX1_open_r2) ++ wsX10 ++ wsX00)
def wsX1_placeInOrder : List Cond := .code yX1_placeInOrder cX1_placeInOrder 1 (some .int) :: ([.fieldLink RX1 36 "RelativeFiles" "openMode" "I", .fieldLink RX1 28 "RelativeFiles" "shelf" "LRelativeFiles$Shelf;", .methodLink RX1 127 yX0_greatest, .instanceMethod yX0_greatest, .selects RX0 yX0_greatest yX0_greatest, .initialized RX0, .code yX0_greatest cX0_greatest 1 (some .int), .fieldLink RX0 25 "RelativeFiles$Shelf" "held" "I", .methodLink RX0 37 yX0_placeAt, .instanceMethod yX0_placeAt, .selects RX0 yX0_placeAt yX0_placeAt, .code yX0_placeAt cX0_placeAt 2 (some .int), .fieldLink RX0 15 "RelativeFiles$Shelf" "places" "[I"] ++ wsX10 ++ wsX00)
def wsX1_isPlace : List Cond := .code yX1_isPlace cX1_isPlace 2 (some .boolean) :: ([.fieldLink RX1 19 "RelativeFiles" "most" "I"] ++ wsX10)
def wsX1_isTooLong : List Cond := .code yX1_isTooLong cX1_isTooLong 4 (some .boolean) :: ([.fieldLink RX1 52 "RelativeFiles" "keyDigits" "I"] ++ wsX10)
def wsX1_write_r1 : List Cond := [Cond.fieldLink RX1 36 "RelativeFiles" "openMode" "I", Cond.fieldLink RX1 45 "RelativeFiles" "lastRead" "I", Cond.fieldLink RX1 28 "RelativeFiles" "shelf" "LRelativeFiles$Shelf;", Cond.fieldLink RX1 48 "RelativeFiles" "lastValue" "J", Cond.methodLink RX1 63 yX1_placeInOrder, Cond.instanceMethod yX1_placeInOrder, Cond.selects RX1 yX1_placeInOrder yX1_placeInOrder, Cond.initialized RX1, Cond.code yX1_placeInOrder cX1_placeInOrder 1 (some .int), Cond.methodLink RX1 127 yX0_greatest, Cond.instanceMethod yX0_greatest, Cond.selects RX0 yX0_greatest yX0_greatest, Cond.initialized RX0, Cond.code yX0_greatest cX0_greatest 1 (some .int), Cond.fieldLink RX0 25 "RelativeFiles$Shelf" "held" "I", Cond.methodLink RX0 37 yX0_placeAt, Cond.instanceMethod yX0_placeAt, Cond.selects RX0 yX0_placeAt yX0_placeAt, Cond.code yX0_placeAt cX0_placeAt 2 (some .int), Cond.fieldLink RX0 15 "RelativeFiles$Shelf" "places" "[I", Cond.methodLink RX1 66 yX1_isPlace, Cond.instanceMethod yX1_isPlace, Cond.selects RX1 yX1_isPlace yX1_isPlace, Cond.code yX1_isPlace cX1_isPlace 2 (some .boolean)]
def wsX1_write_r2 : List Cond := [Cond.fieldLink RX1 19 "RelativeFiles" "most" "I", Cond.methodLink RX1 70 yX1_isTooLong, Cond.instanceMethod yX1_isTooLong, Cond.selects RX1 yX1_isTooLong yX1_isTooLong, Cond.code yX1_isTooLong cX1_isTooLong 4 (some .boolean), Cond.fieldLink RX1 52 "RelativeFiles" "keyDigits" "I", Cond.methodLink RX1 73 yX0_has, Cond.instanceMethod yX0_has, Cond.selects RX0 yX0_has yX0_has, Cond.code yX0_has cX0_has 2 (some .boolean), Cond.methodLink RX0 29 yX0_rank, Cond.instanceMethod yX0_rank, Cond.selects RX0 yX0_rank yX0_rank, Cond.code yX0_rank cX0_rank 3 (some .int), Cond.methodLink RX0 33 yX0_isAt, Cond.instanceMethod yX0_isAt, Cond.selects RX0 yX0_isAt yX0_isAt, Cond.code yX0_isAt cX0_isAt 3 (some .boolean), Cond.methodLink RX1 76 yX0_add, Cond.instanceMethod yX0_add, Cond.selects RX0 yX0_add yX0_add, Cond.code yX0_add cX0_add 6 (some .boolean), Cond.fieldLink RX0 21 "RelativeFiles$Shelf" "values" "[J"]
def wsX1_write : List Cond := .code yX1_write cX1_write 5 (some .int) :: ((wsX1_write_r1 ++ wsX1_write_r2) ++ wsX10 ++ wsX00)
def wsX1_refusalToRead : List Cond := .code yX1_refusalToRead cX1_refusalToRead 1 (some .int) :: ([.fieldLink RX1 36 "RelativeFiles" "openMode" "I"] ++ wsX10)
def wsX1_losePosition : List Cond := .code yX1_losePosition cX1_losePosition 1 none :: ([.methodLink RX1 92 yX1_stand, .instanceMethod yX1_stand, .selects RX1 yX1_stand yX1_stand, .initialized RX1, .code yX1_stand cX1_stand 3 none, .fieldLink RX1 39 "RelativeFiles" "standing" "I", .fieldLink RX1 42 "RelativeFiles" "position" "I", .fieldLink RX1 45 "RelativeFiles" "lastRead" "I"] ++ wsX10)
def wsX1_take_r1 : List Cond := [Cond.fieldLink RX1 45 "RelativeFiles" "lastRead" "I", Cond.fieldLink RX1 28 "RelativeFiles" "shelf" "LRelativeFiles$Shelf;", Cond.fieldLink RX1 48 "RelativeFiles" "lastValue" "J", Cond.methodLink RX1 92 yX1_stand, Cond.instanceMethod yX1_stand, Cond.selects RX1 yX1_stand yX1_stand, Cond.initialized RX1, Cond.code yX1_stand cX1_stand 3 none, Cond.fieldLink RX1 39 "RelativeFiles" "standing" "I", Cond.fieldLink RX1 42 "RelativeFiles" "position" "I", Cond.methodLink RX1 120 yX0_recordOf, Cond.instanceMethod yX0_recordOf, Cond.selects RX0 yX0_recordOf yX0_recordOf, Cond.initialized RX0, Cond.code yX0_recordOf cX0_recordOf 3 (some .long), Cond.fieldLink RX0 21 "RelativeFiles$Shelf" "values" "[J", Cond.methodLink RX0 29 yX0_rank, Cond.instanceMethod yX0_rank, Cond.selects RX0 yX0_rank yX0_rank, Cond.code yX0_rank cX0_rank 3 (some .int), Cond.fieldLink RX0 25 "RelativeFiles$Shelf" "held" "I", Cond.fieldLink RX0 15 "RelativeFiles$Shelf" "places" "[I", Cond.methodLink RX0 33 yX0_isAt, Cond.instanceMethod yX0_isAt]
def wsX1_take_r2 : List Cond := [Cond.selects RX0 yX0_isAt yX0_isAt, Cond.code yX0_isAt cX0_isAt 3 (some .boolean)]
def wsX1_take : List Cond := .code yX1_take cX1_take 2 none :: ((wsX1_take_r1 ++ wsX1_take_r2) ++ wsX10 ++ wsX00)
def wsX1_read_r1 : List Cond := [Cond.fieldLink RX1 28 "RelativeFiles" "shelf" "LRelativeFiles$Shelf;", Cond.methodLink RX1 80 yX1_refusalToRead, Cond.instanceMethod yX1_refusalToRead, Cond.selects RX1 yX1_refusalToRead yX1_refusalToRead, Cond.initialized RX1, Cond.code yX1_refusalToRead cX1_refusalToRead 1 (some .int), Cond.fieldLink RX1 36 "RelativeFiles" "openMode" "I", Cond.methodLink RX1 73 yX0_has, Cond.instanceMethod yX0_has, Cond.selects RX0 yX0_has yX0_has, Cond.initialized RX0, Cond.code yX0_has cX0_has 2 (some .boolean), Cond.methodLink RX0 29 yX0_rank, Cond.instanceMethod yX0_rank, Cond.selects RX0 yX0_rank yX0_rank, Cond.code yX0_rank cX0_rank 3 (some .int), Cond.fieldLink RX0 25 "RelativeFiles$Shelf" "held" "I", Cond.fieldLink RX0 15 "RelativeFiles$Shelf" "places" "[I", Cond.methodLink RX0 33 yX0_isAt, Cond.instanceMethod yX0_isAt, Cond.selects RX0 yX0_isAt yX0_isAt, Cond.code yX0_isAt cX0_isAt 3 (some .boolean), Cond.methodLink RX1 83 yX1_losePosition, Cond.instanceMethod yX1_losePosition]
def wsX1_read_r2 : List Cond := [Cond.selects RX1 yX1_losePosition yX1_losePosition, Cond.code yX1_losePosition cX1_losePosition 1 none, Cond.methodLink RX1 92 yX1_stand, Cond.instanceMethod yX1_stand, Cond.selects RX1 yX1_stand yX1_stand, Cond.code yX1_stand cX1_stand 3 none, Cond.fieldLink RX1 39 "RelativeFiles" "standing" "I", Cond.fieldLink RX1 42 "RelativeFiles" "position" "I", Cond.fieldLink RX1 45 "RelativeFiles" "lastRead" "I", Cond.methodLink RX1 86 yX1_take, Cond.instanceMethod yX1_take, Cond.selects RX1 yX1_take yX1_take, Cond.code yX1_take cX1_take 2 none, Cond.fieldLink RX1 48 "RelativeFiles" "lastValue" "J", Cond.methodLink RX1 120 yX0_recordOf, Cond.instanceMethod yX0_recordOf, Cond.selects RX0 yX0_recordOf yX0_recordOf, Cond.code yX0_recordOf cX0_recordOf 3 (some .long), Cond.fieldLink RX0 21 "RelativeFiles$Shelf" "values" "[J"]
def wsX1_read : List Cond := .code yX1_read cX1_read 3 (some .int) :: ((wsX1_read_r1 ++ wsX1_read_r2) ++ wsX10 ++ wsX00)
def wsX1_value : List Cond := .code yX1_value cX1_value 1 (some .long) :: ([.fieldLink RX1 48 "RelativeFiles" "lastValue" "J"] ++ wsX10)
def wsX1_placeToStart_r1 : List Cond := [Cond.fieldLink RX1 28 "RelativeFiles" "shelf" "LRelativeFiles$Shelf;", Cond.methodLink RX1 73 yX0_has, Cond.instanceMethod yX0_has, Cond.selects RX0 yX0_has yX0_has, Cond.initialized RX0, Cond.code yX0_has cX0_has 2 (some .boolean), Cond.methodLink RX0 29 yX0_rank, Cond.instanceMethod yX0_rank, Cond.selects RX0 yX0_rank yX0_rank, Cond.code yX0_rank cX0_rank 3 (some .int), Cond.fieldLink RX0 25 "RelativeFiles$Shelf" "held" "I", Cond.fieldLink RX0 15 "RelativeFiles$Shelf" "places" "[I", Cond.methodLink RX0 33 yX0_isAt, Cond.instanceMethod yX0_isAt, Cond.selects RX0 yX0_isAt yX0_isAt, Cond.code yX0_isAt cX0_isAt 3 (some .boolean), Cond.methodLink RX1 136 yX0_firstAbove, Cond.instanceMethod yX0_firstAbove, Cond.selects RX0 yX0_firstAbove yX0_firstAbove, Cond.code yX0_firstAbove cX0_firstAbove 3 (some .int), Cond.methodLink RX0 37 yX0_placeAt, Cond.instanceMethod yX0_placeAt, Cond.selects RX0 yX0_placeAt yX0_placeAt, Cond.code yX0_placeAt cX0_placeAt 2 (some .int)]
def wsX1_placeToStart_r2 : List Cond := [Cond.methodLink RX1 139 yX0_lastBelow, Cond.instanceMethod yX0_lastBelow, Cond.selects RX0 yX0_lastBelow yX0_lastBelow, Cond.code yX0_lastBelow cX0_lastBelow 2 (some .int)]
def wsX1_placeToStart : List Cond := .code yX1_placeToStart cX1_placeToStart 3 (some .int) :: ((wsX1_placeToStart_r1 ++ wsX1_placeToStart_r2) ++ wsX10 ++ wsX00)
def wsX1_start_r1 : List Cond := [Cond.methodLink RX1 80 yX1_refusalToRead, Cond.instanceMethod yX1_refusalToRead, Cond.selects RX1 yX1_refusalToRead yX1_refusalToRead, Cond.initialized RX1, Cond.code yX1_refusalToRead cX1_refusalToRead 1 (some .int), Cond.fieldLink RX1 36 "RelativeFiles" "openMode" "I", Cond.methodLink RX1 89 yX1_placeToStart, Cond.instanceMethod yX1_placeToStart, Cond.selects RX1 yX1_placeToStart yX1_placeToStart, Cond.code yX1_placeToStart cX1_placeToStart 3 (some .int), Cond.fieldLink RX1 28 "RelativeFiles" "shelf" "LRelativeFiles$Shelf;", Cond.methodLink RX1 73 yX0_has, Cond.instanceMethod yX0_has, Cond.selects RX0 yX0_has yX0_has, Cond.initialized RX0, Cond.code yX0_has cX0_has 2 (some .boolean), Cond.methodLink RX0 29 yX0_rank, Cond.instanceMethod yX0_rank, Cond.selects RX0 yX0_rank yX0_rank, Cond.code yX0_rank cX0_rank 3 (some .int), Cond.fieldLink RX0 25 "RelativeFiles$Shelf" "held" "I", Cond.fieldLink RX0 15 "RelativeFiles$Shelf" "places" "[I", Cond.methodLink RX0 33 yX0_isAt, Cond.instanceMethod yX0_isAt]
def wsX1_start_r2 : List Cond := [Cond.selects RX0 yX0_isAt yX0_isAt, Cond.code yX0_isAt cX0_isAt 3 (some .boolean), Cond.methodLink RX1 136 yX0_firstAbove, Cond.instanceMethod yX0_firstAbove, Cond.selects RX0 yX0_firstAbove yX0_firstAbove, Cond.code yX0_firstAbove cX0_firstAbove 3 (some .int), Cond.methodLink RX0 37 yX0_placeAt, Cond.instanceMethod yX0_placeAt, Cond.selects RX0 yX0_placeAt yX0_placeAt, Cond.code yX0_placeAt cX0_placeAt 2 (some .int), Cond.methodLink RX1 139 yX0_lastBelow, Cond.instanceMethod yX0_lastBelow, Cond.selects RX0 yX0_lastBelow yX0_lastBelow, Cond.code yX0_lastBelow cX0_lastBelow 2 (some .int), Cond.methodLink RX1 83 yX1_losePosition, Cond.instanceMethod yX1_losePosition, Cond.selects RX1 yX1_losePosition yX1_losePosition, Cond.code yX1_losePosition cX1_losePosition 1 none, Cond.methodLink RX1 92 yX1_stand, Cond.instanceMethod yX1_stand, Cond.selects RX1 yX1_stand yX1_stand, Cond.code yX1_stand cX1_stand 3 none, Cond.fieldLink RX1 39 "RelativeFiles" "standing" "I", Cond.fieldLink RX1 42 "RelativeFiles" "position" "I"]
def wsX1_start_r3 : List Cond := [Cond.fieldLink RX1 45 "RelativeFiles" "lastRead" "I"]
def wsX1_start : List Cond := .code yX1_start cX1_start 5 (some .int) :: ((wsX1_start_r1 ++ (wsX1_start_r2 ++ wsX1_start_r3)) ++ wsX10 ++ wsX00)
def wsX1_placeFromPosition_r1 : List Cond := [Cond.fieldLink RX1 39 "RelativeFiles" "standing" "I", Cond.fieldLink RX1 28 "RelativeFiles" "shelf" "LRelativeFiles$Shelf;", Cond.fieldLink RX1 42 "RelativeFiles" "position" "I", Cond.methodLink RX1 73 yX0_has, Cond.instanceMethod yX0_has, Cond.selects RX0 yX0_has yX0_has, Cond.initialized RX0, Cond.code yX0_has cX0_has 2 (some .boolean), Cond.methodLink RX0 29 yX0_rank, Cond.instanceMethod yX0_rank, Cond.selects RX0 yX0_rank yX0_rank, Cond.code yX0_rank cX0_rank 3 (some .int), Cond.fieldLink RX0 25 "RelativeFiles$Shelf" "held" "I", Cond.fieldLink RX0 15 "RelativeFiles$Shelf" "places" "[I", Cond.methodLink RX0 33 yX0_isAt, Cond.instanceMethod yX0_isAt, Cond.selects RX0 yX0_isAt yX0_isAt, Cond.code yX0_isAt cX0_isAt 3 (some .boolean), Cond.methodLink RX1 139 yX0_lastBelow, Cond.instanceMethod yX0_lastBelow, Cond.selects RX0 yX0_lastBelow yX0_lastBelow, Cond.code yX0_lastBelow cX0_lastBelow 2 (some .int), Cond.methodLink RX0 37 yX0_placeAt, Cond.instanceMethod yX0_placeAt]
def wsX1_placeFromPosition_r2 : List Cond := [Cond.selects RX0 yX0_placeAt yX0_placeAt, Cond.code yX0_placeAt cX0_placeAt 2 (some .int), Cond.methodLink RX1 136 yX0_firstAbove, Cond.instanceMethod yX0_firstAbove, Cond.selects RX0 yX0_firstAbove yX0_firstAbove, Cond.code yX0_firstAbove cX0_firstAbove 3 (some .int)]
def wsX1_placeFromPosition : List Cond := .code yX1_placeFromPosition cX1_placeFromPosition 2 (some .int) :: ((wsX1_placeFromPosition_r1 ++ wsX1_placeFromPosition_r2) ++ wsX10 ++ wsX00)
def wsX1_next_r1 : List Cond := [Cond.fieldLink RX1 39 "RelativeFiles" "standing" "I", Cond.fieldLink RX1 45 "RelativeFiles" "lastRead" "I", Cond.methodLink RX1 80 yX1_refusalToRead, Cond.instanceMethod yX1_refusalToRead, Cond.selects RX1 yX1_refusalToRead yX1_refusalToRead, Cond.initialized RX1, Cond.code yX1_refusalToRead cX1_refusalToRead 1 (some .int), Cond.fieldLink RX1 36 "RelativeFiles" "openMode" "I", Cond.methodLink RX1 96 yX1_placeFromPosition, Cond.instanceMethod yX1_placeFromPosition, Cond.selects RX1 yX1_placeFromPosition yX1_placeFromPosition, Cond.code yX1_placeFromPosition cX1_placeFromPosition 2 (some .int), Cond.fieldLink RX1 28 "RelativeFiles" "shelf" "LRelativeFiles$Shelf;", Cond.fieldLink RX1 42 "RelativeFiles" "position" "I", Cond.methodLink RX1 73 yX0_has, Cond.instanceMethod yX0_has, Cond.selects RX0 yX0_has yX0_has, Cond.initialized RX0, Cond.code yX0_has cX0_has 2 (some .boolean), Cond.methodLink RX0 29 yX0_rank, Cond.instanceMethod yX0_rank, Cond.selects RX0 yX0_rank yX0_rank, Cond.code yX0_rank cX0_rank 3 (some .int), Cond.fieldLink RX0 25 "RelativeFiles$Shelf" "held" "I"]
def wsX1_next_r2 : List Cond := [Cond.fieldLink RX0 15 "RelativeFiles$Shelf" "places" "[I", Cond.methodLink RX0 33 yX0_isAt, Cond.instanceMethod yX0_isAt, Cond.selects RX0 yX0_isAt yX0_isAt, Cond.code yX0_isAt cX0_isAt 3 (some .boolean), Cond.methodLink RX1 139 yX0_lastBelow, Cond.instanceMethod yX0_lastBelow, Cond.selects RX0 yX0_lastBelow yX0_lastBelow, Cond.code yX0_lastBelow cX0_lastBelow 2 (some .int), Cond.methodLink RX0 37 yX0_placeAt, Cond.instanceMethod yX0_placeAt, Cond.selects RX0 yX0_placeAt yX0_placeAt, Cond.code yX0_placeAt cX0_placeAt 2 (some .int), Cond.methodLink RX1 136 yX0_firstAbove, Cond.instanceMethod yX0_firstAbove, Cond.selects RX0 yX0_firstAbove yX0_firstAbove, Cond.code yX0_firstAbove cX0_firstAbove 3 (some .int), Cond.methodLink RX1 83 yX1_losePosition, Cond.instanceMethod yX1_losePosition, Cond.selects RX1 yX1_losePosition yX1_losePosition, Cond.code yX1_losePosition cX1_losePosition 1 none, Cond.methodLink RX1 92 yX1_stand, Cond.instanceMethod yX1_stand, Cond.selects RX1 yX1_stand yX1_stand]
def wsX1_next_r3 : List Cond := [Cond.code yX1_stand cX1_stand 3 none, Cond.methodLink RX1 70 yX1_isTooLong, Cond.instanceMethod yX1_isTooLong, Cond.selects RX1 yX1_isTooLong yX1_isTooLong, Cond.code yX1_isTooLong cX1_isTooLong 4 (some .boolean), Cond.fieldLink RX1 52 "RelativeFiles" "keyDigits" "I", Cond.methodLink RX1 86 yX1_take, Cond.instanceMethod yX1_take, Cond.selects RX1 yX1_take yX1_take, Cond.code yX1_take cX1_take 2 none, Cond.fieldLink RX1 48 "RelativeFiles" "lastValue" "J", Cond.methodLink RX1 120 yX0_recordOf, Cond.instanceMethod yX0_recordOf, Cond.selects RX0 yX0_recordOf yX0_recordOf, Cond.code yX0_recordOf cX0_recordOf 3 (some .long), Cond.fieldLink RX0 21 "RelativeFiles$Shelf" "values" "[J"]
def wsX1_next : List Cond := .code yX1_next cX1_next 4 (some .int) :: ((wsX1_next_r1 ++ (wsX1_next_r2 ++ wsX1_next_r3)) ++ wsX10 ++ wsX00)
def wsX1_placeToChange : List Cond := .code yX1_placeToChange cX1_placeToChange 2 (some .int) :: ([.fieldLink RX1 45 "RelativeFiles" "lastRead" "I"] ++ wsX10)
def wsX1_statusOfChange : List Cond := .code yX1_statusOfChange cX1_statusOfChange 3 (some .int) :: ([.fieldLink RX1 36 "RelativeFiles" "openMode" "I", .fieldLink RX1 45 "RelativeFiles" "lastRead" "I", .fieldLink RX1 28 "RelativeFiles" "shelf" "LRelativeFiles$Shelf;", .methodLink RX1 73 yX0_has, .instanceMethod yX0_has, .selects RX0 yX0_has yX0_has, .initialized RX0, .code yX0_has cX0_has 2 (some .boolean), .methodLink RX0 29 yX0_rank, .instanceMethod yX0_rank, .selects RX0 yX0_rank yX0_rank, .code yX0_rank cX0_rank 3 (some .int), .fieldLink RX0 25 "RelativeFiles$Shelf" "held" "I", .fieldLink RX0 15 "RelativeFiles$Shelf" "places" "[I", .methodLink RX0 33 yX0_isAt, .instanceMethod yX0_isAt, .selects RX0 yX0_isAt yX0_isAt, .code yX0_isAt cX0_isAt 3 (some .boolean)] ++ wsX10 ++ wsX00)
def wsX1_rewrite_r1 : List Cond := [Cond.fieldLink RX1 28 "RelativeFiles" "shelf" "LRelativeFiles$Shelf;", Cond.fieldLink RX1 48 "RelativeFiles" "lastValue" "J", Cond.methodLink RX1 100 yX1_placeToChange, Cond.instanceMethod yX1_placeToChange, Cond.selects RX1 yX1_placeToChange yX1_placeToChange, Cond.initialized RX1, Cond.code yX1_placeToChange cX1_placeToChange 2 (some .int), Cond.fieldLink RX1 45 "RelativeFiles" "lastRead" "I", Cond.methodLink RX1 103 yX1_statusOfChange, Cond.instanceMethod yX1_statusOfChange, Cond.selects RX1 yX1_statusOfChange yX1_statusOfChange, Cond.code yX1_statusOfChange cX1_statusOfChange 3 (some .int), Cond.fieldLink RX1 36 "RelativeFiles" "openMode" "I", Cond.methodLink RX1 73 yX0_has, Cond.instanceMethod yX0_has, Cond.selects RX0 yX0_has yX0_has, Cond.initialized RX0, Cond.code yX0_has cX0_has 2 (some .boolean), Cond.methodLink RX0 29 yX0_rank, Cond.instanceMethod yX0_rank, Cond.selects RX0 yX0_rank yX0_rank, Cond.code yX0_rank cX0_rank 3 (some .int), Cond.fieldLink RX0 25 "RelativeFiles$Shelf" "held" "I", Cond.fieldLink RX0 15 "RelativeFiles$Shelf" "places" "[I"]
def wsX1_rewrite_r2 : List Cond := [Cond.methodLink RX0 33 yX0_isAt, Cond.instanceMethod yX0_isAt, Cond.selects RX0 yX0_isAt yX0_isAt, Cond.code yX0_isAt cX0_isAt 3 (some .boolean), Cond.methodLink RX1 106 yX0_replace, Cond.instanceMethod yX0_replace, Cond.selects RX0 yX0_replace yX0_replace, Cond.code yX0_replace cX0_replace 5 none, Cond.fieldLink RX0 21 "RelativeFiles$Shelf" "values" "[J"]
def wsX1_rewrite : List Cond := .code yX1_rewrite cX1_rewrite 6 (some .int) :: ((wsX1_rewrite_r1 ++ wsX1_rewrite_r2) ++ wsX10 ++ wsX00)
def wsX1_remove_r1 : List Cond := [Cond.fieldLink RX1 28 "RelativeFiles" "shelf" "LRelativeFiles$Shelf;", Cond.methodLink RX1 100 yX1_placeToChange, Cond.instanceMethod yX1_placeToChange, Cond.selects RX1 yX1_placeToChange yX1_placeToChange, Cond.initialized RX1, Cond.code yX1_placeToChange cX1_placeToChange 2 (some .int), Cond.fieldLink RX1 45 "RelativeFiles" "lastRead" "I", Cond.methodLink RX1 103 yX1_statusOfChange, Cond.instanceMethod yX1_statusOfChange, Cond.selects RX1 yX1_statusOfChange yX1_statusOfChange, Cond.code yX1_statusOfChange cX1_statusOfChange 3 (some .int), Cond.fieldLink RX1 36 "RelativeFiles" "openMode" "I", Cond.methodLink RX1 73 yX0_has, Cond.instanceMethod yX0_has, Cond.selects RX0 yX0_has yX0_has, Cond.initialized RX0, Cond.code yX0_has cX0_has 2 (some .boolean), Cond.methodLink RX0 29 yX0_rank, Cond.instanceMethod yX0_rank, Cond.selects RX0 yX0_rank yX0_rank, Cond.code yX0_rank cX0_rank 3 (some .int), Cond.fieldLink RX0 25 "RelativeFiles$Shelf" "held" "I", Cond.fieldLink RX0 15 "RelativeFiles$Shelf" "places" "[I", Cond.methodLink RX0 33 yX0_isAt]
def wsX1_remove_r2 : List Cond := [Cond.instanceMethod yX0_isAt, Cond.selects RX0 yX0_isAt yX0_isAt, Cond.code yX0_isAt cX0_isAt 3 (some .boolean), Cond.methodLink RX1 110 yX0_drop, Cond.instanceMethod yX0_drop, Cond.selects RX0 yX0_drop yX0_drop, Cond.code yX0_drop cX0_drop 4 none, Cond.fieldLink RX0 21 "RelativeFiles$Shelf" "values" "[J"]
def wsX1_remove : List Cond := .code yX1_remove cX1_remove 4 (some .int) :: ((wsX1_remove_r1 ++ wsX1_remove_r2) ++ wsX10 ++ wsX00)
def wsX1_number : List Cond := .code yX1_number cX1_number 1 (some .int) :: ([.fieldLink RX1 45 "RelativeFiles" "lastRead" "I"] ++ wsX10)
def wsX1_cell_r1 : List Cond := [Cond.classLink RX1 113 RJx00060, Cond.instantiable RJx00060 6, Cond.initialized RJx00060, Cond.fieldLink RX1 28 "RelativeFiles" "shelf" "LRelativeFiles$Shelf;", Cond.methodLink RX1 66 yX1_isPlace, Cond.instanceMethod yX1_isPlace, Cond.selects RX1 yX1_isPlace yX1_isPlace, Cond.initialized RX1, Cond.code yX1_isPlace cX1_isPlace 2 (some .boolean), Cond.fieldLink RX1 19 "RelativeFiles" "most" "I", Cond.methodLink RX1 120 yX0_recordOf, Cond.instanceMethod yX0_recordOf, Cond.selects RX0 yX0_recordOf yX0_recordOf, Cond.initialized RX0, Cond.code yX0_recordOf cX0_recordOf 3 (some .long), Cond.fieldLink RX0 21 "RelativeFiles$Shelf" "values" "[J", Cond.methodLink RX0 29 yX0_rank, Cond.instanceMethod yX0_rank, Cond.selects RX0 yX0_rank yX0_rank, Cond.code yX0_rank cX0_rank 3 (some .int), Cond.fieldLink RX0 25 "RelativeFiles$Shelf" "held" "I", Cond.fieldLink RX0 15 "RelativeFiles$Shelf" "places" "[I", Cond.methodLink RX0 33 yX0_isAt, Cond.instanceMethod yX0_isAt]
def wsX1_cell_r2 : List Cond := [Cond.selects RX0 yX0_isAt yX0_isAt, Cond.code yX0_isAt cX0_isAt 3 (some .boolean)]
def wsX1_cell : List Cond := .code yX1_cell cX1_cell 2 (some .long) :: ((wsX1_cell_r1 ++ wsX1_cell_r2) ++ wsJx000600 ++ wsX10 ++ wsX00)
def wsX1_records : List Cond := .code yX1_records cX1_records 1 (some .int) :: ([.fieldLink RX1 28 "RelativeFiles" "shelf" "LRelativeFiles$Shelf;", .methodLink RX1 124 yX0_size, .instanceMethod yX0_size, .selects RX0 yX0_size yX0_size, .initialized RX0, .code yX0_size cX0_size 1 (some .int), .fieldLink RX0 25 "RelativeFiles$Shelf" "held" "I"] ++ wsX10 ++ wsX00)
def wsX1_digits : List Cond := .code yX1_digits cX1_digits 3 (some .int) :: ([.fieldLink RX1 52 "RelativeFiles" "keyDigits" "I"] ++ wsX10)
def wsX1_count : List Cond := .code yX1_count cX1_count 2 (some .int) :: ([.fieldLink RX1 19 "RelativeFiles" "most" "I", .fieldLink RX1 32 "RelativeFiles" "there" "Z", .fieldLink RX1 36 "RelativeFiles" "openMode" "I", .fieldLink RX1 28 "RelativeFiles" "shelf" "LRelativeFiles$Shelf;", .methodLink RX1 127 yX0_greatest, .instanceMethod yX0_greatest, .selects RX0 yX0_greatest yX0_greatest, .initialized RX0, .code yX0_greatest cX0_greatest 1 (some .int), .fieldLink RX0 25 "RelativeFiles$Shelf" "held" "I", .methodLink RX0 37 yX0_placeAt, .instanceMethod yX0_placeAt, .selects RX0 yX0_placeAt yX0_placeAt, .code yX0_placeAt cX0_placeAt 2 (some .int), .fieldLink RX0 15 "RelativeFiles$Shelf" "places" "[I", .methodLink RX1 130 yX0_least, .instanceMethod yX0_least, .selects RX0 yX0_least yX0_least, .code yX0_least cX0_least 1 (some .int)] ++ wsX10 ++ wsX00)
def wsX2_init : List Cond := .code yX2_init cX2_init 2 none :: ([.methodLink RX2 1 objectInit, .instanceMethod objectInit, .code objectInit ⟨#[0xb1]⟩ 1 none, .arrayClass .int, .fieldLink RX2 7 "RelativeFilesModel" "numbers" "[I", .arrayClass .long, .fieldLink RX2 13 "RelativeFilesModel" "values" "[J", .fieldLink RX2 17 "RelativeFilesModel" "mode" "I", .fieldLink RX2 21 "RelativeFilesModel" "digits" "I", .constant RX2 24 (65536), .fieldLink RX2 25 "RelativeFilesModel" "most" "I"] ++ wsX20)
def wsX2_thrown : List Cond := .code yX2_thrown cX2_thrown 1 (some .int) :: ([.fieldLink RX2 28 "RelativeFilesModel" "code" "I"] ++ wsX20)
def wsX2_find : List Cond := .code yX2_find cX2_find 4 (some .int) :: ([.fieldLink RX2 31 "RelativeFilesModel" "size" "I", .fieldLink RX2 7 "RelativeFilesModel" "numbers" "[I"] ++ wsX20)
def wsX2_from : List Cond := .code yX2_from cX2_from 5 (some .int) :: ([.fieldLink RX2 31 "RelativeFilesModel" "size" "I", .fieldLink RX2 7 "RelativeFilesModel" "numbers" "[I"] ++ wsX20)
def wsX2_upTo : List Cond := .code yX2_upTo cX2_upTo 5 (some .int) :: ([.fieldLink RX2 31 "RelativeFilesModel" "size" "I", .fieldLink RX2 7 "RelativeFilesModel" "numbers" "[I"] ++ wsX20)
def wsX2_isLong : List Cond := .code yX2_isLong cX2_isLong 5 (some .boolean) :: ([.fieldLink RX2 21 "RelativeFilesModel" "digits" "I", .constantLong RX2 34 (10)] ++ wsX20)
def wsX2_isPlace : List Cond := .code yX2_isPlace cX2_isPlace 2 (some .boolean) :: ([.fieldLink RX2 25 "RelativeFilesModel" "most" "I"] ++ wsX20)
def wsX2_reads : List Cond := .code yX2_reads cX2_reads 1 (some .boolean) :: ([.fieldLink RX2 17 "RelativeFilesModel" "mode" "I"] ++ wsX20)
def wsX2_open : List Cond := .code yX2_open cX2_open 3 (some .int) :: ([.fieldLink RX2 28 "RelativeFilesModel" "code" "I", .fieldLink RX2 17 "RelativeFilesModel" "mode" "I", .fieldLink RX2 36 "RelativeFilesModel" "last" "I", .fieldLink RX2 39 "RelativeFilesModel" "there" "Z", .fieldLink RX2 31 "RelativeFilesModel" "size" "I", .fieldLink RX2 43 "RelativeFilesModel" "position" "I", .fieldLink RX2 46 "RelativeFilesModel" "ended" "Z"] ++ wsX20)
def wsX2_add : List Cond := .code yX2_add cX2_add 4 none :: ([.fieldLink RX2 7 "RelativeFilesModel" "numbers" "[I", .fieldLink RX2 31 "RelativeFilesModel" "size" "I", .fieldLink RX2 13 "RelativeFilesModel" "values" "[J", .fieldLink RX2 49 "RelativeFilesModel" "value" "J"] ++ wsX20)
def wsX2_write_r1 : List Cond := [Cond.fieldLink RX2 28 "RelativeFilesModel" "code" "I", Cond.fieldLink RX2 17 "RelativeFilesModel" "mode" "I", Cond.fieldLink RX2 36 "RelativeFilesModel" "last" "I", Cond.fieldLink RX2 25 "RelativeFilesModel" "most" "I", Cond.methodLink RX2 53 yX2_upTo, Cond.instanceMethod yX2_upTo, Cond.selects RX2 yX2_upTo yX2_upTo, Cond.initialized RX2, Cond.code yX2_upTo cX2_upTo 5 (some .int), Cond.fieldLink RX2 31 "RelativeFilesModel" "size" "I", Cond.fieldLink RX2 7 "RelativeFilesModel" "numbers" "[I", Cond.methodLink RX2 57 yX2_isPlace, Cond.instanceMethod yX2_isPlace, Cond.selects RX2 yX2_isPlace yX2_isPlace, Cond.code yX2_isPlace cX2_isPlace 2 (some .boolean), Cond.methodLink RX2 61 yX2_isLong, Cond.instanceMethod yX2_isLong, Cond.selects RX2 yX2_isLong yX2_isLong, Cond.code yX2_isLong cX2_isLong 5 (some .boolean), Cond.fieldLink RX2 21 "RelativeFilesModel" "digits" "I", Cond.constantLong RX2 34 (10), Cond.methodLink RX2 64 yX2_find, Cond.instanceMethod yX2_find, Cond.selects RX2 yX2_find yX2_find]
def wsX2_write_r2 : List Cond := [Cond.code yX2_find cX2_find 4 (some .int), Cond.methodLink RX2 68 yX2_add, Cond.instanceMethod yX2_add, Cond.selects RX2 yX2_add yX2_add, Cond.code yX2_add cX2_add 4 none, Cond.fieldLink RX2 13 "RelativeFilesModel" "values" "[J", Cond.fieldLink RX2 49 "RelativeFilesModel" "value" "J"]
def wsX2_write : List Cond := .code yX2_write cX2_write 5 (some .int) :: ((wsX2_write_r1 ++ wsX2_write_r2) ++ wsX20)
def wsX2_take : List Cond := .code yX2_take cX2_take 2 none :: ([.fieldLink RX2 43 "RelativeFilesModel" "position" "I", .fieldLink RX2 72 "RelativeFilesModel" "place" "I", .fieldLink RX2 36 "RelativeFilesModel" "last" "I", .fieldLink RX2 13 "RelativeFilesModel" "values" "[J", .fieldLink RX2 49 "RelativeFilesModel" "value" "J", .methodLink RX2 64 yX2_find, .instanceMethod yX2_find, .selects RX2 yX2_find yX2_find, .initialized RX2, .code yX2_find cX2_find 4 (some .int), .fieldLink RX2 31 "RelativeFilesModel" "size" "I", .fieldLink RX2 7 "RelativeFilesModel" "numbers" "[I"] ++ wsX20)
def wsX2_read : List Cond := .code yX2_read cX2_read 2 (some .int) :: ([.fieldLink RX2 28 "RelativeFilesModel" "code" "I", .fieldLink RX2 17 "RelativeFilesModel" "mode" "I", .fieldLink RX2 36 "RelativeFilesModel" "last" "I", .fieldLink RX2 46 "RelativeFilesModel" "ended" "Z", .fieldLink RX2 43 "RelativeFilesModel" "position" "I", .methodLink RX2 75 yX2_reads, .instanceMethod yX2_reads, .selects RX2 yX2_reads yX2_reads, .initialized RX2, .code yX2_reads cX2_reads 1 (some .boolean), .methodLink RX2 64 yX2_find, .instanceMethod yX2_find, .selects RX2 yX2_find yX2_find, .code yX2_find cX2_find 4 (some .int), .fieldLink RX2 31 "RelativeFilesModel" "size" "I", .fieldLink RX2 7 "RelativeFilesModel" "numbers" "[I", .methodLink RX2 79 yX2_take, .instanceMethod yX2_take, .selects RX2 yX2_take yX2_take, .code yX2_take cX2_take 2 none, .fieldLink RX2 72 "RelativeFilesModel" "place" "I", .fieldLink RX2 13 "RelativeFilesModel" "values" "[J", .fieldLink RX2 49 "RelativeFilesModel" "value" "J"] ++ wsX20)
def wsX2_value : List Cond := .code yX2_value cX2_value 1 (some .long) :: ([.fieldLink RX2 28 "RelativeFilesModel" "code" "I", .fieldLink RX2 49 "RelativeFilesModel" "value" "J"] ++ wsX20)
def wsX2_start_r1 : List Cond := [Cond.fieldLink RX2 28 "RelativeFilesModel" "code" "I", Cond.fieldLink RX2 17 "RelativeFilesModel" "mode" "I", Cond.fieldLink RX2 36 "RelativeFilesModel" "last" "I", Cond.fieldLink RX2 46 "RelativeFilesModel" "ended" "Z", Cond.fieldLink RX2 43 "RelativeFilesModel" "position" "I", Cond.fieldLink RX2 72 "RelativeFilesModel" "place" "I", Cond.methodLink RX2 75 yX2_reads, Cond.instanceMethod yX2_reads, Cond.selects RX2 yX2_reads yX2_reads, Cond.initialized RX2, Cond.code yX2_reads cX2_reads 1 (some .boolean), Cond.methodLink RX2 64 yX2_find, Cond.instanceMethod yX2_find, Cond.selects RX2 yX2_find yX2_find, Cond.code yX2_find cX2_find 4 (some .int), Cond.fieldLink RX2 31 "RelativeFilesModel" "size" "I", Cond.fieldLink RX2 7 "RelativeFilesModel" "numbers" "[I", Cond.methodLink RX2 83 yX2_from, Cond.instanceMethod yX2_from, Cond.selects RX2 yX2_from yX2_from, Cond.code yX2_from cX2_from 5 (some .int), Cond.methodLink RX2 53 yX2_upTo, Cond.instanceMethod yX2_upTo, Cond.selects RX2 yX2_upTo yX2_upTo]
def wsX2_start_r2 : List Cond := [Cond.code yX2_upTo cX2_upTo 5 (some .int)]
def wsX2_start : List Cond := .code yX2_start cX2_start 4 (some .int) :: ((wsX2_start_r1 ++ wsX2_start_r2) ++ wsX20)
def wsX2_next_r1 : List Cond := [Cond.fieldLink RX2 28 "RelativeFilesModel" "code" "I", Cond.fieldLink RX2 17 "RelativeFilesModel" "mode" "I", Cond.fieldLink RX2 36 "RelativeFilesModel" "last" "I", Cond.fieldLink RX2 43 "RelativeFilesModel" "position" "I", Cond.fieldLink RX2 46 "RelativeFilesModel" "ended" "Z", Cond.fieldLink RX2 72 "RelativeFilesModel" "place" "I", Cond.methodLink RX2 75 yX2_reads, Cond.instanceMethod yX2_reads, Cond.selects RX2 yX2_reads yX2_reads, Cond.initialized RX2, Cond.code yX2_reads cX2_reads 1 (some .boolean), Cond.methodLink RX2 53 yX2_upTo, Cond.instanceMethod yX2_upTo, Cond.selects RX2 yX2_upTo yX2_upTo, Cond.code yX2_upTo cX2_upTo 5 (some .int), Cond.fieldLink RX2 31 "RelativeFilesModel" "size" "I", Cond.fieldLink RX2 7 "RelativeFilesModel" "numbers" "[I", Cond.methodLink RX2 83 yX2_from, Cond.instanceMethod yX2_from, Cond.selects RX2 yX2_from yX2_from, Cond.code yX2_from cX2_from 5 (some .int), Cond.methodLink RX2 61 yX2_isLong, Cond.instanceMethod yX2_isLong, Cond.selects RX2 yX2_isLong yX2_isLong]
def wsX2_next_r2 : List Cond := [Cond.code yX2_isLong cX2_isLong 5 (some .boolean), Cond.fieldLink RX2 21 "RelativeFilesModel" "digits" "I", Cond.constantLong RX2 34 (10), Cond.methodLink RX2 79 yX2_take, Cond.instanceMethod yX2_take, Cond.selects RX2 yX2_take yX2_take, Cond.code yX2_take cX2_take 2 none, Cond.fieldLink RX2 13 "RelativeFilesModel" "values" "[J", Cond.fieldLink RX2 49 "RelativeFilesModel" "value" "J", Cond.methodLink RX2 64 yX2_find, Cond.instanceMethod yX2_find, Cond.selects RX2 yX2_find yX2_find, Cond.code yX2_find cX2_find 4 (some .int)]
def wsX2_next : List Cond := .code yX2_next cX2_next 5 (some .int) :: ((wsX2_next_r1 ++ wsX2_next_r2) ++ wsX20)
def wsX2_meant : List Cond := .code yX2_meant cX2_meant 2 (some .int) :: ([.fieldLink RX2 36 "RelativeFilesModel" "last" "I", .methodLink RX2 64 yX2_find, .instanceMethod yX2_find, .selects RX2 yX2_find yX2_find, .initialized RX2, .code yX2_find cX2_find 4 (some .int), .fieldLink RX2 31 "RelativeFilesModel" "size" "I", .fieldLink RX2 7 "RelativeFilesModel" "numbers" "[I"] ++ wsX20)
def wsX2_rewrite : List Cond := .code yX2_rewrite cX2_rewrite 5 (some .int) :: ([.fieldLink RX2 28 "RelativeFilesModel" "code" "I", .fieldLink RX2 17 "RelativeFilesModel" "mode" "I", .fieldLink RX2 36 "RelativeFilesModel" "last" "I", .fieldLink RX2 13 "RelativeFilesModel" "values" "[J", .fieldLink RX2 49 "RelativeFilesModel" "value" "J", .methodLink RX2 86 yX2_meant, .instanceMethod yX2_meant, .selects RX2 yX2_meant yX2_meant, .initialized RX2, .code yX2_meant cX2_meant 2 (some .int), .methodLink RX2 64 yX2_find, .instanceMethod yX2_find, .selects RX2 yX2_find yX2_find, .code yX2_find cX2_find 4 (some .int), .fieldLink RX2 31 "RelativeFilesModel" "size" "I", .fieldLink RX2 7 "RelativeFilesModel" "numbers" "[I"] ++ wsX20)
def wsX2_remove : List Cond := .code yX2_remove cX2_remove 3 (some .int) :: ([.fieldLink RX2 28 "RelativeFilesModel" "code" "I", .fieldLink RX2 17 "RelativeFilesModel" "mode" "I", .fieldLink RX2 36 "RelativeFilesModel" "last" "I", .fieldLink RX2 31 "RelativeFilesModel" "size" "I", .fieldLink RX2 7 "RelativeFilesModel" "numbers" "[I", .fieldLink RX2 13 "RelativeFilesModel" "values" "[J", .methodLink RX2 86 yX2_meant, .instanceMethod yX2_meant, .selects RX2 yX2_meant yX2_meant, .initialized RX2, .code yX2_meant cX2_meant 2 (some .int), .methodLink RX2 64 yX2_find, .instanceMethod yX2_find, .selects RX2 yX2_find yX2_find, .code yX2_find cX2_find 4 (some .int)] ++ wsX20)
def wsX2_number : List Cond := .code yX2_number cX2_number 1 (some .int) :: ([.fieldLink RX2 28 "RelativeFilesModel" "code" "I", .fieldLink RX2 36 "RelativeFilesModel" "last" "I"] ++ wsX20)
def wsX2_cell : List Cond := .code yX2_cell cX2_cell 3 (some .long) :: ([.fieldLink RX2 28 "RelativeFilesModel" "code" "I", .fieldLink RX2 13 "RelativeFilesModel" "values" "[J", .methodLink RX2 57 yX2_isPlace, .instanceMethod yX2_isPlace, .selects RX2 yX2_isPlace yX2_isPlace, .initialized RX2, .code yX2_isPlace cX2_isPlace 2 (some .boolean), .fieldLink RX2 25 "RelativeFilesModel" "most" "I", .methodLink RX2 64 yX2_find, .instanceMethod yX2_find, .selects RX2 yX2_find yX2_find, .code yX2_find cX2_find 4 (some .int), .fieldLink RX2 31 "RelativeFilesModel" "size" "I", .fieldLink RX2 7 "RelativeFilesModel" "numbers" "[I"] ++ wsX20)
def wsX2_records : List Cond := .code yX2_records cX2_records 1 (some .int) :: ([.fieldLink RX2 28 "RelativeFilesModel" "code" "I", .fieldLink RX2 31 "RelativeFilesModel" "size" "I"] ++ wsX20)
def wsX2_digits : List Cond := .code yX2_digits cX2_digits 3 (some .int) :: ([.fieldLink RX2 28 "RelativeFilesModel" "code" "I", .fieldLink RX2 21 "RelativeFilesModel" "digits" "I"] ++ wsX20)
def wsX2_count : List Cond := .code yX2_count cX2_count 2 (some .int) :: ([.fieldLink RX2 28 "RelativeFilesModel" "code" "I", .fieldLink RX2 25 "RelativeFilesModel" "most" "I", .fieldLink RX2 39 "RelativeFilesModel" "there" "Z", .fieldLink RX2 17 "RelativeFilesModel" "mode" "I", .methodLink RX2 53 yX2_upTo, .instanceMethod yX2_upTo, .selects RX2 yX2_upTo yX2_upTo, .initialized RX2, .code yX2_upTo cX2_upTo 5 (some .int), .fieldLink RX2 31 "RelativeFilesModel" "size" "I", .fieldLink RX2 7 "RelativeFilesModel" "numbers" "[I", .methodLink RX2 83 yX2_from, .instanceMethod yX2_from, .selects RX2 yX2_from yX2_from, .code yX2_from cX2_from 5 (some .int)] ++ wsX20)
def wsJx00060_init_a7421 : List Cond := .code yJx00060_init_a7421 cJx00060_init_a7421 2 none :: ([])
def wsJ9_max_7cf53 : List Cond := .code yJ9_max_7cf53 cJ9_max_7cf53 2 (some .int) :: ([])
def wsJ9_min_7cf53 : List Cond := .code yJ9_min_7cf53 cJ9_min_7cf53 2 (some .int) :: ([])
def wsL_cell : List Cond := .code yL_cell cL_cell 2 (some .int) :: ([])
def wsL_cell__r1 : List Cond := [Cond.methodLink RL 7 yX1_cell, Cond.instanceMethod yX1_cell, Cond.selects RX1 yX1_cell yX1_cell, Cond.initialized RX1, Cond.code yX1_cell cX1_cell 2 (some .long), Cond.classLink RX1 113 RJx00060, Cond.instantiable RJx00060 6, Cond.initialized RJx00060, Cond.fieldLink RX1 28 "RelativeFiles" "shelf" "LRelativeFiles$Shelf;", Cond.methodLink RX1 66 yX1_isPlace, Cond.instanceMethod yX1_isPlace, Cond.selects RX1 yX1_isPlace yX1_isPlace, Cond.code yX1_isPlace cX1_isPlace 2 (some .boolean), Cond.fieldLink RX1 19 "RelativeFiles" "most" "I", Cond.methodLink RX1 120 yX0_recordOf, Cond.instanceMethod yX0_recordOf, Cond.selects RX0 yX0_recordOf yX0_recordOf, Cond.initialized RX0, Cond.code yX0_recordOf cX0_recordOf 3 (some .long), Cond.fieldLink RX0 21 "RelativeFiles$Shelf" "values" "[J", Cond.methodLink RX0 29 yX0_rank, Cond.instanceMethod yX0_rank, Cond.selects RX0 yX0_rank yX0_rank, Cond.code yX0_rank cX0_rank 3 (some .int)]
def wsL_cell__r2 : List Cond := [Cond.fieldLink RX0 25 "RelativeFiles$Shelf" "held" "I", Cond.fieldLink RX0 15 "RelativeFiles$Shelf" "places" "[I", Cond.methodLink RX0 33 yX0_isAt, Cond.instanceMethod yX0_isAt, Cond.selects RX0 yX0_isAt yX0_isAt, Cond.code yX0_isAt cX0_isAt 3 (some .boolean)]
def wsL_cell_ : List Cond := .codeWith yL_cell_ cL_cell_ 4 (some .int) [(0, 8, 11, 13)] :: ((wsL_cell__r1 ++ wsL_cell__r2) ++ wsJx000600 ++ wsX10 ++ wsX00)
def wsL_law_r1 : List Cond := [Cond.classLink RL 8 RX1, Cond.instantiable RX1 9, Cond.initialized RX1, Cond.classLink RL 23 RX2, Cond.instantiable RX2 13, Cond.initialized RX2, Cond.arrayClass .long, Cond.constantLong RL 31 (4294967295), Cond.methodLink RL 15 yL_cell, Cond.static yL_cell, Cond.initialized RL, Cond.code yL_cell cL_cell 2 (some .int), Cond.methodLink RL 20 yX1_init, Cond.instanceMethod yX1_init, Cond.code yX1_init cX1_init 2 none, Cond.methodLink RX1 1 objectInit, Cond.instanceMethod objectInit, Cond.code objectInit ⟨#[0xb1]⟩ 1 none, Cond.constant RX1 9 (65536), Cond.methodLink RX1 10 Lib.Math.min.name, Cond.static Lib.Math.min.name, Cond.initialized "java/lang/Math", Cond.code Lib.Math.min.name Lib.Math.min.code 2 (some .int), Cond.methodLink RX1 16 Lib.Math.max.name]
def wsL_law_r2 : List Cond := [Cond.static Lib.Math.max.name, Cond.code Lib.Math.max.name Lib.Math.max.code 2 (some .int), Cond.fieldLink RX1 19 "RelativeFiles" "most" "I", Cond.classLink RX1 23 RX0, Cond.instantiable RX0 3, Cond.initialized RX0, Cond.fieldLink RX1 28 "RelativeFiles" "shelf" "LRelativeFiles$Shelf;", Cond.fieldLink RX1 32 "RelativeFiles" "there" "Z", Cond.fieldLink RX1 36 "RelativeFiles" "openMode" "I", Cond.fieldLink RX1 39 "RelativeFiles" "standing" "I", Cond.fieldLink RX1 42 "RelativeFiles" "position" "I", Cond.fieldLink RX1 45 "RelativeFiles" "lastRead" "I", Cond.fieldLink RX1 48 "RelativeFiles" "lastValue" "J", Cond.fieldLink RX1 52 "RelativeFiles" "keyDigits" "I", Cond.methodLink RX1 25 yX0_init, Cond.instanceMethod yX0_init, Cond.code yX0_init cX0_init 3 none, Cond.methodLink RX0 3 objectInit, Cond.methodLink RX0 9 Lib.Math.max.name, Cond.arrayClass .int, Cond.fieldLink RX0 15 "RelativeFiles$Shelf" "places" "[I", Cond.fieldLink RX0 21 "RelativeFiles$Shelf" "values" "[J", Cond.fieldLink RX0 25 "RelativeFiles$Shelf" "held" "I", Cond.methodLink RL 25 yX2_init]
def wsL_law_r3 : List Cond := [Cond.instanceMethod yX2_init, Cond.code yX2_init cX2_init 2 none, Cond.methodLink RX2 1 objectInit, Cond.fieldLink RX2 7 "RelativeFilesModel" "numbers" "[I", Cond.fieldLink RX2 13 "RelativeFilesModel" "values" "[J", Cond.fieldLink RX2 17 "RelativeFilesModel" "mode" "I", Cond.fieldLink RX2 21 "RelativeFilesModel" "digits" "I", Cond.constant RX2 24 (65536), Cond.fieldLink RX2 25 "RelativeFilesModel" "most" "I", Cond.methodLink RL 26 yX1_open, Cond.instanceMethod yX1_open, Cond.selects RX1 yX1_open yX1_open, Cond.code yX1_open cX1_open 2 (some .int), Cond.methodLink RX1 55 yX1_closeFile, Cond.instanceMethod yX1_closeFile, Cond.selects RX1 yX1_closeFile yX1_closeFile, Cond.code yX1_closeFile cX1_closeFile 1 (some .int), Cond.methodLink RX1 92 yX1_stand, Cond.instanceMethod yX1_stand, Cond.selects RX1 yX1_stand yX1_stand, Cond.code yX1_stand cX1_stand 3 none, Cond.methodLink RX1 59 yX1_openFile, Cond.instanceMethod yX1_openFile, Cond.selects RX1 yX1_openFile yX1_openFile]
def wsL_law_r4 : List Cond := [Cond.code yX1_openFile cX1_openFile 3 (some .int), Cond.methodLink RX1 133 yX0_clear, Cond.instanceMethod yX0_clear, Cond.selects RX0 yX0_clear yX0_clear, Cond.code yX0_clear cX0_clear 1 none, Cond.methodLink RL 30 yX2_open, Cond.instanceMethod yX2_open, Cond.selects RX2 yX2_open yX2_open, Cond.code yX2_open cX2_open 3 (some .int), Cond.fieldLink RX2 28 "RelativeFilesModel" "code" "I", Cond.fieldLink RX2 36 "RelativeFilesModel" "last" "I", Cond.fieldLink RX2 39 "RelativeFilesModel" "there" "Z", Cond.fieldLink RX2 31 "RelativeFilesModel" "size" "I", Cond.fieldLink RX2 43 "RelativeFilesModel" "position" "I", Cond.fieldLink RX2 46 "RelativeFilesModel" "ended" "Z", Cond.methodLink RL 33 yX1_write, Cond.instanceMethod yX1_write, Cond.selects RX1 yX1_write yX1_write, Cond.code yX1_write cX1_write 5 (some .int), Cond.methodLink RX1 63 yX1_placeInOrder, Cond.instanceMethod yX1_placeInOrder, Cond.selects RX1 yX1_placeInOrder yX1_placeInOrder, Cond.code yX1_placeInOrder cX1_placeInOrder 1 (some .int), Cond.methodLink RX1 127 yX0_greatest]
def wsL_law_r5 : List Cond := [Cond.instanceMethod yX0_greatest, Cond.selects RX0 yX0_greatest yX0_greatest, Cond.code yX0_greatest cX0_greatest 1 (some .int), Cond.methodLink RX0 37 yX0_placeAt, Cond.instanceMethod yX0_placeAt, Cond.selects RX0 yX0_placeAt yX0_placeAt, Cond.code yX0_placeAt cX0_placeAt 2 (some .int), Cond.methodLink RX1 66 yX1_isPlace, Cond.instanceMethod yX1_isPlace, Cond.selects RX1 yX1_isPlace yX1_isPlace, Cond.code yX1_isPlace cX1_isPlace 2 (some .boolean), Cond.methodLink RX1 70 yX1_isTooLong, Cond.instanceMethod yX1_isTooLong, Cond.selects RX1 yX1_isTooLong yX1_isTooLong, Cond.code yX1_isTooLong cX1_isTooLong 4 (some .boolean), Cond.methodLink RX1 73 yX0_has, Cond.instanceMethod yX0_has, Cond.selects RX0 yX0_has yX0_has, Cond.code yX0_has cX0_has 2 (some .boolean), Cond.methodLink RX0 29 yX0_rank, Cond.instanceMethod yX0_rank, Cond.selects RX0 yX0_rank yX0_rank, Cond.code yX0_rank cX0_rank 3 (some .int), Cond.methodLink RX0 33 yX0_isAt]
def wsL_law_r6 : List Cond := [Cond.instanceMethod yX0_isAt, Cond.selects RX0 yX0_isAt yX0_isAt, Cond.code yX0_isAt cX0_isAt 3 (some .boolean), Cond.methodLink RX1 76 yX0_add, Cond.instanceMethod yX0_add, Cond.selects RX0 yX0_add yX0_add, Cond.code yX0_add cX0_add 6 (some .boolean), Cond.methodLink RL 37 yX2_write, Cond.instanceMethod yX2_write, Cond.selects RX2 yX2_write yX2_write, Cond.code yX2_write cX2_write 5 (some .int), Cond.methodLink RX2 53 yX2_upTo, Cond.instanceMethod yX2_upTo, Cond.selects RX2 yX2_upTo yX2_upTo, Cond.code yX2_upTo cX2_upTo 5 (some .int), Cond.methodLink RX2 57 yX2_isPlace, Cond.instanceMethod yX2_isPlace, Cond.selects RX2 yX2_isPlace yX2_isPlace, Cond.code yX2_isPlace cX2_isPlace 2 (some .boolean), Cond.methodLink RX2 61 yX2_isLong, Cond.instanceMethod yX2_isLong, Cond.selects RX2 yX2_isLong yX2_isLong, Cond.code yX2_isLong cX2_isLong 5 (some .boolean), Cond.constantLong RX2 34 (10)]
def wsL_law_r7 : List Cond := [Cond.methodLink RX2 64 yX2_find, Cond.instanceMethod yX2_find, Cond.selects RX2 yX2_find yX2_find, Cond.code yX2_find cX2_find 4 (some .int), Cond.methodLink RX2 68 yX2_add, Cond.instanceMethod yX2_add, Cond.selects RX2 yX2_add yX2_add, Cond.code yX2_add cX2_add 4 none, Cond.fieldLink RX2 49 "RelativeFilesModel" "value" "J", Cond.methodLink RL 38 yX1_read, Cond.instanceMethod yX1_read, Cond.selects RX1 yX1_read yX1_read, Cond.code yX1_read cX1_read 3 (some .int), Cond.methodLink RX1 80 yX1_refusalToRead, Cond.instanceMethod yX1_refusalToRead, Cond.selects RX1 yX1_refusalToRead yX1_refusalToRead, Cond.code yX1_refusalToRead cX1_refusalToRead 1 (some .int), Cond.methodLink RX1 83 yX1_losePosition, Cond.instanceMethod yX1_losePosition, Cond.selects RX1 yX1_losePosition yX1_losePosition, Cond.code yX1_losePosition cX1_losePosition 1 none, Cond.methodLink RX1 86 yX1_take, Cond.instanceMethod yX1_take, Cond.selects RX1 yX1_take yX1_take]
def wsL_law_r8 : List Cond := [Cond.code yX1_take cX1_take 2 none, Cond.methodLink RX1 120 yX0_recordOf, Cond.instanceMethod yX0_recordOf, Cond.selects RX0 yX0_recordOf yX0_recordOf, Cond.code yX0_recordOf cX0_recordOf 3 (some .long), Cond.methodLink RL 41 yX2_read, Cond.instanceMethod yX2_read, Cond.selects RX2 yX2_read yX2_read, Cond.code yX2_read cX2_read 2 (some .int), Cond.methodLink RX2 75 yX2_reads, Cond.instanceMethod yX2_reads, Cond.selects RX2 yX2_reads yX2_reads, Cond.code yX2_reads cX2_reads 1 (some .boolean), Cond.methodLink RX2 79 yX2_take, Cond.instanceMethod yX2_take, Cond.selects RX2 yX2_take yX2_take, Cond.code yX2_take cX2_take 2 none, Cond.fieldLink RX2 72 "RelativeFilesModel" "place" "I", Cond.methodLink RL 42 yX1_value, Cond.instanceMethod yX1_value, Cond.selects RX1 yX1_value yX1_value, Cond.code yX1_value cX1_value 1 (some .long), Cond.methodLink RL 46 yX2_value, Cond.instanceMethod yX2_value]
def wsL_law_r9 : List Cond := [Cond.selects RX2 yX2_value yX2_value, Cond.code yX2_value cX2_value 1 (some .long), Cond.methodLink RL 47 yX1_start, Cond.instanceMethod yX1_start, Cond.selects RX1 yX1_start yX1_start, Cond.code yX1_start cX1_start 5 (some .int), Cond.methodLink RX1 89 yX1_placeToStart, Cond.instanceMethod yX1_placeToStart, Cond.selects RX1 yX1_placeToStart yX1_placeToStart, Cond.code yX1_placeToStart cX1_placeToStart 3 (some .int), Cond.methodLink RX1 136 yX0_firstAbove, Cond.instanceMethod yX0_firstAbove, Cond.selects RX0 yX0_firstAbove yX0_firstAbove, Cond.code yX0_firstAbove cX0_firstAbove 3 (some .int), Cond.methodLink RX1 139 yX0_lastBelow, Cond.instanceMethod yX0_lastBelow, Cond.selects RX0 yX0_lastBelow yX0_lastBelow, Cond.code yX0_lastBelow cX0_lastBelow 2 (some .int), Cond.methodLink RL 51 yX2_start, Cond.instanceMethod yX2_start, Cond.selects RX2 yX2_start yX2_start, Cond.code yX2_start cX2_start 4 (some .int), Cond.methodLink RX2 83 yX2_from, Cond.instanceMethod yX2_from]
def wsL_law_r10 : List Cond := [Cond.selects RX2 yX2_from yX2_from, Cond.code yX2_from cX2_from 5 (some .int), Cond.methodLink RL 52 yX1_next, Cond.instanceMethod yX1_next, Cond.selects RX1 yX1_next yX1_next, Cond.code yX1_next cX1_next 4 (some .int), Cond.methodLink RX1 96 yX1_placeFromPosition, Cond.instanceMethod yX1_placeFromPosition, Cond.selects RX1 yX1_placeFromPosition yX1_placeFromPosition, Cond.code yX1_placeFromPosition cX1_placeFromPosition 2 (some .int), Cond.methodLink RL 56 yX2_next, Cond.instanceMethod yX2_next, Cond.selects RX2 yX2_next yX2_next, Cond.code yX2_next cX2_next 5 (some .int), Cond.methodLink RL 57 yX1_rewrite, Cond.instanceMethod yX1_rewrite, Cond.selects RX1 yX1_rewrite yX1_rewrite, Cond.code yX1_rewrite cX1_rewrite 6 (some .int), Cond.methodLink RX1 100 yX1_placeToChange, Cond.instanceMethod yX1_placeToChange, Cond.selects RX1 yX1_placeToChange yX1_placeToChange, Cond.code yX1_placeToChange cX1_placeToChange 2 (some .int), Cond.methodLink RX1 103 yX1_statusOfChange, Cond.instanceMethod yX1_statusOfChange]
def wsL_law_r11 : List Cond := [Cond.selects RX1 yX1_statusOfChange yX1_statusOfChange, Cond.code yX1_statusOfChange cX1_statusOfChange 3 (some .int), Cond.methodLink RX1 106 yX0_replace, Cond.instanceMethod yX0_replace, Cond.selects RX0 yX0_replace yX0_replace, Cond.code yX0_replace cX0_replace 5 none, Cond.methodLink RL 60 yX2_rewrite, Cond.instanceMethod yX2_rewrite, Cond.selects RX2 yX2_rewrite yX2_rewrite, Cond.code yX2_rewrite cX2_rewrite 5 (some .int), Cond.methodLink RX2 86 yX2_meant, Cond.instanceMethod yX2_meant, Cond.selects RX2 yX2_meant yX2_meant, Cond.code yX2_meant cX2_meant 2 (some .int), Cond.methodLink RL 61 yX1_remove, Cond.instanceMethod yX1_remove, Cond.selects RX1 yX1_remove yX1_remove, Cond.code yX1_remove cX1_remove 4 (some .int), Cond.methodLink RX1 110 yX0_drop, Cond.instanceMethod yX0_drop, Cond.selects RX0 yX0_drop yX0_drop, Cond.code yX0_drop cX0_drop 4 none, Cond.methodLink RL 64 yX2_remove, Cond.instanceMethod yX2_remove]
def wsL_law_r12 : List Cond := [Cond.selects RX2 yX2_remove yX2_remove, Cond.code yX2_remove cX2_remove 3 (some .int), Cond.methodLink RL 65 yX1_number, Cond.instanceMethod yX1_number, Cond.selects RX1 yX1_number yX1_number, Cond.code yX1_number cX1_number 1 (some .int), Cond.methodLink RL 69 yX2_number, Cond.instanceMethod yX2_number, Cond.selects RX2 yX2_number yX2_number, Cond.code yX2_number cX2_number 1 (some .int), Cond.methodLink RL 70 yL_cell_, Cond.static yL_cell_, Cond.codeWith yL_cell_ cL_cell_ 4 (some .int) [(0, 8, 11, 13)], Cond.methodLink RL 7 yX1_cell, Cond.instanceMethod yX1_cell, Cond.selects RX1 yX1_cell yX1_cell, Cond.code yX1_cell cX1_cell 2 (some .long), Cond.classLink RX1 113 RJx00060, Cond.instantiable RJx00060 6, Cond.initialized RJx00060, Cond.methodLink RL 73 yX2_cell, Cond.instanceMethod yX2_cell, Cond.selects RX2 yX2_cell yX2_cell, Cond.code yX2_cell cX2_cell 3 (some .long)]
def wsL_law_r13 : List Cond := [Cond.methodLink RL 74 yX2_thrown, Cond.instanceMethod yX2_thrown, Cond.selects RX2 yX2_thrown yX2_thrown, Cond.code yX2_thrown cX2_thrown 1 (some .int), Cond.methodLink RL 77 yX1_records, Cond.instanceMethod yX1_records, Cond.selects RX1 yX1_records yX1_records, Cond.code yX1_records cX1_records 1 (some .int), Cond.methodLink RX1 124 yX0_size, Cond.instanceMethod yX0_size, Cond.selects RX0 yX0_size yX0_size, Cond.code yX0_size cX0_size 1 (some .int), Cond.methodLink RL 80 yX2_records, Cond.instanceMethod yX2_records, Cond.selects RX2 yX2_records yX2_records, Cond.code yX2_records cX2_records 1 (some .int), Cond.methodLink RL 81 yX1_digits, Cond.instanceMethod yX1_digits, Cond.selects RX1 yX1_digits yX1_digits, Cond.code yX1_digits cX1_digits 3 (some .int), Cond.methodLink RL 84 yX2_digits, Cond.instanceMethod yX2_digits, Cond.selects RX2 yX2_digits yX2_digits, Cond.code yX2_digits cX2_digits 3 (some .int)]
def wsL_law_r14 : List Cond := [Cond.methodLink RL 85 yX1_count, Cond.instanceMethod yX1_count, Cond.selects RX1 yX1_count yX1_count, Cond.code yX1_count cX1_count 2 (some .int), Cond.methodLink RX1 130 yX0_least, Cond.instanceMethod yX0_least, Cond.selects RX0 yX0_least yX0_least, Cond.code yX0_least cX0_least 1 (some .int), Cond.methodLink RL 88 yX2_count, Cond.instanceMethod yX2_count, Cond.selects RX2 yX2_count yX2_count, Cond.code yX2_count cX2_count 2 (some .int)]
def wsL_law : List Cond := (wsL_law_r1 ++ (wsL_law_r2 ++ (wsL_law_r3 ++ (wsL_law_r4 ++ (wsL_law_r5 ++ (wsL_law_r6 ++ (wsL_law_r7 ++ (wsL_law_r8 ++ (wsL_law_r9 ++ (wsL_law_r10 ++ (wsL_law_r11 ++ (wsL_law_r12 ++ (wsL_law_r13 ++ wsL_law_r14))))))))))))) ++ wsX10 ++ wsX20 ++ wsX00 ++ wsJx000600 ++ ([] : List Cond)
set_option maxRecDepth 20000 in
theorem wsL_law_in : ∀ w ∈ wsL_law, w ∈ lw_tbl := fun w h => (goodIn_p wsL_law [256, 40, 43, 47, 50, 55, 340, 101, 105, 109, 113, 117, 390, 121, 125, 129, 133, 137, 141, 145, 149, 153, 157, 394, 398, 402, 406, 411, 415, 161, 165, 169, 173, 177, 419, 423, 427, 181, 431, 185, 189, 193, 197, 435, 439, 201, 205, 443, 209, 213, 217, 221, 447, 451, 225, 229, 455, 233, 459, 264, 463, 386, 237, 241, 467, 245, 471, 249, 253, 475] (by decide +kernel) (by decide +kernel) w h).1
theorem inlX0 : ∀ w ∈ wsX00, w ∈ wsL_law := fun _ h => List.mem_append_left _ (List.mem_append_left _ (List.mem_append_right _ h))
theorem inX0 : ∀ w ∈ wsX00, w ∈ lw_tbl := fun w h => wsL_law_in w (inlX0 w h)
theorem inlX1 : ∀ w ∈ wsX10, w ∈ wsL_law := fun _ h => List.mem_append_left _ (List.mem_append_left _ (List.mem_append_left _ (List.mem_append_left _ (List.mem_append_right _ h))))
theorem inX1 : ∀ w ∈ wsX10, w ∈ lw_tbl := fun w h => wsL_law_in w (inlX1 w h)
theorem inlX2 : ∀ w ∈ wsX20, w ∈ wsL_law := fun _ h => List.mem_append_left _ (List.mem_append_left _ (List.mem_append_left _ (List.mem_append_right _ h)))
theorem inX2 : ∀ w ∈ wsX20, w ∈ lw_tbl := fun w h => wsL_law_in w (inlX2 w h)
theorem inlJx00060 : ∀ w ∈ wsJx000600, w ∈ wsL_law := fun _ h => List.mem_append_left _ (List.mem_append_right _ h)
theorem inJx00060 : ∀ w ∈ wsJx000600, w ∈ lw_tbl := fun w h => wsL_law_in w (inlJx00060 w h)
theorem inJ9 : ∀ w ∈ wsJ90, w ∈ lw_tbl := by decide +kernel
theorem inJ0 : ∀ w ∈ wsJ00, w ∈ lw_tbl := by decide +kernel
set_option maxRecDepth 20000 in
theorem ggX0_has_X0_rank : GoodIn wsX0_has wsX0_rank := goodIn_r _ [5, 6, 7, 12, 13, 14] (by decide +kernel) (by decide +kernel)
set_option maxRecDepth 20000 in
theorem gX0_has_X0_rank : GoodIn wsX0_has (wsV RX0 29 RX0 yX0_rank wsX0_rank) := goodIn_app (goodIn_of _ (by decide +kernel)) ggX0_has_X0_rank
set_option maxRecDepth 20000 in
theorem ggX0_has_X0_isAt : GoodIn wsX0_has wsX0_isAt := goodIn_r _ [11, 6, 7, 12, 13, 14] (by decide +kernel) (by decide +kernel)
set_option maxRecDepth 20000 in
theorem gX0_has_X0_isAt : GoodIn wsX0_has (wsV RX0 33 RX0 yX0_isAt wsX0_isAt) := goodIn_app (goodIn_of _ (by decide +kernel)) ggX0_has_X0_isAt
set_option maxRecDepth 20000 in
theorem ggX0_recordOf_X0_rank : GoodIn wsX0_recordOf wsX0_rank := goodIn_r _ [6, 7, 8, 13, 14, 15] (by decide +kernel) (by decide +kernel)
set_option maxRecDepth 20000 in
theorem gX0_recordOf_X0_rank : GoodIn wsX0_recordOf (wsV RX0 29 RX0 yX0_rank wsX0_rank) := goodIn_app (goodIn_of _ (by decide +kernel)) ggX0_recordOf_X0_rank
set_option maxRecDepth 20000 in
theorem ggX0_recordOf_X0_isAt : GoodIn wsX0_recordOf wsX0_isAt := goodIn_r _ [12, 7, 8, 13, 14, 15] (by decide +kernel) (by decide +kernel)
set_option maxRecDepth 20000 in
theorem gX0_recordOf_X0_isAt : GoodIn wsX0_recordOf (wsV RX0 33 RX0 yX0_isAt wsX0_isAt) := goodIn_app (goodIn_of _ (by decide +kernel)) ggX0_recordOf_X0_isAt
set_option maxRecDepth 20000 in
theorem ggX0_least_X0_placeAt : GoodIn wsX0_least wsX0_placeAt := goodIn_r _ [5, 6, 7, 8, 9, 10] (by decide +kernel) (by decide +kernel)
set_option maxRecDepth 20000 in
theorem gX0_least_X0_placeAt : GoodIn wsX0_least (wsV RX0 37 RX0 yX0_placeAt wsX0_placeAt) := goodIn_app (goodIn_of _ (by decide +kernel)) ggX0_least_X0_placeAt
set_option maxRecDepth 20000 in
theorem ggX0_greatest_X0_placeAt : GoodIn wsX0_greatest wsX0_placeAt := goodIn_r _ [6, 1, 7, 8, 9, 10] (by decide +kernel) (by decide +kernel)
set_option maxRecDepth 20000 in
theorem gX0_greatest_X0_placeAt : GoodIn wsX0_greatest (wsV RX0 37 RX0 yX0_placeAt wsX0_placeAt) := goodIn_app (goodIn_of _ (by decide +kernel)) ggX0_greatest_X0_placeAt
set_option maxRecDepth 20000 in
theorem ggX0_firstAbove_X0_rank : GoodIn wsX0_firstAbove wsX0_rank := goodIn_r _ [5, 6, 7, 16, 17, 18] (by decide +kernel) (by decide +kernel)
set_option maxRecDepth 20000 in
theorem gX0_firstAbove_X0_rank : GoodIn wsX0_firstAbove (wsV RX0 29 RX0 yX0_rank wsX0_rank) := goodIn_app (goodIn_of _ (by decide +kernel)) ggX0_firstAbove_X0_rank
set_option maxRecDepth 20000 in
theorem ggX0_firstAbove_X0_isAt : GoodIn wsX0_firstAbove wsX0_isAt := goodIn_r _ [11, 6, 7, 16, 17, 18] (by decide +kernel) (by decide +kernel)
set_option maxRecDepth 20000 in
theorem gX0_firstAbove_X0_isAt : GoodIn wsX0_firstAbove (wsV RX0 33 RX0 yX0_isAt wsX0_isAt) := goodIn_app (goodIn_of _ (by decide +kernel)) ggX0_firstAbove_X0_isAt
set_option maxRecDepth 20000 in
theorem ggX0_firstAbove_X0_placeAt : GoodIn wsX0_firstAbove wsX0_placeAt := goodIn_r _ [15, 6, 7, 16, 17, 18] (by decide +kernel) (by decide +kernel)
set_option maxRecDepth 20000 in
theorem gX0_firstAbove_X0_placeAt : GoodIn wsX0_firstAbove (wsV RX0 37 RX0 yX0_placeAt wsX0_placeAt) := goodIn_app (goodIn_of _ (by decide +kernel)) ggX0_firstAbove_X0_placeAt
set_option maxRecDepth 20000 in
theorem ggX0_lastBelow_X0_rank : GoodIn wsX0_lastBelow wsX0_rank := goodIn_r _ [5, 6, 7, 12, 13, 14] (by decide +kernel) (by decide +kernel)
set_option maxRecDepth 20000 in
theorem gX0_lastBelow_X0_rank : GoodIn wsX0_lastBelow (wsV RX0 29 RX0 yX0_rank wsX0_rank) := goodIn_app (goodIn_of _ (by decide +kernel)) ggX0_lastBelow_X0_rank
set_option maxRecDepth 20000 in
theorem ggX0_lastBelow_X0_placeAt : GoodIn wsX0_lastBelow wsX0_placeAt := goodIn_r _ [11, 6, 7, 12, 13, 14] (by decide +kernel) (by decide +kernel)
set_option maxRecDepth 20000 in
theorem gX0_lastBelow_X0_placeAt : GoodIn wsX0_lastBelow (wsV RX0 37 RX0 yX0_placeAt wsX0_placeAt) := goodIn_app (goodIn_of _ (by decide +kernel)) ggX0_lastBelow_X0_placeAt
set_option maxRecDepth 20000 in
theorem ggX0_add_X0_rank : GoodIn wsX0_add wsX0_rank := goodIn_r _ [8, 1, 2, 9, 10, 11] (by decide +kernel) (by decide +kernel)
set_option maxRecDepth 20000 in
theorem gX0_add_X0_rank : GoodIn wsX0_add (wsV RX0 29 RX0 yX0_rank wsX0_rank) := goodIn_app (goodIn_of _ (by decide +kernel)) ggX0_add_X0_rank
set_option maxRecDepth 20000 in
theorem ggX0_replace_X0_rank : GoodIn wsX0_replace wsX0_rank := goodIn_r _ [6, 7, 8, 13, 14, 15] (by decide +kernel) (by decide +kernel)
set_option maxRecDepth 20000 in
theorem gX0_replace_X0_rank : GoodIn wsX0_replace (wsV RX0 29 RX0 yX0_rank wsX0_rank) := goodIn_app (goodIn_of _ (by decide +kernel)) ggX0_replace_X0_rank
set_option maxRecDepth 20000 in
theorem ggX0_replace_X0_isAt : GoodIn wsX0_replace wsX0_isAt := goodIn_r _ [12, 7, 8, 13, 14, 15] (by decide +kernel) (by decide +kernel)
set_option maxRecDepth 20000 in
theorem gX0_replace_X0_isAt : GoodIn wsX0_replace (wsV RX0 33 RX0 yX0_isAt wsX0_isAt) := goodIn_app (goodIn_of _ (by decide +kernel)) ggX0_replace_X0_isAt
set_option maxRecDepth 20000 in
theorem ggX0_drop_X0_rank : GoodIn wsX0_drop wsX0_rank := goodIn_r _ [8, 1, 2, 13, 14, 15] (by decide +kernel) (by decide +kernel)
set_option maxRecDepth 20000 in
theorem gX0_drop_X0_rank : GoodIn wsX0_drop (wsV RX0 29 RX0 yX0_rank wsX0_rank) := goodIn_app (goodIn_of _ (by decide +kernel)) ggX0_drop_X0_rank
set_option maxRecDepth 20000 in
theorem ggX0_drop_X0_isAt : GoodIn wsX0_drop wsX0_isAt := goodIn_r _ [12, 1, 2, 13, 14, 15] (by decide +kernel) (by decide +kernel)
set_option maxRecDepth 20000 in
theorem gX0_drop_X0_isAt : GoodIn wsX0_drop (wsV RX0 33 RX0 yX0_isAt wsX0_isAt) := goodIn_app (goodIn_of _ (by decide +kernel)) ggX0_drop_X0_isAt
set_option maxRecDepth 20000 in
theorem ggX1_init_X0_init : GoodIn wsX1_init wsX0_init := goodIn_r _ [26, 27, 2, 3, 28, 10, 7, 11, 29, 30, 31, 32, 33, 43, 44, 45] (by decide +kernel) (by decide +kernel)
set_option maxRecDepth 20000 in
theorem gX1_init_X0_init : GoodIn wsX1_init (wsX0_init) := ggX1_init_X0_init
set_option maxRecDepth 20000 in
theorem ggX1_open_X1_closeFile : GoodIn wsX1_open wsX1_closeFile := goodIn_r _ [5, 6, 7, 8, 9, 4, 10, 11, 12, 13, 26, 27, 28, 29, 30, 31, 32, 33, 34] (by decide +kernel) (by decide +kernel)
set_option maxRecDepth 20000 in
theorem gX1_open_X1_closeFile : GoodIn wsX1_open (wsV RX1 55 RX1 yX1_closeFile wsX1_closeFile) := goodIn_app (goodIn_of _ (by decide +kernel)) ggX1_open_X1_closeFile
set_option maxRecDepth 20000 in
theorem ggX1_open_X1_openFile : GoodIn wsX1_open wsX1_openFile := goodIn_r _ [17, 6, 18, 19, 7, 8, 9, 4, 10, 11, 12, 13, 20, 21, 22, 23, 24, 25, 26, 27, 28, 29, 30, 31, 32, 33, 34, 35, 36, 37] (by decide +kernel) (by decide +kernel)
set_option maxRecDepth 20000 in
theorem gX1_open_X1_openFile : GoodIn wsX1_open (wsV RX1 59 RX1 yX1_openFile wsX1_openFile) := goodIn_app (goodIn_of _ (by decide +kernel)) ggX1_open_X1_openFile
set_option maxRecDepth 20000 in
theorem ggX1_write_X1_placeInOrder : GoodIn wsX1_write wsX1_placeInOrder := goodIn_r _ [9, 1, 3, 10, 11, 12, 13, 14, 15, 16, 17, 18, 19, 20, 48, 49, 50, 51, 52, 53, 54, 55, 56, 57, 58, 59] (by decide +kernel) (by decide +kernel)
set_option maxRecDepth 20000 in
theorem gX1_write_X1_placeInOrder : GoodIn wsX1_write (wsV RX1 63 RX1 yX1_placeInOrder wsX1_placeInOrder) := goodIn_app (goodIn_of _ (by decide +kernel)) ggX1_write_X1_placeInOrder
set_option maxRecDepth 20000 in
theorem ggX1_write_X1_isPlace : GoodIn wsX1_write wsX1_isPlace := goodIn_r _ [24, 25, 48, 49, 50, 51, 52, 53, 54, 55, 56] (by decide +kernel) (by decide +kernel)
set_option maxRecDepth 20000 in
theorem gX1_write_X1_isPlace : GoodIn wsX1_write (wsV RX1 66 RX1 yX1_isPlace wsX1_isPlace) := goodIn_app (goodIn_of _ (by decide +kernel)) ggX1_write_X1_isPlace
set_option maxRecDepth 20000 in
theorem ggX1_write_X1_isTooLong : GoodIn wsX1_write wsX1_isTooLong := goodIn_r _ [29, 30, 48, 49, 50, 51, 52, 53, 54, 55, 56] (by decide +kernel) (by decide +kernel)
set_option maxRecDepth 20000 in
theorem gX1_write_X1_isTooLong : GoodIn wsX1_write (wsV RX1 70 RX1 yX1_isTooLong wsX1_isTooLong) := goodIn_app (goodIn_of _ (by decide +kernel)) ggX1_write_X1_isTooLong
set_option maxRecDepth 20000 in
theorem ggX1_write_X0_has : GoodIn wsX1_write wsX0_has := goodIn_r _ [34, 35, 36, 37, 13, 38, 15, 20, 39, 40, 41, 42, 57, 58, 59] (by decide +kernel) (by decide +kernel)
set_option maxRecDepth 20000 in
theorem gX1_write_X0_has : GoodIn wsX1_write (wsV RX1 73 RX0 yX0_has wsX0_has) := goodIn_app (goodIn_of _ (by decide +kernel)) ggX1_write_X0_has
set_option maxRecDepth 20000 in
theorem ggX1_write_X0_add : GoodIn wsX1_write wsX0_add := goodIn_r _ [46, 15, 20, 47, 35, 36, 37, 13, 38, 57, 58, 59] (by decide +kernel) (by decide +kernel)
set_option maxRecDepth 20000 in
theorem gX1_write_X0_add : GoodIn wsX1_write (wsV RX1 76 RX0 yX0_add wsX0_add) := goodIn_app (goodIn_of _ (by decide +kernel)) ggX1_write_X0_add
set_option maxRecDepth 20000 in
theorem ggX1_read_X1_refusalToRead : GoodIn wsX1_read wsX1_refusalToRead := goodIn_r _ [6, 7, 44, 45, 46, 47, 48, 49, 50, 51, 52] (by decide +kernel) (by decide +kernel)
set_option maxRecDepth 20000 in
theorem gX1_read_X1_refusalToRead : GoodIn wsX1_read (wsV RX1 80 RX1 yX1_refusalToRead wsX1_refusalToRead) := goodIn_app (goodIn_of _ (by decide +kernel)) ggX1_read_X1_refusalToRead
set_option maxRecDepth 20000 in
theorem ggX1_read_X0_has : GoodIn wsX1_read wsX0_has := goodIn_r _ [12, 13, 14, 15, 11, 16, 17, 18, 19, 20, 21, 22, 53, 54, 55] (by decide +kernel) (by decide +kernel)
set_option maxRecDepth 20000 in
theorem gX1_read_X0_has : GoodIn wsX1_read (wsV RX1 73 RX0 yX0_has wsX0_has) := goodIn_app (goodIn_of _ (by decide +kernel)) ggX1_read_X0_has
set_option maxRecDepth 20000 in
theorem ggX1_read_X1_losePosition : GoodIn wsX1_read wsX1_losePosition := goodIn_r _ [26, 27, 28, 29, 5, 30, 31, 32, 33, 44, 45, 46, 47, 48, 49, 50, 51, 52] (by decide +kernel) (by decide +kernel)
set_option maxRecDepth 20000 in
theorem gX1_read_X1_losePosition : GoodIn wsX1_read (wsV RX1 83 RX1 yX1_losePosition wsX1_losePosition) := goodIn_app (goodIn_of _ (by decide +kernel)) ggX1_read_X1_losePosition
set_option maxRecDepth 20000 in
theorem ggX1_read_X1_take : GoodIn wsX1_read wsX1_take := goodIn_r _ [37, 33, 1, 38, 27, 28, 29, 5, 30, 31, 32, 39, 40, 41, 11, 42, 43, 13, 14, 15, 16, 17, 18, 19, 20, 21, 22, 44, 45, 46, 47, 48, 49, 50, 51, 52, 53, 54, 55] (by decide +kernel) (by decide +kernel)
set_option maxRecDepth 20000 in
theorem gX1_read_X1_take : GoodIn wsX1_read (wsV RX1 86 RX1 yX1_take wsX1_take) := goodIn_app (goodIn_of _ (by decide +kernel)) ggX1_read_X1_take
set_option maxRecDepth 20000 in
theorem ggX1_start_X1_refusalToRead : GoodIn wsX1_start wsX1_refusalToRead := goodIn_r _ [5, 6, 50, 51, 52, 53, 54, 55, 56, 57, 58] (by decide +kernel) (by decide +kernel)
set_option maxRecDepth 20000 in
theorem gX1_start_X1_refusalToRead : GoodIn wsX1_start (wsV RX1 80 RX1 yX1_refusalToRead wsX1_refusalToRead) := goodIn_app (goodIn_of _ (by decide +kernel)) ggX1_start_X1_refusalToRead
set_option maxRecDepth 20000 in
theorem ggX1_start_X1_placeToStart : GoodIn wsX1_start wsX1_placeToStart := goodIn_r _ [10, 11, 12, 13, 14, 15, 16, 17, 18, 19, 20, 21, 22, 23, 24, 25, 26, 27, 28, 29, 30, 31, 32, 33, 34, 35, 36, 37, 38, 50, 51, 52, 53, 54, 55, 56, 57, 58, 59, 60, 61] (by decide +kernel) (by decide +kernel)
set_option maxRecDepth 20000 in
theorem gX1_start_X1_placeToStart : GoodIn wsX1_start (wsV RX1 89 RX1 yX1_placeToStart wsX1_placeToStart) := goodIn_app (goodIn_of _ (by decide +kernel)) ggX1_start_X1_placeToStart
set_option maxRecDepth 20000 in
theorem ggX1_start_X1_losePosition : GoodIn wsX1_start wsX1_losePosition := goodIn_r _ [42, 43, 44, 45, 4, 46, 47, 48, 49, 50, 51, 52, 53, 54, 55, 56, 57, 58] (by decide +kernel) (by decide +kernel)
set_option maxRecDepth 20000 in
theorem gX1_start_X1_losePosition : GoodIn wsX1_start (wsV RX1 83 RX1 yX1_losePosition wsX1_losePosition) := goodIn_app (goodIn_of _ (by decide +kernel)) ggX1_start_X1_losePosition
set_option maxRecDepth 20000 in
theorem ggX1_start_X1_stand : GoodIn wsX1_start wsX1_stand := goodIn_r _ [46, 47, 48, 49, 50, 51, 52, 53, 54, 55, 56, 57, 58] (by decide +kernel) (by decide +kernel)
set_option maxRecDepth 20000 in
theorem gX1_start_X1_stand : GoodIn wsX1_start (wsV RX1 92 RX1 yX1_stand wsX1_stand) := goodIn_app (goodIn_of _ (by decide +kernel)) ggX1_start_X1_stand
set_option maxRecDepth 20000 in
theorem ggX1_next_X1_refusalToRead : GoodIn wsX1_next wsX1_refusalToRead := goodIn_r _ [7, 8, 65, 66, 67, 68, 69, 70, 71, 72, 73] (by decide +kernel) (by decide +kernel)
set_option maxRecDepth 20000 in
theorem gX1_next_X1_refusalToRead : GoodIn wsX1_next (wsV RX1 80 RX1 yX1_refusalToRead wsX1_refusalToRead) := goodIn_app (goodIn_of _ (by decide +kernel)) ggX1_next_X1_refusalToRead
set_option maxRecDepth 20000 in
theorem ggX1_next_X1_placeFromPosition : GoodIn wsX1_next wsX1_placeFromPosition := goodIn_r _ [12, 1, 13, 14, 15, 16, 17, 18, 19, 20, 21, 22, 23, 24, 25, 26, 27, 28, 29, 30, 31, 32, 33, 34, 35, 36, 37, 38, 39, 40, 41, 65, 66, 67, 68, 69, 70, 71, 72, 73, 74, 75, 76] (by decide +kernel) (by decide +kernel)
set_option maxRecDepth 20000 in
theorem gX1_next_X1_placeFromPosition : GoodIn wsX1_next (wsV RX1 96 RX1 yX1_placeFromPosition wsX1_placeFromPosition) := goodIn_app (goodIn_of _ (by decide +kernel)) ggX1_next_X1_placeFromPosition
set_option maxRecDepth 20000 in
theorem ggX1_next_X1_losePosition : GoodIn wsX1_next wsX1_losePosition := goodIn_r _ [45, 46, 47, 48, 6, 49, 1, 14, 2, 65, 66, 67, 68, 69, 70, 71, 72, 73] (by decide +kernel) (by decide +kernel)
set_option maxRecDepth 20000 in
theorem gX1_next_X1_losePosition : GoodIn wsX1_next (wsV RX1 83 RX1 yX1_losePosition wsX1_losePosition) := goodIn_app (goodIn_of _ (by decide +kernel)) ggX1_next_X1_losePosition
set_option maxRecDepth 20000 in
theorem ggX1_next_X1_isTooLong : GoodIn wsX1_next wsX1_isTooLong := goodIn_r _ [53, 54, 65, 66, 67, 68, 69, 70, 71, 72, 73] (by decide +kernel) (by decide +kernel)
set_option maxRecDepth 20000 in
theorem gX1_next_X1_isTooLong : GoodIn wsX1_next (wsV RX1 70 RX1 yX1_isTooLong wsX1_isTooLong) := goodIn_app (goodIn_of _ (by decide +kernel)) ggX1_next_X1_isTooLong
set_option maxRecDepth 20000 in
theorem ggX1_next_X1_take : GoodIn wsX1_next wsX1_take := goodIn_r _ [58, 2, 13, 59, 46, 47, 48, 6, 49, 1, 14, 60, 61, 62, 18, 63, 64, 20, 21, 22, 23, 24, 25, 26, 27, 28, 29, 65, 66, 67, 68, 69, 70, 71, 72, 73, 74, 75, 76] (by decide +kernel) (by decide +kernel)
set_option maxRecDepth 20000 in
theorem gX1_next_X1_take : GoodIn wsX1_next (wsV RX1 86 RX1 yX1_take wsX1_take) := goodIn_app (goodIn_of _ (by decide +kernel)) ggX1_next_X1_take
set_option maxRecDepth 20000 in
theorem ggX1_rewrite_X1_placeToChange : GoodIn wsX1_rewrite wsX1_placeToChange := goodIn_r _ [7, 8, 34, 35, 36, 37, 38, 39, 40, 41, 42] (by decide +kernel) (by decide +kernel)
set_option maxRecDepth 20000 in
theorem gX1_rewrite_X1_placeToChange : GoodIn wsX1_rewrite (wsV RX1 100 RX1 yX1_placeToChange wsX1_placeToChange) := goodIn_app (goodIn_of _ (by decide +kernel)) ggX1_rewrite_X1_placeToChange
set_option maxRecDepth 20000 in
theorem ggX1_rewrite_X1_statusOfChange : GoodIn wsX1_rewrite wsX1_statusOfChange := goodIn_r _ [12, 13, 8, 1, 14, 15, 16, 17, 18, 19, 20, 21, 22, 23, 24, 25, 26, 27, 28, 34, 35, 36, 37, 38, 39, 40, 41, 42, 43, 44, 45] (by decide +kernel) (by decide +kernel)
set_option maxRecDepth 20000 in
theorem gX1_rewrite_X1_statusOfChange : GoodIn wsX1_rewrite (wsV RX1 103 RX1 yX1_statusOfChange wsX1_statusOfChange) := goodIn_app (goodIn_of _ (by decide +kernel)) ggX1_rewrite_X1_statusOfChange
set_option maxRecDepth 20000 in
theorem ggX1_rewrite_X0_replace : GoodIn wsX1_rewrite wsX0_replace := goodIn_r _ [32, 33, 19, 20, 21, 17, 22, 23, 24, 25, 26, 27, 28, 43, 44, 45] (by decide +kernel) (by decide +kernel)
set_option maxRecDepth 20000 in
theorem gX1_rewrite_X0_replace : GoodIn wsX1_rewrite (wsV RX1 106 RX0 yX0_replace wsX0_replace) := goodIn_app (goodIn_of _ (by decide +kernel)) ggX1_rewrite_X0_replace
set_option maxRecDepth 20000 in
theorem ggX1_remove_X1_placeToChange : GoodIn wsX1_remove wsX1_placeToChange := goodIn_r _ [6, 7, 33, 34, 35, 36, 37, 38, 39, 40, 41] (by decide +kernel) (by decide +kernel)
set_option maxRecDepth 20000 in
theorem gX1_remove_X1_placeToChange : GoodIn wsX1_remove (wsV RX1 100 RX1 yX1_placeToChange wsX1_placeToChange) := goodIn_app (goodIn_of _ (by decide +kernel)) ggX1_remove_X1_placeToChange
set_option maxRecDepth 20000 in
theorem ggX1_remove_X1_statusOfChange : GoodIn wsX1_remove wsX1_statusOfChange := goodIn_r _ [11, 12, 7, 1, 13, 14, 15, 16, 17, 18, 19, 20, 21, 22, 23, 24, 25, 26, 27, 33, 34, 35, 36, 37, 38, 39, 40, 41, 42, 43, 44] (by decide +kernel) (by decide +kernel)
set_option maxRecDepth 20000 in
theorem gX1_remove_X1_statusOfChange : GoodIn wsX1_remove (wsV RX1 103 RX1 yX1_statusOfChange wsX1_statusOfChange) := goodIn_app (goodIn_of _ (by decide +kernel)) ggX1_remove_X1_statusOfChange
set_option maxRecDepth 20000 in
theorem ggX1_remove_X0_drop : GoodIn wsX1_remove wsX0_drop := goodIn_r _ [31, 22, 23, 32, 18, 19, 20, 16, 21, 24, 25, 26, 27, 42, 43, 44] (by decide +kernel) (by decide +kernel)
set_option maxRecDepth 20000 in
theorem gX1_remove_X0_drop : GoodIn wsX1_remove (wsV RX1 110 RX0 yX0_drop wsX0_drop) := goodIn_app (goodIn_of _ (by decide +kernel)) ggX1_remove_X0_drop
set_option maxRecDepth 20000 in
theorem ggX1_cell_X1_isPlace : GoodIn wsX1_cell wsX1_isPlace := goodIn_r _ [9, 10, 33, 34, 35, 36, 37, 38, 39, 40, 41] (by decide +kernel) (by decide +kernel)
set_option maxRecDepth 20000 in
theorem gX1_cell_X1_isPlace : GoodIn wsX1_cell (wsV RX1 66 RX1 yX1_isPlace wsX1_isPlace) := goodIn_app (goodIn_of _ (by decide +kernel)) ggX1_cell_X1_isPlace
set_option maxRecDepth 20000 in
theorem ggX1_cell_X0_recordOf : GoodIn wsX1_cell wsX0_recordOf := goodIn_r _ [15, 16, 17, 18, 19, 14, 20, 21, 22, 23, 24, 25, 26, 42, 43, 44] (by decide +kernel) (by decide +kernel)
set_option maxRecDepth 20000 in
theorem gX1_cell_X0_recordOf : GoodIn wsX1_cell (wsV RX1 120 RX0 yX0_recordOf wsX0_recordOf) := goodIn_app (goodIn_of _ (by decide +kernel)) ggX1_cell_X0_recordOf
set_option maxRecDepth 20000 in
theorem ggX1_records_X0_size : GoodIn wsX1_records wsX0_size := goodIn_r _ [6, 7, 17, 18, 19] (by decide +kernel) (by decide +kernel)
set_option maxRecDepth 20000 in
theorem gX1_records_X0_size : GoodIn wsX1_records (wsV RX1 124 RX0 yX0_size wsX0_size) := goodIn_app (goodIn_of _ (by decide +kernel)) ggX1_records_X0_size
set_option maxRecDepth 20000 in
theorem ggX1_count_X0_greatest : GoodIn wsX1_count wsX0_greatest := goodIn_r _ [9, 10, 11, 12, 13, 8, 14, 15, 29, 30, 31] (by decide +kernel) (by decide +kernel)
set_option maxRecDepth 20000 in
theorem gX1_count_X0_greatest : GoodIn wsX1_count (wsV RX1 127 RX0 yX0_greatest wsX0_greatest) := goodIn_app (goodIn_of _ (by decide +kernel)) ggX1_count_X0_greatest
set_option maxRecDepth 20000 in
theorem ggX1_count_X0_least : GoodIn wsX1_count wsX0_least := goodIn_r _ [19, 11, 12, 13, 8, 14, 10, 15, 29, 30, 31] (by decide +kernel) (by decide +kernel)
set_option maxRecDepth 20000 in
theorem gX1_count_X0_least : GoodIn wsX1_count (wsV RX1 130 RX0 yX0_least wsX0_least) := goodIn_app (goodIn_of _ (by decide +kernel)) ggX1_count_X0_least
set_option maxRecDepth 20000 in
theorem ggX1_openFile_X1_stand : GoodIn wsX1_openFile wsX1_stand := goodIn_r _ [8, 9, 10, 11, 18, 19, 20, 21, 22, 23, 24, 25, 26] (by decide +kernel) (by decide +kernel)
set_option maxRecDepth 20000 in
theorem gX1_openFile_X1_stand : GoodIn wsX1_openFile (wsV RX1 92 RX1 yX1_stand wsX1_stand) := goodIn_app (goodIn_of _ (by decide +kernel)) ggX1_openFile_X1_stand
set_option maxRecDepth 20000 in
theorem ggX1_openFile_X0_clear : GoodIn wsX1_openFile wsX0_clear := goodIn_r _ [16, 17, 27, 28, 29] (by decide +kernel) (by decide +kernel)
set_option maxRecDepth 20000 in
theorem gX1_openFile_X0_clear : GoodIn wsX1_openFile (wsV RX1 133 RX0 yX0_clear wsX0_clear) := goodIn_app (goodIn_of _ (by decide +kernel)) ggX1_openFile_X0_clear
set_option maxRecDepth 20000 in
theorem ggX1_closeFile_X1_stand : GoodIn wsX1_closeFile wsX1_stand := goodIn_r _ [6, 7, 8, 9, 10, 11, 12, 13, 14, 15, 16, 17, 18] (by decide +kernel) (by decide +kernel)
set_option maxRecDepth 20000 in
theorem gX1_closeFile_X1_stand : GoodIn wsX1_closeFile (wsV RX1 92 RX1 yX1_stand wsX1_stand) := goodIn_app (goodIn_of _ (by decide +kernel)) ggX1_closeFile_X1_stand
set_option maxRecDepth 20000 in
theorem ggX1_statusOfChange_X0_has : GoodIn wsX1_statusOfChange wsX0_has := goodIn_r _ [8, 9, 10, 11, 7, 12, 13, 14, 15, 16, 17, 18, 28, 29, 30] (by decide +kernel) (by decide +kernel)
set_option maxRecDepth 20000 in
theorem gX1_statusOfChange_X0_has : GoodIn wsX1_statusOfChange (wsV RX1 73 RX0 yX0_has wsX0_has) := goodIn_app (goodIn_of _ (by decide +kernel)) ggX1_statusOfChange_X0_has
set_option maxRecDepth 20000 in
theorem ggX1_placeInOrder_X0_greatest : GoodIn wsX1_placeInOrder wsX0_greatest := goodIn_r _ [7, 8, 9, 10, 11, 6, 12, 13, 23, 24, 25] (by decide +kernel) (by decide +kernel)
set_option maxRecDepth 20000 in
theorem gX1_placeInOrder_X0_greatest : GoodIn wsX1_placeInOrder (wsV RX1 127 RX0 yX0_greatest wsX0_greatest) := goodIn_app (goodIn_of _ (by decide +kernel)) ggX1_placeInOrder_X0_greatest
set_option maxRecDepth 20000 in
theorem ggX1_placeToStart_X0_has : GoodIn wsX1_placeToStart wsX0_has := goodIn_r _ [6, 7, 8, 9, 5, 10, 11, 12, 13, 14, 15, 16, 38, 39, 40] (by decide +kernel) (by decide +kernel)
set_option maxRecDepth 20000 in
theorem gX1_placeToStart_X0_has : GoodIn wsX1_placeToStart (wsV RX1 73 RX0 yX0_has wsX0_has) := goodIn_app (goodIn_of _ (by decide +kernel)) ggX1_placeToStart_X0_has
set_option maxRecDepth 20000 in
theorem ggX1_placeToStart_X0_firstAbove : GoodIn wsX1_placeToStart wsX0_firstAbove := goodIn_r _ [20, 7, 8, 9, 5, 10, 11, 12, 13, 14, 15, 16, 21, 22, 23, 24, 38, 39, 40] (by decide +kernel) (by decide +kernel)
set_option maxRecDepth 20000 in
theorem gX1_placeToStart_X0_firstAbove : GoodIn wsX1_placeToStart (wsV RX1 136 RX0 yX0_firstAbove wsX0_firstAbove) := goodIn_app (goodIn_of _ (by decide +kernel)) ggX1_placeToStart_X0_firstAbove
set_option maxRecDepth 20000 in
theorem ggX1_placeToStart_X0_lastBelow : GoodIn wsX1_placeToStart wsX0_lastBelow := goodIn_r _ [28, 7, 8, 9, 5, 10, 11, 12, 21, 22, 23, 24, 38, 39, 40] (by decide +kernel) (by decide +kernel)
set_option maxRecDepth 20000 in
theorem gX1_placeToStart_X0_lastBelow : GoodIn wsX1_placeToStart (wsV RX1 139 RX0 yX0_lastBelow wsX0_lastBelow) := goodIn_app (goodIn_of _ (by decide +kernel)) ggX1_placeToStart_X0_lastBelow
set_option maxRecDepth 20000 in
theorem ggX1_placeFromPosition_X0_has : GoodIn wsX1_placeFromPosition wsX0_has := goodIn_r _ [8, 9, 10, 11, 7, 12, 13, 14, 15, 16, 17, 18, 40, 41, 42] (by decide +kernel) (by decide +kernel)
set_option maxRecDepth 20000 in
theorem gX1_placeFromPosition_X0_has : GoodIn wsX1_placeFromPosition (wsV RX1 73 RX0 yX0_has wsX0_has) := goodIn_app (goodIn_of _ (by decide +kernel)) ggX1_placeFromPosition_X0_has
set_option maxRecDepth 20000 in
theorem ggX1_placeFromPosition_X0_lastBelow : GoodIn wsX1_placeFromPosition wsX0_lastBelow := goodIn_r _ [22, 9, 10, 11, 7, 12, 13, 14, 23, 24, 25, 26, 40, 41, 42] (by decide +kernel) (by decide +kernel)
set_option maxRecDepth 20000 in
theorem gX1_placeFromPosition_X0_lastBelow : GoodIn wsX1_placeFromPosition (wsV RX1 139 RX0 yX0_lastBelow wsX0_lastBelow) := goodIn_app (goodIn_of _ (by decide +kernel)) ggX1_placeFromPosition_X0_lastBelow
set_option maxRecDepth 20000 in
theorem ggX1_placeFromPosition_X0_firstAbove : GoodIn wsX1_placeFromPosition wsX0_firstAbove := goodIn_r _ [30, 9, 10, 11, 7, 12, 13, 14, 15, 16, 17, 18, 23, 24, 25, 26, 40, 41, 42] (by decide +kernel) (by decide +kernel)
set_option maxRecDepth 20000 in
theorem gX1_placeFromPosition_X0_firstAbove : GoodIn wsX1_placeFromPosition (wsV RX1 136 RX0 yX0_firstAbove wsX0_firstAbove) := goodIn_app (goodIn_of _ (by decide +kernel)) ggX1_placeFromPosition_X0_firstAbove
set_option maxRecDepth 20000 in
theorem ggX1_take_X1_stand : GoodIn wsX1_take wsX1_stand := goodIn_r _ [8, 9, 10, 1, 27, 28, 29, 30, 31, 32, 33, 34, 35] (by decide +kernel) (by decide +kernel)
set_option maxRecDepth 20000 in
theorem gX1_take_X1_stand : GoodIn wsX1_take (wsV RX1 92 RX1 yX1_stand wsX1_stand) := goodIn_app (goodIn_of _ (by decide +kernel)) ggX1_take_X1_stand
set_option maxRecDepth 20000 in
theorem ggX1_take_X0_recordOf : GoodIn wsX1_take wsX0_recordOf := goodIn_r _ [15, 16, 17, 18, 19, 14, 20, 21, 22, 23, 24, 25, 26, 36, 37, 38] (by decide +kernel) (by decide +kernel)
set_option maxRecDepth 20000 in
theorem gX1_take_X0_recordOf : GoodIn wsX1_take (wsV RX1 120 RX0 yX0_recordOf wsX0_recordOf) := goodIn_app (goodIn_of _ (by decide +kernel)) ggX1_take_X0_recordOf
set_option maxRecDepth 20000 in
theorem ggX1_losePosition_X1_stand : GoodIn wsX1_losePosition wsX1_stand := goodIn_r _ [5, 6, 7, 8, 9, 10, 11, 12, 13, 14, 15, 16, 17] (by decide +kernel) (by decide +kernel)
set_option maxRecDepth 20000 in
theorem gX1_losePosition_X1_stand : GoodIn wsX1_losePosition (wsV RX1 92 RX1 yX1_stand wsX1_stand) := goodIn_app (goodIn_of _ (by decide +kernel)) ggX1_losePosition_X1_stand
set_option maxRecDepth 20000 in
theorem ggX2_write_X2_upTo : GoodIn wsX2_write wsX2_upTo := goodIn_r _ [9, 10, 11, 32, 33, 34, 35, 36, 37, 38, 39, 40, 41, 42, 43, 44] (by decide +kernel) (by decide +kernel)
set_option maxRecDepth 20000 in
theorem gX2_write_X2_upTo : GoodIn wsX2_write (wsV RX2 53 RX2 yX2_upTo wsX2_upTo) := goodIn_app (goodIn_of _ (by decide +kernel)) ggX2_write_X2_upTo
set_option maxRecDepth 20000 in
theorem ggX2_write_X2_isPlace : GoodIn wsX2_write wsX2_isPlace := goodIn_r _ [15, 4, 32, 33, 34, 35, 36, 37, 38, 39, 40, 41, 42, 43, 44] (by decide +kernel) (by decide +kernel)
set_option maxRecDepth 20000 in
theorem gX2_write_X2_isPlace : GoodIn wsX2_write (wsV RX2 57 RX2 yX2_isPlace wsX2_isPlace) := goodIn_app (goodIn_of _ (by decide +kernel)) ggX2_write_X2_isPlace
set_option maxRecDepth 20000 in
theorem ggX2_write_X2_isLong : GoodIn wsX2_write wsX2_isLong := goodIn_r _ [19, 20, 21, 32, 33, 34, 35, 36, 37, 38, 39, 40, 41, 42, 43, 44] (by decide +kernel) (by decide +kernel)
set_option maxRecDepth 20000 in
theorem gX2_write_X2_isLong : GoodIn wsX2_write (wsV RX2 61 RX2 yX2_isLong wsX2_isLong) := goodIn_app (goodIn_of _ (by decide +kernel)) ggX2_write_X2_isLong
set_option maxRecDepth 20000 in
theorem ggX2_write_X2_find : GoodIn wsX2_write wsX2_find := goodIn_r _ [25, 10, 11, 32, 33, 34, 35, 36, 37, 38, 39, 40, 41, 42, 43, 44] (by decide +kernel) (by decide +kernel)
set_option maxRecDepth 20000 in
theorem gX2_write_X2_find : GoodIn wsX2_write (wsV RX2 64 RX2 yX2_find wsX2_find) := goodIn_app (goodIn_of _ (by decide +kernel)) ggX2_write_X2_find
set_option maxRecDepth 20000 in
theorem ggX2_write_X2_add : GoodIn wsX2_write wsX2_add := goodIn_r _ [29, 11, 10, 30, 31, 32, 33, 34, 35, 36, 37, 38, 39, 40, 41, 42, 43, 44] (by decide +kernel) (by decide +kernel)
set_option maxRecDepth 20000 in
theorem gX2_write_X2_add : GoodIn wsX2_write (wsV RX2 68 RX2 yX2_add wsX2_add) := goodIn_app (goodIn_of _ (by decide +kernel)) ggX2_write_X2_add
set_option maxRecDepth 20000 in
theorem ggX2_take_X2_find : GoodIn wsX2_take wsX2_find := goodIn_r _ [10, 11, 12, 13, 14, 15, 16, 17, 18, 19, 20, 21, 22, 23, 24, 25] (by decide +kernel) (by decide +kernel)
set_option maxRecDepth 20000 in
theorem gX2_take_X2_find : GoodIn wsX2_take (wsV RX2 64 RX2 yX2_find wsX2_find) := goodIn_app (goodIn_of _ (by decide +kernel)) ggX2_take_X2_find
set_option maxRecDepth 20000 in
theorem ggX2_read_X2_reads : GoodIn wsX2_read wsX2_reads := goodIn_r _ [10, 2, 24, 25, 26, 27, 28, 29, 30, 31, 32, 33, 34, 35, 36] (by decide +kernel) (by decide +kernel)
set_option maxRecDepth 20000 in
theorem gX2_read_X2_reads : GoodIn wsX2_read (wsV RX2 75 RX2 yX2_reads wsX2_reads) := goodIn_app (goodIn_of _ (by decide +kernel)) ggX2_read_X2_reads
set_option maxRecDepth 20000 in
theorem ggX2_read_X2_find : GoodIn wsX2_read wsX2_find := goodIn_r _ [14, 15, 16, 24, 25, 26, 27, 28, 29, 30, 31, 32, 33, 34, 35, 36] (by decide +kernel) (by decide +kernel)
set_option maxRecDepth 20000 in
theorem gX2_read_X2_find : GoodIn wsX2_read (wsV RX2 64 RX2 yX2_find wsX2_find) := goodIn_app (goodIn_of _ (by decide +kernel)) ggX2_read_X2_find
set_option maxRecDepth 20000 in
theorem ggX2_read_X2_take : GoodIn wsX2_read wsX2_take := goodIn_r _ [20, 5, 21, 3, 22, 23, 11, 12, 13, 9, 14, 15, 16, 24, 25, 26, 27, 28, 29, 30, 31, 32, 33, 34, 35, 36] (by decide +kernel) (by decide +kernel)
set_option maxRecDepth 20000 in
theorem gX2_read_X2_take : GoodIn wsX2_read (wsV RX2 79 RX2 yX2_take wsX2_take) := goodIn_app (goodIn_of _ (by decide +kernel)) ggX2_read_X2_take
set_option maxRecDepth 20000 in
theorem ggX2_start_X2_reads : GoodIn wsX2_start wsX2_reads := goodIn_r _ [11, 2, 26, 27, 28, 29, 30, 31, 32, 33, 34, 35, 36, 37, 38] (by decide +kernel) (by decide +kernel)
set_option maxRecDepth 20000 in
theorem gX2_start_X2_reads : GoodIn wsX2_start (wsV RX2 75 RX2 yX2_reads wsX2_reads) := goodIn_app (goodIn_of _ (by decide +kernel)) ggX2_start_X2_reads
set_option maxRecDepth 20000 in
theorem ggX2_start_X2_find : GoodIn wsX2_start wsX2_find := goodIn_r _ [15, 16, 17, 26, 27, 28, 29, 30, 31, 32, 33, 34, 35, 36, 37, 38] (by decide +kernel) (by decide +kernel)
set_option maxRecDepth 20000 in
theorem gX2_start_X2_find : GoodIn wsX2_start (wsV RX2 64 RX2 yX2_find wsX2_find) := goodIn_app (goodIn_of _ (by decide +kernel)) ggX2_start_X2_find
set_option maxRecDepth 20000 in
theorem ggX2_start_X2_from : GoodIn wsX2_start wsX2_from := goodIn_r _ [21, 16, 17, 26, 27, 28, 29, 30, 31, 32, 33, 34, 35, 36, 37, 38] (by decide +kernel) (by decide +kernel)
set_option maxRecDepth 20000 in
theorem gX2_start_X2_from : GoodIn wsX2_start (wsV RX2 83 RX2 yX2_from wsX2_from) := goodIn_app (goodIn_of _ (by decide +kernel)) ggX2_start_X2_from
set_option maxRecDepth 20000 in
theorem ggX2_start_X2_upTo : GoodIn wsX2_start wsX2_upTo := goodIn_r _ [25, 16, 17, 26, 27, 28, 29, 30, 31, 32, 33, 34, 35, 36, 37, 38] (by decide +kernel) (by decide +kernel)
set_option maxRecDepth 20000 in
theorem gX2_start_X2_upTo : GoodIn wsX2_start (wsV RX2 53 RX2 yX2_upTo wsX2_upTo) := goodIn_app (goodIn_of _ (by decide +kernel)) ggX2_start_X2_upTo
set_option maxRecDepth 20000 in
theorem ggX2_next_X2_reads : GoodIn wsX2_next wsX2_reads := goodIn_r _ [11, 2, 38, 39, 40, 41, 42, 43, 44, 45, 46, 47, 48, 49, 50] (by decide +kernel) (by decide +kernel)
set_option maxRecDepth 20000 in
theorem gX2_next_X2_reads : GoodIn wsX2_next (wsV RX2 75 RX2 yX2_reads wsX2_reads) := goodIn_app (goodIn_of _ (by decide +kernel)) ggX2_next_X2_reads
set_option maxRecDepth 20000 in
theorem ggX2_next_X2_upTo : GoodIn wsX2_next wsX2_upTo := goodIn_r _ [15, 16, 17, 38, 39, 40, 41, 42, 43, 44, 45, 46, 47, 48, 49, 50] (by decide +kernel) (by decide +kernel)
set_option maxRecDepth 20000 in
theorem gX2_next_X2_upTo : GoodIn wsX2_next (wsV RX2 53 RX2 yX2_upTo wsX2_upTo) := goodIn_app (goodIn_of _ (by decide +kernel)) ggX2_next_X2_upTo
set_option maxRecDepth 20000 in
theorem ggX2_next_X2_from : GoodIn wsX2_next wsX2_from := goodIn_r _ [21, 16, 17, 38, 39, 40, 41, 42, 43, 44, 45, 46, 47, 48, 49, 50] (by decide +kernel) (by decide +kernel)
set_option maxRecDepth 20000 in
theorem gX2_next_X2_from : GoodIn wsX2_next (wsV RX2 83 RX2 yX2_from wsX2_from) := goodIn_app (goodIn_of _ (by decide +kernel)) ggX2_next_X2_from
set_option maxRecDepth 20000 in
theorem ggX2_next_X2_isLong : GoodIn wsX2_next wsX2_isLong := goodIn_r _ [25, 26, 27, 38, 39, 40, 41, 42, 43, 44, 45, 46, 47, 48, 49, 50] (by decide +kernel) (by decide +kernel)
set_option maxRecDepth 20000 in
theorem gX2_next_X2_isLong : GoodIn wsX2_next (wsV RX2 61 RX2 yX2_isLong wsX2_isLong) := goodIn_app (goodIn_of _ (by decide +kernel)) ggX2_next_X2_isLong
set_option maxRecDepth 20000 in
theorem ggX2_next_X2_take : GoodIn wsX2_next wsX2_take := goodIn_r _ [31, 4, 6, 3, 32, 33, 34, 35, 36, 10, 37, 16, 17, 38, 39, 40, 41, 42, 43, 44, 45, 46, 47, 48, 49, 50] (by decide +kernel) (by decide +kernel)
set_option maxRecDepth 20000 in
theorem gX2_next_X2_take : GoodIn wsX2_next (wsV RX2 79 RX2 yX2_take wsX2_take) := goodIn_app (goodIn_of _ (by decide +kernel)) ggX2_next_X2_take
set_option maxRecDepth 20000 in
theorem ggX2_meant_X2_find : GoodIn wsX2_meant wsX2_find := goodIn_r _ [6, 7, 8, 9, 10, 11, 12, 13, 14, 15, 16, 17, 18, 19, 20, 21] (by decide +kernel) (by decide +kernel)
set_option maxRecDepth 20000 in
theorem gX2_meant_X2_find : GoodIn wsX2_meant (wsV RX2 64 RX2 yX2_find wsX2_find) := goodIn_app (goodIn_of _ (by decide +kernel)) ggX2_meant_X2_find
set_option maxRecDepth 20000 in
theorem ggX2_rewrite_X2_meant : GoodIn wsX2_rewrite wsX2_meant := goodIn_r _ [10, 3, 11, 12, 13, 9, 14, 15, 16, 17, 18, 19, 20, 21, 22, 23, 24, 25, 26, 27, 28, 29] (by decide +kernel) (by decide +kernel)
set_option maxRecDepth 20000 in
theorem gX2_rewrite_X2_meant : GoodIn wsX2_rewrite (wsV RX2 86 RX2 yX2_meant wsX2_meant) := goodIn_app (goodIn_of _ (by decide +kernel)) ggX2_rewrite_X2_meant
set_option maxRecDepth 20000 in
theorem ggX2_remove_X2_meant : GoodIn wsX2_remove wsX2_meant := goodIn_r _ [11, 3, 12, 13, 14, 10, 15, 4, 5, 16, 17, 18, 19, 20, 21, 22, 23, 24, 25, 26, 27, 28] (by decide +kernel) (by decide +kernel)
set_option maxRecDepth 20000 in
theorem gX2_remove_X2_meant : GoodIn wsX2_remove (wsV RX2 86 RX2 yX2_meant wsX2_meant) := goodIn_app (goodIn_of _ (by decide +kernel)) ggX2_remove_X2_meant
set_option maxRecDepth 20000 in
theorem ggX2_cell_X2_isPlace : GoodIn wsX2_cell wsX2_isPlace := goodIn_r _ [7, 8, 15, 16, 17, 18, 19, 20, 21, 22, 23, 24, 25, 26, 27] (by decide +kernel) (by decide +kernel)
set_option maxRecDepth 20000 in
theorem gX2_cell_X2_isPlace : GoodIn wsX2_cell (wsV RX2 57 RX2 yX2_isPlace wsX2_isPlace) := goodIn_app (goodIn_of _ (by decide +kernel)) ggX2_cell_X2_isPlace
set_option maxRecDepth 20000 in
theorem ggX2_cell_X2_find : GoodIn wsX2_cell wsX2_find := goodIn_r _ [12, 13, 14, 15, 16, 17, 18, 19, 20, 21, 22, 23, 24, 25, 26, 27] (by decide +kernel) (by decide +kernel)
set_option maxRecDepth 20000 in
theorem gX2_cell_X2_find : GoodIn wsX2_cell (wsV RX2 64 RX2 yX2_find wsX2_find) := goodIn_app (goodIn_of _ (by decide +kernel)) ggX2_cell_X2_find
set_option maxRecDepth 20000 in
theorem ggX2_count_X2_upTo : GoodIn wsX2_count wsX2_upTo := goodIn_r _ [9, 10, 11, 16, 17, 18, 19, 20, 21, 22, 23, 24, 25, 26, 27, 28] (by decide +kernel) (by decide +kernel)
set_option maxRecDepth 20000 in
theorem gX2_count_X2_upTo : GoodIn wsX2_count (wsV RX2 53 RX2 yX2_upTo wsX2_upTo) := goodIn_app (goodIn_of _ (by decide +kernel)) ggX2_count_X2_upTo
set_option maxRecDepth 20000 in
theorem ggX2_count_X2_from : GoodIn wsX2_count wsX2_from := goodIn_r _ [15, 10, 11, 16, 17, 18, 19, 20, 21, 22, 23, 24, 25, 26, 27, 28] (by decide +kernel) (by decide +kernel)
set_option maxRecDepth 20000 in
theorem gX2_count_X2_from : GoodIn wsX2_count (wsV RX2 83 RX2 yX2_from wsX2_from) := goodIn_app (goodIn_of _ (by decide +kernel)) ggX2_count_X2_from
set_option maxRecDepth 20000 in
theorem ggL_cell__X1_cell : GoodIn wsL_cell_ wsX1_cell := goodIn_r _ [5, 6, 7, 8, 9, 10, 11, 12, 4, 13, 14, 15, 16, 17, 18, 19, 20, 21, 22, 23, 24, 25, 26, 27, 28, 29, 30, 31, 32, 33, 34, 35, 36, 37, 38, 39, 40, 41, 42, 43, 44, 45, 46, 47, 48] (by decide +kernel) (by decide +kernel)
set_option maxRecDepth 20000 in
theorem gL_cell__X1_cell : GoodIn wsL_cell_ (wsV RL 7 RX1 yX1_cell wsX1_cell) := goodIn_app (goodIn_of _ (by decide +kernel)) ggL_cell__X1_cell
set_option maxRecDepth 20000 in
theorem ggL_law_L_cell : GoodIn wsL_law wsL_cell := goodIn_r _ [11] (by decide +kernel) (by decide +kernel)
set_option maxRecDepth 20000 in
theorem gL_law_L_cell : GoodIn wsL_law (va_wsS RL 15 yL_cell wsL_cell) := goodIn_app (goodIn_of _ (by decide +kernel)) ggL_law_L_cell
set_option maxRecDepth 20000 in
theorem ggL_law_X1_init : GoodIn wsL_law wsX1_init := goodIn_r _ [14, 15, 16, 17, 18, 19, 20, 21, 22, 23, 24, 25, 26, 27, 28, 29, 30, 31, 32, 33, 34, 35, 36, 37, 38, 39, 40, 41, 42, 43, 44, 6, 45, 46, 324, 325, 326, 327, 328, 329, 330, 331, 332, 346, 347, 348] (by decide +kernel) (by decide +kernel)
set_option maxRecDepth 20000 in
theorem gL_law_X1_init : GoodIn wsL_law (wsX1_init) := ggL_law_X1_init
set_option maxRecDepth 20000 in
theorem ggL_law_X2_init : GoodIn wsL_law wsX2_init := goodIn_r _ [49, 50, 16, 17, 43, 51, 6, 52, 53, 54, 55, 56, 333, 334, 335, 336, 337, 338, 339, 340, 341, 342, 343, 344, 345] (by decide +kernel) (by decide +kernel)
set_option maxRecDepth 20000 in
theorem gL_law_X2_init : GoodIn wsL_law (wsX2_init) := ggL_law_X2_init
set_option maxRecDepth 20000 in
theorem ggL_law_X1_open : GoodIn wsL_law wsX1_open := goodIn_r _ [60, 61, 62, 63, 2, 64, 32, 65, 66, 67, 68, 33, 34, 35, 69, 70, 71, 72, 31, 30, 73, 74, 75, 29, 76, 46, 324, 325, 326, 327, 328, 329, 330, 331, 332, 346, 347, 348] (by decide +kernel) (by decide +kernel)
set_option maxRecDepth 20000 in
theorem gL_law_X1_open : GoodIn wsL_law (wsV RL 26 RX1 yX1_open wsX1_open) := goodIn_app (goodIn_of _ (by decide +kernel)) ggL_law_X1_open
set_option maxRecDepth 20000 in
theorem ggL_law_X2_open : GoodIn wsL_law wsX2_open := goodIn_r _ [80, 81, 53, 82, 83, 84, 85, 86, 333, 334, 335, 336, 337, 338, 339, 340, 341, 342, 343, 344, 345] (by decide +kernel) (by decide +kernel)
set_option maxRecDepth 20000 in
theorem gL_law_X2_open : GoodIn wsL_law (wsV RL 30 RX2 yX2_open wsX2_open) := goodIn_app (goodIn_of _ (by decide +kernel)) ggL_law_X2_open
set_option maxRecDepth 20000 in
theorem ggL_law_X1_write : GoodIn wsL_law wsX1_write := goodIn_r _ [90, 32, 35, 30, 36, 91, 92, 93, 2, 94, 95, 96, 97, 29, 98, 46, 99, 100, 101, 102, 44, 103, 104, 105, 106, 26, 107, 108, 109, 110, 37, 111, 112, 113, 114, 115, 116, 117, 118, 119, 120, 121, 122, 123, 124, 125, 126, 45, 324, 325, 326, 327, 328, 329, 330, 331, 332, 346, 347, 348] (by decide +kernel) (by decide +kernel)
set_option maxRecDepth 20000 in
theorem gL_law_X1_write : GoodIn wsL_law (wsV RL 33 RX1 yX1_write wsX1_write) := goodIn_app (goodIn_of _ (by decide +kernel)) ggL_law_X1_write
set_option maxRecDepth 20000 in
theorem ggL_law_X2_write : GoodIn wsL_law wsX2_write := goodIn_r _ [130, 81, 53, 82, 56, 131, 132, 133, 5, 134, 84, 51, 135, 136, 137, 138, 139, 140, 141, 142, 54, 143, 144, 145, 146, 147, 148, 149, 150, 151, 52, 152, 333, 334, 335, 336, 337, 338, 339, 340, 341, 342, 343, 344, 345] (by decide +kernel) (by decide +kernel)
set_option maxRecDepth 20000 in
theorem gL_law_X2_write : GoodIn wsL_law (wsV RL 37 RX2 yX2_write wsX2_write) := goodIn_app (goodIn_of _ (by decide +kernel)) ggL_law_X2_write
set_option maxRecDepth 20000 in
theorem ggL_law_X1_read : GoodIn wsL_law wsX1_read := goodIn_r _ [156, 30, 157, 158, 159, 2, 160, 32, 111, 112, 113, 29, 114, 115, 116, 117, 118, 46, 44, 119, 120, 121, 122, 161, 162, 163, 164, 65, 66, 67, 68, 33, 34, 35, 165, 166, 167, 168, 36, 169, 170, 171, 172, 45, 324, 325, 326, 327, 328, 329, 330, 331, 332, 346, 347, 348] (by decide +kernel) (by decide +kernel)
set_option maxRecDepth 20000 in
theorem gL_law_X1_read : GoodIn wsL_law (wsV RL 38 RX1 yX1_read wsX1_read) := goodIn_app (goodIn_of _ (by decide +kernel)) ggL_law_X1_read
set_option maxRecDepth 20000 in
theorem ggL_law_X2_read : GoodIn wsL_law wsX2_read := goodIn_r _ [176, 81, 53, 82, 86, 85, 177, 178, 179, 5, 180, 144, 145, 146, 147, 84, 51, 181, 182, 183, 184, 185, 52, 152, 333, 334, 335, 336, 337, 338, 339, 340, 341, 342, 343, 344, 345] (by decide +kernel) (by decide +kernel)
set_option maxRecDepth 20000 in
theorem gL_law_X2_read : GoodIn wsL_law (wsV RL 41 RX2 yX2_read wsX2_read) := goodIn_app (goodIn_of _ (by decide +kernel)) ggL_law_X2_read
set_option maxRecDepth 20000 in
theorem ggL_law_X1_value : GoodIn wsL_law wsX1_value := goodIn_r _ [189, 36, 324, 325, 326, 327, 328, 329, 330, 331, 332] (by decide +kernel) (by decide +kernel)
set_option maxRecDepth 20000 in
theorem gL_law_X1_value : GoodIn wsL_law (wsV RL 42 RX1 yX1_value wsX1_value) := goodIn_app (goodIn_of _ (by decide +kernel)) ggL_law_X1_value
set_option maxRecDepth 20000 in
theorem ggL_law_X2_value : GoodIn wsL_law wsX2_value := goodIn_r _ [193, 81, 152, 333, 334, 335, 336, 337, 338, 339, 340, 341, 342, 343, 344, 345] (by decide +kernel) (by decide +kernel)
set_option maxRecDepth 20000 in
theorem gL_law_X2_value : GoodIn wsL_law (wsV RL 46 RX2 yX2_value wsX2_value) := goodIn_app (goodIn_of _ (by decide +kernel)) ggL_law_X2_value
set_option maxRecDepth 20000 in
theorem ggL_law_X1_start : GoodIn wsL_law wsX1_start := goodIn_r _ [197, 157, 158, 159, 2, 160, 32, 198, 199, 200, 201, 30, 111, 112, 113, 29, 114, 115, 116, 117, 118, 46, 44, 119, 120, 121, 122, 202, 203, 204, 205, 99, 100, 101, 102, 206, 207, 208, 209, 161, 162, 163, 164, 65, 66, 67, 68, 33, 34, 35, 324, 325, 326, 327, 328, 329, 330, 331, 332, 346, 347, 348] (by decide +kernel) (by decide +kernel)
set_option maxRecDepth 20000 in
theorem gL_law_X1_start : GoodIn wsL_law (wsV RL 47 RX1 yX1_start wsX1_start) := goodIn_app (goodIn_of _ (by decide +kernel)) ggL_law_X1_start
set_option maxRecDepth 20000 in
theorem ggL_law_X2_start : GoodIn wsL_law wsX2_start := goodIn_r _ [213, 81, 53, 82, 86, 85, 185, 177, 178, 179, 5, 180, 144, 145, 146, 147, 84, 51, 214, 215, 216, 217, 131, 132, 133, 134, 333, 334, 335, 336, 337, 338, 339, 340, 341, 342, 343, 344, 345] (by decide +kernel) (by decide +kernel)
set_option maxRecDepth 20000 in
theorem gL_law_X2_start : GoodIn wsL_law (wsV RL 51 RX2 yX2_start wsX2_start) := goodIn_app (goodIn_of _ (by decide +kernel)) ggL_law_X2_start
set_option maxRecDepth 20000 in
theorem ggL_law_X1_next : GoodIn wsL_law wsX1_next := goodIn_r _ [221, 33, 35, 157, 158, 159, 2, 160, 32, 222, 223, 224, 225, 30, 34, 111, 112, 113, 29, 114, 115, 116, 117, 118, 46, 44, 119, 120, 121, 122, 206, 207, 208, 209, 99, 100, 101, 102, 202, 203, 204, 205, 161, 162, 163, 164, 65, 66, 67, 68, 107, 108, 109, 110, 37, 165, 166, 167, 168, 36, 169, 170, 171, 172, 45, 324, 325, 326, 327, 328, 329, 330, 331, 332, 346, 347, 348] (by decide +kernel) (by decide +kernel)
set_option maxRecDepth 20000 in
theorem gL_law_X1_next : GoodIn wsL_law (wsV RL 52 RX1 yX1_next wsX1_next) := goodIn_app (goodIn_of _ (by decide +kernel)) ggL_law_X1_next
set_option maxRecDepth 20000 in
theorem ggL_law_X2_next : GoodIn wsL_law wsX2_next := goodIn_r _ [229, 81, 53, 82, 85, 86, 185, 177, 178, 179, 5, 180, 131, 132, 133, 134, 84, 51, 214, 215, 216, 217, 139, 140, 141, 142, 54, 143, 181, 182, 183, 184, 52, 152, 144, 145, 146, 147, 333, 334, 335, 336, 337, 338, 339, 340, 341, 342, 343, 344, 345] (by decide +kernel) (by decide +kernel)
set_option maxRecDepth 20000 in
theorem gL_law_X2_next : GoodIn wsL_law (wsV RL 56 RX2 yX2_next wsX2_next) := goodIn_app (goodIn_of _ (by decide +kernel)) ggL_law_X2_next
set_option maxRecDepth 20000 in
theorem ggL_law_X1_rewrite : GoodIn wsL_law wsX1_rewrite := goodIn_r _ [233, 30, 36, 234, 235, 236, 2, 237, 35, 238, 239, 240, 241, 32, 111, 112, 113, 29, 114, 115, 116, 117, 118, 46, 44, 119, 120, 121, 122, 242, 243, 244, 245, 45, 324, 325, 326, 327, 328, 329, 330, 331, 332, 346, 347, 348] (by decide +kernel) (by decide +kernel)
set_option maxRecDepth 20000 in
theorem gL_law_X1_rewrite : GoodIn wsL_law (wsV RL 57 RX1 yX1_rewrite wsX1_rewrite) := goodIn_app (goodIn_of _ (by decide +kernel)) ggL_law_X1_rewrite
set_option maxRecDepth 20000 in
theorem ggL_law_X2_rewrite : GoodIn wsL_law wsX2_rewrite := goodIn_r _ [249, 81, 53, 82, 52, 152, 250, 251, 252, 5, 253, 144, 145, 146, 147, 84, 51, 333, 334, 335, 336, 337, 338, 339, 340, 341, 342, 343, 344, 345] (by decide +kernel) (by decide +kernel)
set_option maxRecDepth 20000 in
theorem gL_law_X2_rewrite : GoodIn wsL_law (wsV RL 60 RX2 yX2_rewrite wsX2_rewrite) := goodIn_app (goodIn_of _ (by decide +kernel)) ggL_law_X2_rewrite
set_option maxRecDepth 20000 in
theorem ggL_law_X1_remove : GoodIn wsL_law wsX1_remove := goodIn_r _ [257, 30, 234, 235, 236, 2, 237, 35, 238, 239, 240, 241, 32, 111, 112, 113, 29, 114, 115, 116, 117, 118, 46, 44, 119, 120, 121, 122, 258, 259, 260, 261, 45, 324, 325, 326, 327, 328, 329, 330, 331, 332, 346, 347, 348] (by decide +kernel) (by decide +kernel)
set_option maxRecDepth 20000 in
theorem gL_law_X1_remove : GoodIn wsL_law (wsV RL 61 RX1 yX1_remove wsX1_remove) := goodIn_app (goodIn_of _ (by decide +kernel)) ggL_law_X1_remove
set_option maxRecDepth 20000 in
theorem ggL_law_X2_remove : GoodIn wsL_law wsX2_remove := goodIn_r _ [265, 81, 53, 82, 84, 51, 52, 250, 251, 252, 5, 253, 144, 145, 146, 147, 333, 334, 335, 336, 337, 338, 339, 340, 341, 342, 343, 344, 345] (by decide +kernel) (by decide +kernel)
set_option maxRecDepth 20000 in
theorem gL_law_X2_remove : GoodIn wsL_law (wsV RL 64 RX2 yX2_remove wsX2_remove) := goodIn_app (goodIn_of _ (by decide +kernel)) ggL_law_X2_remove
set_option maxRecDepth 20000 in
theorem ggL_law_X1_number : GoodIn wsL_law wsX1_number := goodIn_r _ [269, 35, 324, 325, 326, 327, 328, 329, 330, 331, 332] (by decide +kernel) (by decide +kernel)
set_option maxRecDepth 20000 in
theorem gL_law_X1_number : GoodIn wsL_law (wsV RL 65 RX1 yX1_number wsX1_number) := goodIn_app (goodIn_of _ (by decide +kernel)) ggL_law_X1_number
set_option maxRecDepth 20000 in
theorem ggL_law_X2_number : GoodIn wsL_law wsX2_number := goodIn_r _ [273, 81, 82, 333, 334, 335, 336, 337, 338, 339, 340, 341, 342, 343, 344, 345] (by decide +kernel) (by decide +kernel)
set_option maxRecDepth 20000 in
theorem gL_law_X2_number : GoodIn wsL_law (wsV RL 69 RX2 yX2_number wsX2_number) := goodIn_app (goodIn_of _ (by decide +kernel)) ggL_law_X2_number
set_option maxRecDepth 20000 in
theorem ggL_law_L_cell_ : GoodIn wsL_law wsL_cell_ := goodIn_r _ [276, 277, 278, 279, 2, 280, 281, 282, 283, 30, 103, 104, 105, 106, 26, 169, 170, 171, 29, 172, 45, 115, 116, 117, 118, 46, 44, 119, 120, 121, 122, 349, 350, 351, 352, 353, 354, 324, 325, 326, 327, 328, 329, 330, 331, 332, 346, 347, 348] (by decide +kernel) (by decide +kernel)
set_option maxRecDepth 20000 in
theorem gL_law_L_cell_ : GoodIn wsL_law (va_wsS RL 70 yL_cell_ wsL_cell_) := goodIn_app (goodIn_of _ (by decide +kernel)) ggL_law_L_cell_
set_option maxRecDepth 20000 in
theorem ggL_law_X2_cell : GoodIn wsL_law wsX2_cell := goodIn_r _ [287, 81, 52, 135, 136, 137, 5, 138, 56, 144, 145, 146, 147, 84, 51, 333, 334, 335, 336, 337, 338, 339, 340, 341, 342, 343, 344, 345] (by decide +kernel) (by decide +kernel)
set_option maxRecDepth 20000 in
theorem gL_law_X2_cell : GoodIn wsL_law (wsV RL 73 RX2 yX2_cell wsX2_cell) := goodIn_app (goodIn_of _ (by decide +kernel)) ggL_law_X2_cell
set_option maxRecDepth 20000 in
theorem ggL_law_X2_thrown : GoodIn wsL_law wsX2_thrown := goodIn_r _ [291, 81, 333, 334, 335, 336, 337, 338, 339, 340, 341, 342, 343, 344, 345] (by decide +kernel) (by decide +kernel)
set_option maxRecDepth 20000 in
theorem gL_law_X2_thrown : GoodIn wsL_law (wsV RL 74 RX2 yX2_thrown wsX2_thrown) := goodIn_app (goodIn_of _ (by decide +kernel)) ggL_law_X2_thrown
set_option maxRecDepth 20000 in
theorem ggL_law_X1_records : GoodIn wsL_law wsX1_records := goodIn_r _ [295, 30, 296, 297, 298, 29, 299, 46, 324, 325, 326, 327, 328, 329, 330, 331, 332, 346, 347, 348] (by decide +kernel) (by decide +kernel)
set_option maxRecDepth 20000 in
theorem gL_law_X1_records : GoodIn wsL_law (wsV RL 77 RX1 yX1_records wsX1_records) := goodIn_app (goodIn_of _ (by decide +kernel)) ggL_law_X1_records
set_option maxRecDepth 20000 in
theorem ggL_law_X2_records : GoodIn wsL_law wsX2_records := goodIn_r _ [303, 81, 84, 333, 334, 335, 336, 337, 338, 339, 340, 341, 342, 343, 344, 345] (by decide +kernel) (by decide +kernel)
set_option maxRecDepth 20000 in
theorem gL_law_X2_records : GoodIn wsL_law (wsV RL 80 RX2 yX2_records wsX2_records) := goodIn_app (goodIn_of _ (by decide +kernel)) ggL_law_X2_records
set_option maxRecDepth 20000 in
theorem ggL_law_X1_digits : GoodIn wsL_law wsX1_digits := goodIn_r _ [307, 37, 324, 325, 326, 327, 328, 329, 330, 331, 332] (by decide +kernel) (by decide +kernel)
set_option maxRecDepth 20000 in
theorem gL_law_X1_digits : GoodIn wsL_law (wsV RL 81 RX1 yX1_digits wsX1_digits) := goodIn_app (goodIn_of _ (by decide +kernel)) ggL_law_X1_digits
set_option maxRecDepth 20000 in
theorem ggL_law_X2_digits : GoodIn wsL_law wsX2_digits := goodIn_r _ [311, 81, 54, 333, 334, 335, 336, 337, 338, 339, 340, 341, 342, 343, 344, 345] (by decide +kernel) (by decide +kernel)
set_option maxRecDepth 20000 in
theorem gL_law_X2_digits : GoodIn wsL_law (wsV RL 84 RX2 yX2_digits wsX2_digits) := goodIn_app (goodIn_of _ (by decide +kernel)) ggL_law_X2_digits
set_option maxRecDepth 20000 in
theorem ggL_law_X1_count : GoodIn wsL_law wsX1_count := goodIn_r _ [315, 26, 31, 32, 30, 95, 96, 97, 29, 98, 46, 99, 100, 101, 102, 44, 316, 317, 318, 319, 324, 325, 326, 327, 328, 329, 330, 331, 332, 346, 347, 348] (by decide +kernel) (by decide +kernel)
set_option maxRecDepth 20000 in
theorem gL_law_X1_count : GoodIn wsL_law (wsV RL 85 RX1 yX1_count wsX1_count) := goodIn_app (goodIn_of _ (by decide +kernel)) ggL_law_X1_count
set_option maxRecDepth 20000 in
theorem ggL_law_X2_count : GoodIn wsL_law wsX2_count := goodIn_r _ [323, 81, 56, 83, 53, 131, 132, 133, 5, 134, 84, 51, 214, 215, 216, 217, 333, 334, 335, 336, 337, 338, 339, 340, 341, 342, 343, 344, 345] (by decide +kernel) (by decide +kernel)
set_option maxRecDepth 20000 in
theorem gL_law_X2_count : GoodIn wsL_law (wsV RL 88 RX2 yX2_count wsX2_count) := goodIn_app (goodIn_of _ (by decide +kernel)) ggL_law_X2_count
abbrev vwCl : List vw_C := [(RJx00060, TJx00060, 6), (RX0, TX0, 3), (RX1, TX1, 9), (RX2, TX2, 13)]
end
section
theorem dX0_init_0 : decode cX0_init 0 = .ok (.aload_n 0, 1) := by decide +kernel
theorem dX0_init_1 : decode cX0_init 1 = .ok (.invokespecial 3, 3) := by decide +kernel
theorem dX0_init_4 : decode cX0_init 4 = .ok (.iconst 0, 1) := by decide +kernel
theorem dX0_init_5 : decode cX0_init 5 = .ok (.iload_n 1, 1) := by decide +kernel
theorem dX0_init_6 : decode cX0_init 6 = .ok (.invokestatic 9, 3) := by decide +kernel
theorem dX0_init_9 : decode cX0_init 9 = .ok (.istore_n 2, 1) := by decide +kernel
theorem dX0_init_10 : decode cX0_init 10 = .ok (.aload_n 0, 1) := by decide +kernel
theorem dX0_init_11 : decode cX0_init 11 = .ok (.iload_n 2, 1) := by decide +kernel
theorem dX0_init_12 : decode cX0_init 12 = .ok (.newarray .int, 2) := by decide +kernel
theorem dX0_init_14 : decode cX0_init 14 = .ok (.putfield 15, 3) := by decide +kernel
theorem dX0_init_17 : decode cX0_init 17 = .ok (.aload_n 0, 1) := by decide +kernel
theorem dX0_init_18 : decode cX0_init 18 = .ok (.iload_n 2, 1) := by decide +kernel
theorem dX0_init_19 : decode cX0_init 19 = .ok (.newarray .long, 2) := by decide +kernel
theorem dX0_init_21 : decode cX0_init 21 = .ok (.putfield 21, 3) := by decide +kernel
theorem dX0_init_24 : decode cX0_init 24 = .ok (.aload_n 0, 1) := by decide +kernel
theorem dX0_init_25 : decode cX0_init 25 = .ok (.iconst 0, 1) := by decide +kernel
theorem dX0_init_26 : decode cX0_init 26 = .ok (.putfield 25, 3) := by decide +kernel
theorem dX0_init_29 : decode cX0_init 29 = .ok (.return_, 1) := by decide +kernel
theorem dX0_size_0 : decode cX0_size 0 = .ok (.aload_n 0, 1) := by decide +kernel
theorem dX0_size_1 : decode cX0_size 1 = .ok (.getfield 25, 3) := by decide +kernel
theorem dX0_size_4 : decode cX0_size 4 = .ok (.ireturn, 1) := by decide +kernel
theorem dX0_clear_0 : decode cX0_clear 0 = .ok (.aload_n 0, 1) := by decide +kernel
theorem dX0_clear_1 : decode cX0_clear 1 = .ok (.iconst 0, 1) := by decide +kernel
theorem dX0_clear_2 : decode cX0_clear 2 = .ok (.putfield 25, 3) := by decide +kernel
theorem dX0_clear_5 : decode cX0_clear 5 = .ok (.return_, 1) := by decide +kernel
theorem dX0_has_0 : decode cX0_has 0 = .ok (.aload_n 0, 1) := by decide +kernel
theorem dX0_has_1 : decode cX0_has 1 = .ok (.aload_n 0, 1) := by decide +kernel
theorem dX0_has_2 : decode cX0_has 2 = .ok (.iload_n 1, 1) := by decide +kernel
theorem dX0_has_3 : decode cX0_has 3 = .ok (.invokevirtual 29, 3) := by decide +kernel
theorem dX0_has_6 : decode cX0_has 6 = .ok (.iload_n 1, 1) := by decide +kernel
theorem dX0_has_7 : decode cX0_has 7 = .ok (.invokevirtual 33, 3) := by decide +kernel
theorem dX0_has_10 : decode cX0_has 10 = .ok (.ireturn, 1) := by decide +kernel
theorem dX0_recordOf_0 : decode cX0_recordOf 0 = .ok (.aload_n 0, 1) := by decide +kernel
theorem dX0_recordOf_1 : decode cX0_recordOf 1 = .ok (.iload_n 1, 1) := by decide +kernel
theorem dX0_recordOf_2 : decode cX0_recordOf 2 = .ok (.invokevirtual 29, 3) := by decide +kernel
theorem dX0_recordOf_5 : decode cX0_recordOf 5 = .ok (.istore_n 2, 1) := by decide +kernel
theorem dX0_recordOf_6 : decode cX0_recordOf 6 = .ok (.aload_n 0, 1) := by decide +kernel
theorem dX0_recordOf_7 : decode cX0_recordOf 7 = .ok (.iload_n 2, 1) := by decide +kernel
theorem dX0_recordOf_8 : decode cX0_recordOf 8 = .ok (.iload_n 1, 1) := by decide +kernel
theorem dX0_recordOf_9 : decode cX0_recordOf 9 = .ok (.invokevirtual 33, 3) := by decide +kernel
theorem dX0_recordOf_12 : decode cX0_recordOf 12 = .ok (.ifCond .eq 12, 3) := by decide +kernel
theorem dX0_recordOf_15 : decode cX0_recordOf 15 = .ok (.aload_n 0, 1) := by decide +kernel
theorem dX0_recordOf_16 : decode cX0_recordOf 16 = .ok (.getfield 21, 3) := by decide +kernel
theorem dX0_recordOf_19 : decode cX0_recordOf 19 = .ok (.iload_n 2, 1) := by decide +kernel
theorem dX0_recordOf_20 : decode cX0_recordOf 20 = .ok (.laload, 1) := by decide +kernel
theorem dX0_recordOf_21 : decode cX0_recordOf 21 = .ok (.goto 4, 3) := by decide +kernel
theorem dX0_recordOf_24 : decode cX0_recordOf 24 = .ok (.lconst 0, 1) := by decide +kernel
theorem dX0_recordOf_25 : decode cX0_recordOf 25 = .ok (.lreturn, 1) := by decide +kernel
theorem dX0_least_0 : decode cX0_least 0 = .ok (.aload_n 0, 1) := by decide +kernel
theorem dX0_least_1 : decode cX0_least 1 = .ok (.iconst 0, 1) := by decide +kernel
theorem dX0_least_2 : decode cX0_least 2 = .ok (.invokevirtual 37, 3) := by decide +kernel
theorem dX0_least_5 : decode cX0_least 5 = .ok (.ireturn, 1) := by decide +kernel
theorem dX0_greatest_0 : decode cX0_greatest 0 = .ok (.aload_n 0, 1) := by decide +kernel
theorem dX0_greatest_1 : decode cX0_greatest 1 = .ok (.aload_n 0, 1) := by decide +kernel
theorem dX0_greatest_2 : decode cX0_greatest 2 = .ok (.getfield 25, 3) := by decide +kernel
theorem dX0_greatest_5 : decode cX0_greatest 5 = .ok (.iconst 1, 1) := by decide +kernel
theorem dX0_greatest_6 : decode cX0_greatest 6 = .ok (.isub, 1) := by decide +kernel
theorem dX0_greatest_7 : decode cX0_greatest 7 = .ok (.invokevirtual 37, 3) := by decide +kernel
theorem dX0_greatest_10 : decode cX0_greatest 10 = .ok (.ireturn, 1) := by decide +kernel
theorem dX0_firstAbove_0 : decode cX0_firstAbove 0 = .ok (.aload_n 0, 1) := by decide +kernel
theorem dX0_firstAbove_1 : decode cX0_firstAbove 1 = .ok (.iload_n 1, 1) := by decide +kernel
theorem dX0_firstAbove_2 : decode cX0_firstAbove 2 = .ok (.invokevirtual 29, 3) := by decide +kernel
theorem dX0_firstAbove_5 : decode cX0_firstAbove 5 = .ok (.istore_n 2, 1) := by decide +kernel
theorem dX0_firstAbove_6 : decode cX0_firstAbove 6 = .ok (.aload_n 0, 1) := by decide +kernel
theorem dX0_firstAbove_7 : decode cX0_firstAbove 7 = .ok (.aload_n 0, 1) := by decide +kernel
theorem dX0_firstAbove_8 : decode cX0_firstAbove 8 = .ok (.iload_n 2, 1) := by decide +kernel
theorem dX0_firstAbove_9 : decode cX0_firstAbove 9 = .ok (.iload_n 1, 1) := by decide +kernel
theorem dX0_firstAbove_10 : decode cX0_firstAbove 10 = .ok (.invokevirtual 33, 3) := by decide +kernel
theorem dX0_firstAbove_13 : decode cX0_firstAbove 13 = .ok (.ifCond .eq 9, 3) := by decide +kernel
theorem dX0_firstAbove_16 : decode cX0_firstAbove 16 = .ok (.iload_n 2, 1) := by decide +kernel
theorem dX0_firstAbove_17 : decode cX0_firstAbove 17 = .ok (.iconst 1, 1) := by decide +kernel
theorem dX0_firstAbove_18 : decode cX0_firstAbove 18 = .ok (.iadd, 1) := by decide +kernel
theorem dX0_firstAbove_19 : decode cX0_firstAbove 19 = .ok (.goto 4, 3) := by decide +kernel
theorem dX0_firstAbove_22 : decode cX0_firstAbove 22 = .ok (.iload_n 2, 1) := by decide +kernel
theorem dX0_firstAbove_23 : decode cX0_firstAbove 23 = .ok (.invokevirtual 37, 3) := by decide +kernel
theorem dX0_firstAbove_26 : decode cX0_firstAbove 26 = .ok (.ireturn, 1) := by decide +kernel
theorem dX0_lastBelow_0 : decode cX0_lastBelow 0 = .ok (.aload_n 0, 1) := by decide +kernel
theorem dX0_lastBelow_1 : decode cX0_lastBelow 1 = .ok (.aload_n 0, 1) := by decide +kernel
theorem dX0_lastBelow_2 : decode cX0_lastBelow 2 = .ok (.iload_n 1, 1) := by decide +kernel
theorem dX0_lastBelow_3 : decode cX0_lastBelow 3 = .ok (.invokevirtual 29, 3) := by decide +kernel
theorem dX0_lastBelow_6 : decode cX0_lastBelow 6 = .ok (.iconst 1, 1) := by decide +kernel
theorem dX0_lastBelow_7 : decode cX0_lastBelow 7 = .ok (.isub, 1) := by decide +kernel
theorem dX0_lastBelow_8 : decode cX0_lastBelow 8 = .ok (.invokevirtual 37, 3) := by decide +kernel
theorem dX0_lastBelow_11 : decode cX0_lastBelow 11 = .ok (.ireturn, 1) := by decide +kernel
theorem dX0_add_0 : decode cX0_add 0 = .ok (.aload_n 0, 1) := by decide +kernel
theorem dX0_add_1 : decode cX0_add 1 = .ok (.getfield 25, 3) := by decide +kernel
theorem dX0_add_4 : decode cX0_add 4 = .ok (.aload_n 0, 1) := by decide +kernel
theorem dX0_add_5 : decode cX0_add 5 = .ok (.getfield 15, 3) := by decide +kernel
theorem dX0_add_8 : decode cX0_add 8 = .ok (.arraylength, 1) := by decide +kernel
theorem dX0_add_9 : decode cX0_add 9 = .ok (.if_icmp .lt 5, 3) := by decide +kernel
theorem dX0_add_12 : decode cX0_add 12 = .ok (.iconst 0, 1) := by decide +kernel
theorem dX0_add_13 : decode cX0_add 13 = .ok (.ireturn, 1) := by decide +kernel
theorem dX0_add_14 : decode cX0_add 14 = .ok (.aload_n 0, 1) := by decide +kernel
theorem dX0_add_15 : decode cX0_add 15 = .ok (.iload_n 1, 1) := by decide +kernel
theorem dX0_add_16 : decode cX0_add 16 = .ok (.invokevirtual 29, 3) := by decide +kernel
theorem dX0_add_19 : decode cX0_add 19 = .ok (.istore 4, 2) := by decide +kernel
theorem dX0_add_21 : decode cX0_add 21 = .ok (.aload_n 0, 1) := by decide +kernel
theorem dX0_add_22 : decode cX0_add 22 = .ok (.getfield 25, 3) := by decide +kernel
theorem dX0_add_25 : decode cX0_add 25 = .ok (.istore 5, 2) := by decide +kernel
theorem dX0_add_27 : decode cX0_add 27 = .ok (.iload 5, 2) := by decide +kernel
theorem dX0_add_29 : decode cX0_add 29 = .ok (.iload 4, 2) := by decide +kernel
theorem dX0_add_31 : decode cX0_add 31 = .ok (.if_icmp .le 41, 3) := by decide +kernel
theorem dX0_add_34 : decode cX0_add 34 = .ok (.aload_n 0, 1) := by decide +kernel
theorem dX0_add_35 : decode cX0_add 35 = .ok (.getfield 15, 3) := by decide +kernel
theorem dX0_add_38 : decode cX0_add 38 = .ok (.iload 5, 2) := by decide +kernel
theorem dX0_add_40 : decode cX0_add 40 = .ok (.aload_n 0, 1) := by decide +kernel
theorem dX0_add_41 : decode cX0_add 41 = .ok (.getfield 15, 3) := by decide +kernel
theorem dX0_add_44 : decode cX0_add 44 = .ok (.iload 5, 2) := by decide +kernel
theorem dX0_add_46 : decode cX0_add 46 = .ok (.iconst 1, 1) := by decide +kernel
theorem dX0_add_47 : decode cX0_add 47 = .ok (.isub, 1) := by decide +kernel
theorem dX0_add_48 : decode cX0_add 48 = .ok (.iaload, 1) := by decide +kernel
theorem dX0_add_49 : decode cX0_add 49 = .ok (.iastore, 1) := by decide +kernel
theorem dX0_add_50 : decode cX0_add 50 = .ok (.aload_n 0, 1) := by decide +kernel
theorem dX0_add_51 : decode cX0_add 51 = .ok (.getfield 21, 3) := by decide +kernel
theorem dX0_add_54 : decode cX0_add 54 = .ok (.iload 5, 2) := by decide +kernel
theorem dX0_add_56 : decode cX0_add 56 = .ok (.aload_n 0, 1) := by decide +kernel
theorem dX0_add_57 : decode cX0_add 57 = .ok (.getfield 21, 3) := by decide +kernel
theorem dX0_add_60 : decode cX0_add 60 = .ok (.iload 5, 2) := by decide +kernel
theorem dX0_add_62 : decode cX0_add 62 = .ok (.iconst 1, 1) := by decide +kernel
theorem dX0_add_63 : decode cX0_add 63 = .ok (.isub, 1) := by decide +kernel
theorem dX0_add_64 : decode cX0_add 64 = .ok (.laload, 1) := by decide +kernel
theorem dX0_add_65 : decode cX0_add 65 = .ok (.lastore, 1) := by decide +kernel
theorem dX0_add_66 : decode cX0_add 66 = .ok (.iinc 5 (-1), 3) := by decide +kernel
theorem dX0_add_69 : decode cX0_add 69 = .ok (.goto (-42), 3) := by decide +kernel
theorem dX0_add_72 : decode cX0_add 72 = .ok (.aload_n 0, 1) := by decide +kernel
theorem dX0_add_73 : decode cX0_add 73 = .ok (.getfield 15, 3) := by decide +kernel
theorem dX0_add_76 : decode cX0_add 76 = .ok (.iload 4, 2) := by decide +kernel
theorem dX0_add_78 : decode cX0_add 78 = .ok (.iload_n 1, 1) := by decide +kernel
theorem dX0_add_79 : decode cX0_add 79 = .ok (.iastore, 1) := by decide +kernel
theorem dX0_add_80 : decode cX0_add 80 = .ok (.aload_n 0, 1) := by decide +kernel
theorem dX0_add_81 : decode cX0_add 81 = .ok (.getfield 21, 3) := by decide +kernel
theorem dX0_add_84 : decode cX0_add 84 = .ok (.iload 4, 2) := by decide +kernel
theorem dX0_add_86 : decode cX0_add 86 = .ok (.lload_n 2, 1) := by decide +kernel
theorem dX0_add_87 : decode cX0_add 87 = .ok (.lastore, 1) := by decide +kernel
theorem dX0_add_88 : decode cX0_add 88 = .ok (.aload_n 0, 1) := by decide +kernel
theorem dX0_add_89 : decode cX0_add 89 = .ok (.dup, 1) := by decide +kernel
theorem dX0_add_90 : decode cX0_add 90 = .ok (.getfield 25, 3) := by decide +kernel
theorem dX0_add_93 : decode cX0_add 93 = .ok (.iconst 1, 1) := by decide +kernel
theorem dX0_add_94 : decode cX0_add 94 = .ok (.iadd, 1) := by decide +kernel
theorem dX0_add_95 : decode cX0_add 95 = .ok (.putfield 25, 3) := by decide +kernel
theorem dX0_add_98 : decode cX0_add 98 = .ok (.iconst 1, 1) := by decide +kernel
theorem dX0_add_99 : decode cX0_add 99 = .ok (.ireturn, 1) := by decide +kernel
theorem dX0_replace_0 : decode cX0_replace 0 = .ok (.aload_n 0, 1) := by decide +kernel
theorem dX0_replace_1 : decode cX0_replace 1 = .ok (.iload_n 1, 1) := by decide +kernel
theorem dX0_replace_2 : decode cX0_replace 2 = .ok (.invokevirtual 29, 3) := by decide +kernel
theorem dX0_replace_5 : decode cX0_replace 5 = .ok (.istore 4, 2) := by decide +kernel
theorem dX0_replace_7 : decode cX0_replace 7 = .ok (.aload_n 0, 1) := by decide +kernel
theorem dX0_replace_8 : decode cX0_replace 8 = .ok (.iload 4, 2) := by decide +kernel
theorem dX0_replace_10 : decode cX0_replace 10 = .ok (.iload_n 1, 1) := by decide +kernel
theorem dX0_replace_11 : decode cX0_replace 11 = .ok (.invokevirtual 33, 3) := by decide +kernel
theorem dX0_replace_14 : decode cX0_replace 14 = .ok (.ifCond .eq 11, 3) := by decide +kernel
theorem dX0_replace_17 : decode cX0_replace 17 = .ok (.aload_n 0, 1) := by decide +kernel
theorem dX0_replace_18 : decode cX0_replace 18 = .ok (.getfield 21, 3) := by decide +kernel
theorem dX0_replace_21 : decode cX0_replace 21 = .ok (.iload 4, 2) := by decide +kernel
theorem dX0_replace_23 : decode cX0_replace 23 = .ok (.lload_n 2, 1) := by decide +kernel
theorem dX0_replace_24 : decode cX0_replace 24 = .ok (.lastore, 1) := by decide +kernel
theorem dX0_replace_25 : decode cX0_replace 25 = .ok (.return_, 1) := by decide +kernel
theorem dX0_drop_0 : decode cX0_drop 0 = .ok (.aload_n 0, 1) := by decide +kernel
theorem dX0_drop_1 : decode cX0_drop 1 = .ok (.iload_n 1, 1) := by decide +kernel
theorem dX0_drop_2 : decode cX0_drop 2 = .ok (.invokevirtual 29, 3) := by decide +kernel
theorem dX0_drop_5 : decode cX0_drop 5 = .ok (.istore_n 2, 1) := by decide +kernel
theorem dX0_drop_6 : decode cX0_drop 6 = .ok (.aload_n 0, 1) := by decide +kernel
theorem dX0_drop_7 : decode cX0_drop 7 = .ok (.iload_n 2, 1) := by decide +kernel
theorem dX0_drop_8 : decode cX0_drop 8 = .ok (.iload_n 1, 1) := by decide +kernel
theorem dX0_drop_9 : decode cX0_drop 9 = .ok (.invokevirtual 33, 3) := by decide +kernel
theorem dX0_drop_12 : decode cX0_drop 12 = .ok (.ifCond .ne 4, 3) := by decide +kernel
theorem dX0_drop_15 : decode cX0_drop 15 = .ok (.return_, 1) := by decide +kernel
theorem dX0_drop_16 : decode cX0_drop 16 = .ok (.aload_n 0, 1) := by decide +kernel
theorem dX0_drop_17 : decode cX0_drop 17 = .ok (.dup, 1) := by decide +kernel
theorem dX0_drop_18 : decode cX0_drop 18 = .ok (.getfield 25, 3) := by decide +kernel
theorem dX0_drop_21 : decode cX0_drop 21 = .ok (.iconst 1, 1) := by decide +kernel
theorem dX0_drop_22 : decode cX0_drop 22 = .ok (.isub, 1) := by decide +kernel
theorem dX0_drop_23 : decode cX0_drop 23 = .ok (.putfield 25, 3) := by decide +kernel
theorem dX0_drop_26 : decode cX0_drop 26 = .ok (.iload_n 2, 1) := by decide +kernel
theorem dX0_drop_27 : decode cX0_drop 27 = .ok (.istore_n 3, 1) := by decide +kernel
theorem dX0_drop_28 : decode cX0_drop 28 = .ok (.iload_n 3, 1) := by decide +kernel
theorem dX0_drop_29 : decode cX0_drop 29 = .ok (.aload_n 0, 1) := by decide +kernel
theorem dX0_drop_30 : decode cX0_drop 30 = .ok (.getfield 25, 3) := by decide +kernel
theorem dX0_drop_33 : decode cX0_drop 33 = .ok (.if_icmp .ge 37, 3) := by decide +kernel
theorem dX0_drop_36 : decode cX0_drop 36 = .ok (.aload_n 0, 1) := by decide +kernel
theorem dX0_drop_37 : decode cX0_drop 37 = .ok (.getfield 15, 3) := by decide +kernel
theorem dX0_drop_40 : decode cX0_drop 40 = .ok (.iload_n 3, 1) := by decide +kernel
theorem dX0_drop_41 : decode cX0_drop 41 = .ok (.aload_n 0, 1) := by decide +kernel
theorem dX0_drop_42 : decode cX0_drop 42 = .ok (.getfield 15, 3) := by decide +kernel
theorem dX0_drop_45 : decode cX0_drop 45 = .ok (.iload_n 3, 1) := by decide +kernel
theorem dX0_drop_46 : decode cX0_drop 46 = .ok (.iconst 1, 1) := by decide +kernel
theorem dX0_drop_47 : decode cX0_drop 47 = .ok (.iadd, 1) := by decide +kernel
theorem dX0_drop_48 : decode cX0_drop 48 = .ok (.iaload, 1) := by decide +kernel
theorem dX0_drop_49 : decode cX0_drop 49 = .ok (.iastore, 1) := by decide +kernel
theorem dX0_drop_50 : decode cX0_drop 50 = .ok (.aload_n 0, 1) := by decide +kernel
theorem dX0_drop_51 : decode cX0_drop 51 = .ok (.getfield 21, 3) := by decide +kernel
theorem dX0_drop_54 : decode cX0_drop 54 = .ok (.iload_n 3, 1) := by decide +kernel
theorem dX0_drop_55 : decode cX0_drop 55 = .ok (.aload_n 0, 1) := by decide +kernel
theorem dX0_drop_56 : decode cX0_drop 56 = .ok (.getfield 21, 3) := by decide +kernel
theorem dX0_drop_59 : decode cX0_drop 59 = .ok (.iload_n 3, 1) := by decide +kernel
theorem dX0_drop_60 : decode cX0_drop 60 = .ok (.iconst 1, 1) := by decide +kernel
theorem dX0_drop_61 : decode cX0_drop 61 = .ok (.iadd, 1) := by decide +kernel
theorem dX0_drop_62 : decode cX0_drop 62 = .ok (.laload, 1) := by decide +kernel
theorem dX0_drop_63 : decode cX0_drop 63 = .ok (.lastore, 1) := by decide +kernel
theorem dX0_drop_64 : decode cX0_drop 64 = .ok (.iinc 3 1, 3) := by decide +kernel
theorem dX0_drop_67 : decode cX0_drop 67 = .ok (.goto (-39), 3) := by decide +kernel
theorem dX0_drop_70 : decode cX0_drop 70 = .ok (.return_, 1) := by decide +kernel
theorem dX0_rank_0 : decode cX0_rank 0 = .ok (.iconst 0, 1) := by decide +kernel
theorem dX0_rank_1 : decode cX0_rank 1 = .ok (.istore_n 2, 1) := by decide +kernel
theorem dX0_rank_2 : decode cX0_rank 2 = .ok (.iload_n 2, 1) := by decide +kernel
theorem dX0_rank_3 : decode cX0_rank 3 = .ok (.aload_n 0, 1) := by decide +kernel
theorem dX0_rank_4 : decode cX0_rank 4 = .ok (.getfield 25, 3) := by decide +kernel
theorem dX0_rank_7 : decode cX0_rank 7 = .ok (.if_icmp .ge 19, 3) := by decide +kernel
theorem dX0_rank_10 : decode cX0_rank 10 = .ok (.aload_n 0, 1) := by decide +kernel
theorem dX0_rank_11 : decode cX0_rank 11 = .ok (.getfield 15, 3) := by decide +kernel
theorem dX0_rank_14 : decode cX0_rank 14 = .ok (.iload_n 2, 1) := by decide +kernel
theorem dX0_rank_15 : decode cX0_rank 15 = .ok (.iaload, 1) := by decide +kernel
theorem dX0_rank_16 : decode cX0_rank 16 = .ok (.iload_n 1, 1) := by decide +kernel
theorem dX0_rank_17 : decode cX0_rank 17 = .ok (.if_icmp .ge 9, 3) := by decide +kernel
theorem dX0_rank_20 : decode cX0_rank 20 = .ok (.iinc 2 1, 3) := by decide +kernel
theorem dX0_rank_23 : decode cX0_rank 23 = .ok (.goto (-21), 3) := by decide +kernel
theorem dX0_rank_26 : decode cX0_rank 26 = .ok (.iload_n 2, 1) := by decide +kernel
theorem dX0_rank_27 : decode cX0_rank 27 = .ok (.ireturn, 1) := by decide +kernel
theorem dX0_isAt_0 : decode cX0_isAt 0 = .ok (.iload_n 1, 1) := by decide +kernel
theorem dX0_isAt_1 : decode cX0_isAt 1 = .ok (.aload_n 0, 1) := by decide +kernel
theorem dX0_isAt_2 : decode cX0_isAt 2 = .ok (.getfield 25, 3) := by decide +kernel
theorem dX0_isAt_5 : decode cX0_isAt 5 = .ok (.if_icmp .ge 17, 3) := by decide +kernel
theorem dX0_isAt_8 : decode cX0_isAt 8 = .ok (.aload_n 0, 1) := by decide +kernel
theorem dX0_isAt_9 : decode cX0_isAt 9 = .ok (.getfield 15, 3) := by decide +kernel
theorem dX0_isAt_12 : decode cX0_isAt 12 = .ok (.iload_n 1, 1) := by decide +kernel
theorem dX0_isAt_13 : decode cX0_isAt 13 = .ok (.iaload, 1) := by decide +kernel
theorem dX0_isAt_14 : decode cX0_isAt 14 = .ok (.iload_n 2, 1) := by decide +kernel
theorem dX0_isAt_15 : decode cX0_isAt 15 = .ok (.if_icmp .ne 7, 3) := by decide +kernel
theorem dX0_isAt_18 : decode cX0_isAt 18 = .ok (.iconst 1, 1) := by decide +kernel
theorem dX0_isAt_19 : decode cX0_isAt 19 = .ok (.goto 4, 3) := by decide +kernel
theorem dX0_isAt_22 : decode cX0_isAt 22 = .ok (.iconst 0, 1) := by decide +kernel
theorem dX0_isAt_23 : decode cX0_isAt 23 = .ok (.ireturn, 1) := by decide +kernel
theorem dX0_placeAt_0 : decode cX0_placeAt 0 = .ok (.iload_n 1, 1) := by decide +kernel
theorem dX0_placeAt_1 : decode cX0_placeAt 1 = .ok (.ifCond .lt 20, 3) := by decide +kernel
theorem dX0_placeAt_4 : decode cX0_placeAt 4 = .ok (.iload_n 1, 1) := by decide +kernel
theorem dX0_placeAt_5 : decode cX0_placeAt 5 = .ok (.aload_n 0, 1) := by decide +kernel
theorem dX0_placeAt_6 : decode cX0_placeAt 6 = .ok (.getfield 25, 3) := by decide +kernel
theorem dX0_placeAt_9 : decode cX0_placeAt 9 = .ok (.if_icmp .ge 12, 3) := by decide +kernel
theorem dX0_placeAt_12 : decode cX0_placeAt 12 = .ok (.aload_n 0, 1) := by decide +kernel
theorem dX0_placeAt_13 : decode cX0_placeAt 13 = .ok (.getfield 15, 3) := by decide +kernel
theorem dX0_placeAt_16 : decode cX0_placeAt 16 = .ok (.iload_n 1, 1) := by decide +kernel
theorem dX0_placeAt_17 : decode cX0_placeAt 17 = .ok (.iaload, 1) := by decide +kernel
theorem dX0_placeAt_18 : decode cX0_placeAt 18 = .ok (.goto 4, 3) := by decide +kernel
theorem dX0_placeAt_21 : decode cX0_placeAt 21 = .ok (.iconst 0, 1) := by decide +kernel
theorem dX0_placeAt_22 : decode cX0_placeAt 22 = .ok (.ireturn, 1) := by decide +kernel
end
section
theorem dX1_init_0 : decode cX1_init 0 = .ok (.aload_n 0, 1) := by decide +kernel
theorem dX1_init_1 : decode cX1_init 1 = .ok (.invokespecial 1, 3) := by decide +kernel
theorem dX1_init_4 : decode cX1_init 4 = .ok (.aload_n 0, 1) := by decide +kernel
theorem dX1_init_5 : decode cX1_init 5 = .ok (.iconst 0, 1) := by decide +kernel
theorem dX1_init_6 : decode cX1_init 6 = .ok (.iload_n 1, 1) := by decide +kernel
theorem dX1_init_7 : decode cX1_init 7 = .ok (.ldc 9, 2) := by decide +kernel
theorem dX1_init_9 : decode cX1_init 9 = .ok (.invokestatic 10, 3) := by decide +kernel
theorem dX1_init_12 : decode cX1_init 12 = .ok (.invokestatic 16, 3) := by decide +kernel
theorem dX1_init_15 : decode cX1_init 15 = .ok (.putfield 19, 3) := by decide +kernel
theorem dX1_init_18 : decode cX1_init 18 = .ok (.aload_n 0, 1) := by decide +kernel
theorem dX1_init_19 : decode cX1_init 19 = .ok (.new 23, 3) := by decide +kernel
theorem dX1_init_22 : decode cX1_init 22 = .ok (.dup, 1) := by decide +kernel
theorem dX1_init_23 : decode cX1_init 23 = .ok (.aload_n 0, 1) := by decide +kernel
theorem dX1_init_24 : decode cX1_init 24 = .ok (.getfield 19, 3) := by decide +kernel
theorem dX1_init_27 : decode cX1_init 27 = .ok (.sipush 512, 3) := by decide +kernel
theorem dX1_init_30 : decode cX1_init 30 = .ok (.invokestatic 10, 3) := by decide +kernel
theorem dX1_init_33 : decode cX1_init 33 = .ok (.invokespecial 25, 3) := by decide +kernel
theorem dX1_init_36 : decode cX1_init 36 = .ok (.putfield 28, 3) := by decide +kernel
theorem dX1_init_39 : decode cX1_init 39 = .ok (.aload_n 0, 1) := by decide +kernel
theorem dX1_init_40 : decode cX1_init 40 = .ok (.iconst 0, 1) := by decide +kernel
theorem dX1_init_41 : decode cX1_init 41 = .ok (.putfield 32, 3) := by decide +kernel
theorem dX1_init_44 : decode cX1_init 44 = .ok (.aload_n 0, 1) := by decide +kernel
theorem dX1_init_45 : decode cX1_init 45 = .ok (.iconst (-1), 1) := by decide +kernel
theorem dX1_init_46 : decode cX1_init 46 = .ok (.putfield 36, 3) := by decide +kernel
theorem dX1_init_49 : decode cX1_init 49 = .ok (.aload_n 0, 1) := by decide +kernel
theorem dX1_init_50 : decode cX1_init 50 = .ok (.iconst 0, 1) := by decide +kernel
theorem dX1_init_51 : decode cX1_init 51 = .ok (.putfield 39, 3) := by decide +kernel
theorem dX1_init_54 : decode cX1_init 54 = .ok (.aload_n 0, 1) := by decide +kernel
theorem dX1_init_55 : decode cX1_init 55 = .ok (.iconst 0, 1) := by decide +kernel
theorem dX1_init_56 : decode cX1_init 56 = .ok (.putfield 42, 3) := by decide +kernel
theorem dX1_init_59 : decode cX1_init 59 = .ok (.aload_n 0, 1) := by decide +kernel
theorem dX1_init_60 : decode cX1_init 60 = .ok (.iconst 0, 1) := by decide +kernel
theorem dX1_init_61 : decode cX1_init 61 = .ok (.putfield 45, 3) := by decide +kernel
theorem dX1_init_64 : decode cX1_init 64 = .ok (.aload_n 0, 1) := by decide +kernel
theorem dX1_init_65 : decode cX1_init 65 = .ok (.lconst 0, 1) := by decide +kernel
theorem dX1_init_66 : decode cX1_init 66 = .ok (.putfield 48, 3) := by decide +kernel
theorem dX1_init_69 : decode cX1_init 69 = .ok (.aload_n 0, 1) := by decide +kernel
theorem dX1_init_70 : decode cX1_init 70 = .ok (.bipush 9, 2) := by decide +kernel
theorem dX1_init_72 : decode cX1_init 72 = .ok (.putfield 52, 3) := by decide +kernel
theorem dX1_init_75 : decode cX1_init 75 = .ok (.return_, 1) := by decide +kernel
theorem dX1_open_0 : decode cX1_open 0 = .ok (.iload_n 1, 1) := by decide +kernel
theorem dX1_open_1 : decode cX1_open 1 = .ok (.ifCond .lt 8, 3) := by decide +kernel
theorem dX1_open_4 : decode cX1_open 4 = .ok (.iload_n 1, 1) := by decide +kernel
theorem dX1_open_5 : decode cX1_open 5 = .ok (.iconst 4, 1) := by decide +kernel
theorem dX1_open_6 : decode cX1_open 6 = .ok (.if_icmp .le 5, 3) := by decide +kernel
theorem dX1_open_9 : decode cX1_open 9 = .ok (.iconst (-1), 1) := by decide +kernel
theorem dX1_open_10 : decode cX1_open 10 = .ok (.ireturn, 1) := by decide +kernel
theorem dX1_open_11 : decode cX1_open 11 = .ok (.iload_n 1, 1) := by decide +kernel
theorem dX1_open_12 : decode cX1_open 12 = .ok (.iconst 4, 1) := by decide +kernel
theorem dX1_open_13 : decode cX1_open 13 = .ok (.if_icmp .ne 10, 3) := by decide +kernel
theorem dX1_open_16 : decode cX1_open 16 = .ok (.aload_n 0, 1) := by decide +kernel
theorem dX1_open_17 : decode cX1_open 17 = .ok (.invokevirtual 55, 3) := by decide +kernel
theorem dX1_open_20 : decode cX1_open 20 = .ok (.goto 8, 3) := by decide +kernel
theorem dX1_open_23 : decode cX1_open 23 = .ok (.aload_n 0, 1) := by decide +kernel
theorem dX1_open_24 : decode cX1_open 24 = .ok (.iload_n 1, 1) := by decide +kernel
theorem dX1_open_25 : decode cX1_open 25 = .ok (.invokevirtual 59, 3) := by decide +kernel
theorem dX1_open_28 : decode cX1_open 28 = .ok (.ireturn, 1) := by decide +kernel
theorem dX1_write_0 : decode cX1_write 0 = .ok (.aload_n 0, 1) := by decide +kernel
theorem dX1_write_1 : decode cX1_write 1 = .ok (.getfield 36, 3) := by decide +kernel
theorem dX1_write_4 : decode cX1_write 4 = .ok (.iconst (-1), 1) := by decide +kernel
theorem dX1_write_5 : decode cX1_write 5 = .ok (.if_icmp .ne 6, 3) := by decide +kernel
theorem dX1_write_8 : decode cX1_write 8 = .ok (.bipush 42, 2) := by decide +kernel
theorem dX1_write_10 : decode cX1_write 10 = .ok (.ireturn, 1) := by decide +kernel
theorem dX1_write_11 : decode cX1_write 11 = .ok (.aload_n 0, 1) := by decide +kernel
theorem dX1_write_12 : decode cX1_write 12 = .ok (.getfield 36, 3) := by decide +kernel
theorem dX1_write_15 : decode cX1_write 15 = .ok (.ifCond .ne 6, 3) := by decide +kernel
theorem dX1_write_18 : decode cX1_write 18 = .ok (.bipush 48, 2) := by decide +kernel
theorem dX1_write_20 : decode cX1_write 20 = .ok (.ireturn, 1) := by decide +kernel
theorem dX1_write_21 : decode cX1_write 21 = .ok (.aload_n 0, 1) := by decide +kernel
theorem dX1_write_22 : decode cX1_write 22 = .ok (.iconst 0, 1) := by decide +kernel
theorem dX1_write_23 : decode cX1_write 23 = .ok (.putfield 45, 3) := by decide +kernel
theorem dX1_write_26 : decode cX1_write 26 = .ok (.iload_n 1, 1) := by decide +kernel
theorem dX1_write_27 : decode cX1_write 27 = .ok (.iconst (-1), 1) := by decide +kernel
theorem dX1_write_28 : decode cX1_write 28 = .ok (.if_icmp .ne 10, 3) := by decide +kernel
theorem dX1_write_31 : decode cX1_write 31 = .ok (.aload_n 0, 1) := by decide +kernel
theorem dX1_write_32 : decode cX1_write 32 = .ok (.invokevirtual 63, 3) := by decide +kernel
theorem dX1_write_35 : decode cX1_write 35 = .ok (.goto 4, 3) := by decide +kernel
theorem dX1_write_38 : decode cX1_write 38 = .ok (.iload_n 1, 1) := by decide +kernel
theorem dX1_write_39 : decode cX1_write 39 = .ok (.istore 4, 2) := by decide +kernel
theorem dX1_write_41 : decode cX1_write 41 = .ok (.aload_n 0, 1) := by decide +kernel
theorem dX1_write_42 : decode cX1_write 42 = .ok (.iload 4, 2) := by decide +kernel
theorem dX1_write_44 : decode cX1_write 44 = .ok (.invokevirtual 66, 3) := by decide +kernel
theorem dX1_write_47 : decode cX1_write 47 = .ok (.ifCond .eq 12, 3) := by decide +kernel
theorem dX1_write_50 : decode cX1_write 50 = .ok (.aload_n 0, 1) := by decide +kernel
theorem dX1_write_51 : decode cX1_write 51 = .ok (.iload 4, 2) := by decide +kernel
theorem dX1_write_53 : decode cX1_write 53 = .ok (.invokevirtual 70, 3) := by decide +kernel
theorem dX1_write_56 : decode cX1_write 56 = .ok (.ifCond .eq 6, 3) := by decide +kernel
theorem dX1_write_59 : decode cX1_write 59 = .ok (.bipush 24, 2) := by decide +kernel
theorem dX1_write_61 : decode cX1_write 61 = .ok (.ireturn, 1) := by decide +kernel
theorem dX1_write_62 : decode cX1_write 62 = .ok (.aload_n 0, 1) := by decide +kernel
theorem dX1_write_63 : decode cX1_write 63 = .ok (.getfield 28, 3) := by decide +kernel
theorem dX1_write_66 : decode cX1_write 66 = .ok (.iload 4, 2) := by decide +kernel
theorem dX1_write_68 : decode cX1_write 68 = .ok (.invokevirtual 73, 3) := by decide +kernel
theorem dX1_write_71 : decode cX1_write 71 = .ok (.ifCond .eq 6, 3) := by decide +kernel
theorem dX1_write_74 : decode cX1_write 74 = .ok (.bipush 22, 2) := by decide +kernel
theorem dX1_write_76 : decode cX1_write 76 = .ok (.ireturn, 1) := by decide +kernel
theorem dX1_write_77 : decode cX1_write 77 = .ok (.aload_n 0, 1) := by decide +kernel
theorem dX1_write_78 : decode cX1_write 78 = .ok (.getfield 28, 3) := by decide +kernel
theorem dX1_write_81 : decode cX1_write 81 = .ok (.iload 4, 2) := by decide +kernel
theorem dX1_write_83 : decode cX1_write 83 = .ok (.lload_n 2, 1) := by decide +kernel
theorem dX1_write_84 : decode cX1_write 84 = .ok (.invokevirtual 76, 3) := by decide +kernel
theorem dX1_write_87 : decode cX1_write 87 = .ok (.ifCond .ne 6, 3) := by decide +kernel
theorem dX1_write_90 : decode cX1_write 90 = .ok (.bipush 24, 2) := by decide +kernel
theorem dX1_write_92 : decode cX1_write 92 = .ok (.ireturn, 1) := by decide +kernel
theorem dX1_write_93 : decode cX1_write 93 = .ok (.aload_n 0, 1) := by decide +kernel
theorem dX1_write_94 : decode cX1_write 94 = .ok (.lload_n 2, 1) := by decide +kernel
theorem dX1_write_95 : decode cX1_write 95 = .ok (.putfield 48, 3) := by decide +kernel
theorem dX1_write_98 : decode cX1_write 98 = .ok (.iconst 0, 1) := by decide +kernel
theorem dX1_write_99 : decode cX1_write 99 = .ok (.ireturn, 1) := by decide +kernel
theorem dX1_read_0 : decode cX1_read 0 = .ok (.aload_n 0, 1) := by decide +kernel
theorem dX1_read_1 : decode cX1_read 1 = .ok (.invokevirtual 80, 3) := by decide +kernel
theorem dX1_read_4 : decode cX1_read 4 = .ok (.istore_n 2, 1) := by decide +kernel
theorem dX1_read_5 : decode cX1_read 5 = .ok (.iload_n 2, 1) := by decide +kernel
theorem dX1_read_6 : decode cX1_read 6 = .ok (.ifCond .eq 5, 3) := by decide +kernel
theorem dX1_read_9 : decode cX1_read 9 = .ok (.iload_n 2, 1) := by decide +kernel
theorem dX1_read_10 : decode cX1_read 10 = .ok (.ireturn, 1) := by decide +kernel
theorem dX1_read_11 : decode cX1_read 11 = .ok (.aload_n 0, 1) := by decide +kernel
theorem dX1_read_12 : decode cX1_read 12 = .ok (.getfield 28, 3) := by decide +kernel
theorem dX1_read_15 : decode cX1_read 15 = .ok (.iload_n 1, 1) := by decide +kernel
theorem dX1_read_16 : decode cX1_read 16 = .ok (.invokevirtual 73, 3) := by decide +kernel
theorem dX1_read_19 : decode cX1_read 19 = .ok (.ifCond .ne 10, 3) := by decide +kernel
theorem dX1_read_22 : decode cX1_read 22 = .ok (.aload_n 0, 1) := by decide +kernel
theorem dX1_read_23 : decode cX1_read 23 = .ok (.invokevirtual 83, 3) := by decide +kernel
theorem dX1_read_26 : decode cX1_read 26 = .ok (.bipush 23, 2) := by decide +kernel
theorem dX1_read_28 : decode cX1_read 28 = .ok (.ireturn, 1) := by decide +kernel
theorem dX1_read_29 : decode cX1_read 29 = .ok (.aload_n 0, 1) := by decide +kernel
theorem dX1_read_30 : decode cX1_read 30 = .ok (.iload_n 1, 1) := by decide +kernel
theorem dX1_read_31 : decode cX1_read 31 = .ok (.invokevirtual 86, 3) := by decide +kernel
theorem dX1_read_34 : decode cX1_read 34 = .ok (.iconst 0, 1) := by decide +kernel
theorem dX1_read_35 : decode cX1_read 35 = .ok (.ireturn, 1) := by decide +kernel
theorem dX1_value_0 : decode cX1_value 0 = .ok (.aload_n 0, 1) := by decide +kernel
theorem dX1_value_1 : decode cX1_value 1 = .ok (.getfield 48, 3) := by decide +kernel
theorem dX1_value_4 : decode cX1_value 4 = .ok (.lreturn, 1) := by decide +kernel
theorem dX1_start_0 : decode cX1_start 0 = .ok (.iload_n 1, 1) := by decide +kernel
theorem dX1_start_1 : decode cX1_start 1 = .ok (.ifCond .lt 8, 3) := by decide +kernel
theorem dX1_start_4 : decode cX1_start 4 = .ok (.iload_n 1, 1) := by decide +kernel
theorem dX1_start_5 : decode cX1_start 5 = .ok (.iconst 4, 1) := by decide +kernel
theorem dX1_start_6 : decode cX1_start 6 = .ok (.if_icmp .le 5, 3) := by decide +kernel
theorem dX1_start_9 : decode cX1_start 9 = .ok (.iconst (-1), 1) := by decide +kernel
theorem dX1_start_10 : decode cX1_start 10 = .ok (.ireturn, 1) := by decide +kernel
theorem dX1_start_11 : decode cX1_start 11 = .ok (.aload_n 0, 1) := by decide +kernel
theorem dX1_start_12 : decode cX1_start 12 = .ok (.invokevirtual 80, 3) := by decide +kernel
theorem dX1_start_15 : decode cX1_start 15 = .ok (.istore_n 3, 1) := by decide +kernel
theorem dX1_start_16 : decode cX1_start 16 = .ok (.iload_n 3, 1) := by decide +kernel
theorem dX1_start_17 : decode cX1_start 17 = .ok (.ifCond .eq 5, 3) := by decide +kernel
theorem dX1_start_20 : decode cX1_start 20 = .ok (.iload_n 3, 1) := by decide +kernel
theorem dX1_start_21 : decode cX1_start 21 = .ok (.ireturn, 1) := by decide +kernel
theorem dX1_start_22 : decode cX1_start 22 = .ok (.aload_n 0, 1) := by decide +kernel
theorem dX1_start_23 : decode cX1_start 23 = .ok (.iload_n 1, 1) := by decide +kernel
theorem dX1_start_24 : decode cX1_start 24 = .ok (.iload_n 2, 1) := by decide +kernel
theorem dX1_start_25 : decode cX1_start 25 = .ok (.invokevirtual 89, 3) := by decide +kernel
theorem dX1_start_28 : decode cX1_start 28 = .ok (.istore 4, 2) := by decide +kernel
theorem dX1_start_30 : decode cX1_start 30 = .ok (.iload 4, 2) := by decide +kernel
theorem dX1_start_32 : decode cX1_start 32 = .ok (.ifCond .ne 10, 3) := by decide +kernel
theorem dX1_start_35 : decode cX1_start 35 = .ok (.aload_n 0, 1) := by decide +kernel
theorem dX1_start_36 : decode cX1_start 36 = .ok (.invokevirtual 83, 3) := by decide +kernel
theorem dX1_start_39 : decode cX1_start 39 = .ok (.bipush 23, 2) := by decide +kernel
theorem dX1_start_41 : decode cX1_start 41 = .ok (.ireturn, 1) := by decide +kernel
theorem dX1_start_42 : decode cX1_start 42 = .ok (.aload_n 0, 1) := by decide +kernel
theorem dX1_start_43 : decode cX1_start 43 = .ok (.iconst 1, 1) := by decide +kernel
theorem dX1_start_44 : decode cX1_start 44 = .ok (.iload 4, 2) := by decide +kernel
theorem dX1_start_46 : decode cX1_start 46 = .ok (.invokevirtual 92, 3) := by decide +kernel
theorem dX1_start_49 : decode cX1_start 49 = .ok (.iconst 0, 1) := by decide +kernel
theorem dX1_start_50 : decode cX1_start 50 = .ok (.ireturn, 1) := by decide +kernel
theorem dX1_next_0 : decode cX1_next 0 = .ok (.aload_n 0, 1) := by decide +kernel
theorem dX1_next_1 : decode cX1_next 1 = .ok (.invokevirtual 80, 3) := by decide +kernel
theorem dX1_next_4 : decode cX1_next 4 = .ok (.istore_n 2, 1) := by decide +kernel
theorem dX1_next_5 : decode cX1_next 5 = .ok (.iload_n 2, 1) := by decide +kernel
theorem dX1_next_6 : decode cX1_next 6 = .ok (.ifCond .eq 5, 3) := by decide +kernel
theorem dX1_next_9 : decode cX1_next 9 = .ok (.iload_n 2, 1) := by decide +kernel
theorem dX1_next_10 : decode cX1_next 10 = .ok (.ireturn, 1) := by decide +kernel
theorem dX1_next_11 : decode cX1_next 11 = .ok (.aload_n 0, 1) := by decide +kernel
theorem dX1_next_12 : decode cX1_next 12 = .ok (.getfield 39, 3) := by decide +kernel
theorem dX1_next_15 : decode cX1_next 15 = .ok (.iconst 2, 1) := by decide +kernel
theorem dX1_next_16 : decode cX1_next 16 = .ok (.if_icmp .ne 11, 3) := by decide +kernel
theorem dX1_next_19 : decode cX1_next 19 = .ok (.aload_n 0, 1) := by decide +kernel
theorem dX1_next_20 : decode cX1_next 20 = .ok (.iconst 0, 1) := by decide +kernel
theorem dX1_next_21 : decode cX1_next 21 = .ok (.putfield 45, 3) := by decide +kernel
theorem dX1_next_24 : decode cX1_next 24 = .ok (.bipush 46, 2) := by decide +kernel
theorem dX1_next_26 : decode cX1_next 26 = .ok (.ireturn, 1) := by decide +kernel
theorem dX1_next_27 : decode cX1_next 27 = .ok (.aload_n 0, 1) := by decide +kernel
theorem dX1_next_28 : decode cX1_next 28 = .ok (.iload_n 1, 1) := by decide +kernel
theorem dX1_next_29 : decode cX1_next 29 = .ok (.invokevirtual 96, 3) := by decide +kernel
theorem dX1_next_32 : decode cX1_next 32 = .ok (.istore_n 3, 1) := by decide +kernel
theorem dX1_next_33 : decode cX1_next 33 = .ok (.iload_n 3, 1) := by decide +kernel
theorem dX1_next_34 : decode cX1_next 34 = .ok (.ifCond .ne 10, 3) := by decide +kernel
theorem dX1_next_37 : decode cX1_next 37 = .ok (.aload_n 0, 1) := by decide +kernel
theorem dX1_next_38 : decode cX1_next 38 = .ok (.invokevirtual 83, 3) := by decide +kernel
theorem dX1_next_41 : decode cX1_next 41 = .ok (.bipush 10, 2) := by decide +kernel
theorem dX1_next_43 : decode cX1_next 43 = .ok (.ireturn, 1) := by decide +kernel
theorem dX1_next_44 : decode cX1_next 44 = .ok (.aload_n 0, 1) := by decide +kernel
theorem dX1_next_45 : decode cX1_next 45 = .ok (.iload_n 3, 1) := by decide +kernel
theorem dX1_next_46 : decode cX1_next 46 = .ok (.invokevirtual 70, 3) := by decide +kernel
theorem dX1_next_49 : decode cX1_next 49 = .ok (.ifCond .eq 10, 3) := by decide +kernel
theorem dX1_next_52 : decode cX1_next 52 = .ok (.aload_n 0, 1) := by decide +kernel
theorem dX1_next_53 : decode cX1_next 53 = .ok (.invokevirtual 83, 3) := by decide +kernel
theorem dX1_next_56 : decode cX1_next 56 = .ok (.bipush 14, 2) := by decide +kernel
theorem dX1_next_58 : decode cX1_next 58 = .ok (.ireturn, 1) := by decide +kernel
theorem dX1_next_59 : decode cX1_next 59 = .ok (.aload_n 0, 1) := by decide +kernel
theorem dX1_next_60 : decode cX1_next 60 = .ok (.iload_n 3, 1) := by decide +kernel
theorem dX1_next_61 : decode cX1_next 61 = .ok (.invokevirtual 86, 3) := by decide +kernel
theorem dX1_next_64 : decode cX1_next 64 = .ok (.iconst 0, 1) := by decide +kernel
theorem dX1_next_65 : decode cX1_next 65 = .ok (.ireturn, 1) := by decide +kernel
theorem dX1_rewrite_0 : decode cX1_rewrite 0 = .ok (.aload_n 0, 1) := by decide +kernel
theorem dX1_rewrite_1 : decode cX1_rewrite 1 = .ok (.iload_n 1, 1) := by decide +kernel
theorem dX1_rewrite_2 : decode cX1_rewrite 2 = .ok (.invokevirtual 100, 3) := by decide +kernel
theorem dX1_rewrite_5 : decode cX1_rewrite 5 = .ok (.istore 4, 2) := by decide +kernel
theorem dX1_rewrite_7 : decode cX1_rewrite 7 = .ok (.aload_n 0, 1) := by decide +kernel
theorem dX1_rewrite_8 : decode cX1_rewrite 8 = .ok (.iload_n 1, 1) := by decide +kernel
theorem dX1_rewrite_9 : decode cX1_rewrite 9 = .ok (.iload 4, 2) := by decide +kernel
theorem dX1_rewrite_11 : decode cX1_rewrite 11 = .ok (.invokevirtual 103, 3) := by decide +kernel
theorem dX1_rewrite_14 : decode cX1_rewrite 14 = .ok (.istore 5, 2) := by decide +kernel
theorem dX1_rewrite_16 : decode cX1_rewrite 16 = .ok (.iload 5, 2) := by decide +kernel
theorem dX1_rewrite_18 : decode cX1_rewrite 18 = .ok (.ifCond .ne 18, 3) := by decide +kernel
theorem dX1_rewrite_21 : decode cX1_rewrite 21 = .ok (.aload_n 0, 1) := by decide +kernel
theorem dX1_rewrite_22 : decode cX1_rewrite 22 = .ok (.getfield 28, 3) := by decide +kernel
theorem dX1_rewrite_25 : decode cX1_rewrite 25 = .ok (.iload 4, 2) := by decide +kernel
theorem dX1_rewrite_27 : decode cX1_rewrite 27 = .ok (.lload_n 2, 1) := by decide +kernel
theorem dX1_rewrite_28 : decode cX1_rewrite 28 = .ok (.invokevirtual 106, 3) := by decide +kernel
theorem dX1_rewrite_31 : decode cX1_rewrite 31 = .ok (.aload_n 0, 1) := by decide +kernel
theorem dX1_rewrite_32 : decode cX1_rewrite 32 = .ok (.lload_n 2, 1) := by decide +kernel
theorem dX1_rewrite_33 : decode cX1_rewrite 33 = .ok (.putfield 48, 3) := by decide +kernel
theorem dX1_rewrite_36 : decode cX1_rewrite 36 = .ok (.iload 5, 2) := by decide +kernel
theorem dX1_rewrite_38 : decode cX1_rewrite 38 = .ok (.ireturn, 1) := by decide +kernel
theorem dX1_remove_0 : decode cX1_remove 0 = .ok (.aload_n 0, 1) := by decide +kernel
theorem dX1_remove_1 : decode cX1_remove 1 = .ok (.iload_n 1, 1) := by decide +kernel
theorem dX1_remove_2 : decode cX1_remove 2 = .ok (.invokevirtual 100, 3) := by decide +kernel
theorem dX1_remove_5 : decode cX1_remove 5 = .ok (.istore_n 2, 1) := by decide +kernel
theorem dX1_remove_6 : decode cX1_remove 6 = .ok (.aload_n 0, 1) := by decide +kernel
theorem dX1_remove_7 : decode cX1_remove 7 = .ok (.iload_n 1, 1) := by decide +kernel
theorem dX1_remove_8 : decode cX1_remove 8 = .ok (.iload_n 2, 1) := by decide +kernel
theorem dX1_remove_9 : decode cX1_remove 9 = .ok (.invokevirtual 103, 3) := by decide +kernel
theorem dX1_remove_12 : decode cX1_remove 12 = .ok (.istore_n 3, 1) := by decide +kernel
theorem dX1_remove_13 : decode cX1_remove 13 = .ok (.iload_n 3, 1) := by decide +kernel
theorem dX1_remove_14 : decode cX1_remove 14 = .ok (.ifCond .ne 11, 3) := by decide +kernel
theorem dX1_remove_17 : decode cX1_remove 17 = .ok (.aload_n 0, 1) := by decide +kernel
theorem dX1_remove_18 : decode cX1_remove 18 = .ok (.getfield 28, 3) := by decide +kernel
theorem dX1_remove_21 : decode cX1_remove 21 = .ok (.iload_n 2, 1) := by decide +kernel
theorem dX1_remove_22 : decode cX1_remove 22 = .ok (.invokevirtual 110, 3) := by decide +kernel
theorem dX1_remove_25 : decode cX1_remove 25 = .ok (.iload_n 3, 1) := by decide +kernel
theorem dX1_remove_26 : decode cX1_remove 26 = .ok (.ireturn, 1) := by decide +kernel
theorem dX1_number_0 : decode cX1_number 0 = .ok (.aload_n 0, 1) := by decide +kernel
theorem dX1_number_1 : decode cX1_number 1 = .ok (.getfield 45, 3) := by decide +kernel
theorem dX1_number_4 : decode cX1_number 4 = .ok (.ireturn, 1) := by decide +kernel
theorem dX1_cell_0 : decode cX1_cell 0 = .ok (.aload_n 0, 1) := by decide +kernel
theorem dX1_cell_1 : decode cX1_cell 1 = .ok (.iload_n 1, 1) := by decide +kernel
theorem dX1_cell_2 : decode cX1_cell 2 = .ok (.invokevirtual 66, 3) := by decide +kernel
theorem dX1_cell_5 : decode cX1_cell 5 = .ok (.ifCond .ne 13, 3) := by decide +kernel
theorem dX1_cell_8 : decode cX1_cell 8 = .ok (.new 113, 3) := by decide +kernel
theorem dX1_cell_11 : decode cX1_cell 11 = .ok (.dup, 1) := by decide +kernel
theorem dX1_cell_12 : decode cX1_cell 12 = .ok (.ldc 115, 2) := by decide +kernel
theorem dX1_cell_14 : decode cX1_cell 14 = .ok (.invokespecial 117, 3) := by decide +kernel
theorem dX1_cell_17 : decode cX1_cell 17 = .ok (.athrow, 1) := by decide +kernel
theorem dX1_cell_18 : decode cX1_cell 18 = .ok (.aload_n 0, 1) := by decide +kernel
theorem dX1_cell_19 : decode cX1_cell 19 = .ok (.getfield 28, 3) := by decide +kernel
theorem dX1_cell_22 : decode cX1_cell 22 = .ok (.iload_n 1, 1) := by decide +kernel
theorem dX1_cell_23 : decode cX1_cell 23 = .ok (.invokevirtual 120, 3) := by decide +kernel
theorem dX1_cell_26 : decode cX1_cell 26 = .ok (.lreturn, 1) := by decide +kernel
theorem dX1_records_0 : decode cX1_records 0 = .ok (.aload_n 0, 1) := by decide +kernel
theorem dX1_records_1 : decode cX1_records 1 = .ok (.getfield 28, 3) := by decide +kernel
theorem dX1_records_4 : decode cX1_records 4 = .ok (.invokevirtual 124, 3) := by decide +kernel
theorem dX1_records_7 : decode cX1_records 7 = .ok (.ireturn, 1) := by decide +kernel
theorem dX1_digits_0 : decode cX1_digits 0 = .ok (.iload_n 1, 1) := by decide +kernel
theorem dX1_digits_1 : decode cX1_digits 1 = .ok (.iconst 1, 1) := by decide +kernel
theorem dX1_digits_2 : decode cX1_digits 2 = .ok (.if_icmp .lt 9, 3) := by decide +kernel
theorem dX1_digits_5 : decode cX1_digits 5 = .ok (.iload_n 1, 1) := by decide +kernel
theorem dX1_digits_6 : decode cX1_digits 6 = .ok (.bipush 9, 2) := by decide +kernel
theorem dX1_digits_8 : decode cX1_digits 8 = .ok (.if_icmp .le 5, 3) := by decide +kernel
theorem dX1_digits_11 : decode cX1_digits 11 = .ok (.iconst (-1), 1) := by decide +kernel
theorem dX1_digits_12 : decode cX1_digits 12 = .ok (.ireturn, 1) := by decide +kernel
theorem dX1_digits_13 : decode cX1_digits 13 = .ok (.aload_n 0, 1) := by decide +kernel
theorem dX1_digits_14 : decode cX1_digits 14 = .ok (.getfield 52, 3) := by decide +kernel
theorem dX1_digits_17 : decode cX1_digits 17 = .ok (.istore_n 2, 1) := by decide +kernel
theorem dX1_digits_18 : decode cX1_digits 18 = .ok (.aload_n 0, 1) := by decide +kernel
theorem dX1_digits_19 : decode cX1_digits 19 = .ok (.iload_n 1, 1) := by decide +kernel
theorem dX1_digits_20 : decode cX1_digits 20 = .ok (.putfield 52, 3) := by decide +kernel
theorem dX1_digits_23 : decode cX1_digits 23 = .ok (.iload_n 2, 1) := by decide +kernel
theorem dX1_digits_24 : decode cX1_digits 24 = .ok (.ireturn, 1) := by decide +kernel
theorem dX1_count_0 : decode cX1_count 0 = .ok (.iload_n 1, 1) := by decide +kernel
theorem dX1_count_1 : decode cX1_count 1 = .ok (.tableswitch 74 0 4 #[35, 40, 53, 58, 66], 35) := by decide +kernel
theorem dX1_count_36 : decode cX1_count 36 = .ok (.aload_n 0, 1) := by decide +kernel
theorem dX1_count_37 : decode cX1_count 37 = .ok (.getfield 19, 3) := by decide +kernel
theorem dX1_count_40 : decode cX1_count 40 = .ok (.ireturn, 1) := by decide +kernel
theorem dX1_count_41 : decode cX1_count 41 = .ok (.aload_n 0, 1) := by decide +kernel
theorem dX1_count_42 : decode cX1_count 42 = .ok (.getfield 32, 3) := by decide +kernel
theorem dX1_count_45 : decode cX1_count 45 = .ok (.ifCond .eq 7, 3) := by decide +kernel
theorem dX1_count_48 : decode cX1_count 48 = .ok (.iconst 1, 1) := by decide +kernel
theorem dX1_count_49 : decode cX1_count 49 = .ok (.goto 4, 3) := by decide +kernel
theorem dX1_count_52 : decode cX1_count 52 = .ok (.iconst 0, 1) := by decide +kernel
theorem dX1_count_53 : decode cX1_count 53 = .ok (.ireturn, 1) := by decide +kernel
theorem dX1_count_54 : decode cX1_count 54 = .ok (.aload_n 0, 1) := by decide +kernel
theorem dX1_count_55 : decode cX1_count 55 = .ok (.getfield 36, 3) := by decide +kernel
theorem dX1_count_58 : decode cX1_count 58 = .ok (.ireturn, 1) := by decide +kernel
theorem dX1_count_59 : decode cX1_count 59 = .ok (.aload_n 0, 1) := by decide +kernel
theorem dX1_count_60 : decode cX1_count 60 = .ok (.getfield 28, 3) := by decide +kernel
theorem dX1_count_63 : decode cX1_count 63 = .ok (.invokevirtual 127, 3) := by decide +kernel
theorem dX1_count_66 : decode cX1_count 66 = .ok (.ireturn, 1) := by decide +kernel
theorem dX1_count_67 : decode cX1_count 67 = .ok (.aload_n 0, 1) := by decide +kernel
theorem dX1_count_68 : decode cX1_count 68 = .ok (.getfield 28, 3) := by decide +kernel
theorem dX1_count_71 : decode cX1_count 71 = .ok (.invokevirtual 130, 3) := by decide +kernel
theorem dX1_count_74 : decode cX1_count 74 = .ok (.ireturn, 1) := by decide +kernel
theorem dX1_count_75 : decode cX1_count 75 = .ok (.iconst (-1), 1) := by decide +kernel
theorem dX1_count_76 : decode cX1_count 76 = .ok (.ireturn, 1) := by decide +kernel
theorem dX1_openFile_0 : decode cX1_openFile 0 = .ok (.aload_n 0, 1) := by decide +kernel
theorem dX1_openFile_1 : decode cX1_openFile 1 = .ok (.getfield 36, 3) := by decide +kernel
theorem dX1_openFile_4 : decode cX1_openFile 4 = .ok (.iconst (-1), 1) := by decide +kernel
theorem dX1_openFile_5 : decode cX1_openFile 5 = .ok (.if_icmp .eq 6, 3) := by decide +kernel
theorem dX1_openFile_8 : decode cX1_openFile 8 = .ok (.bipush 41, 2) := by decide +kernel
theorem dX1_openFile_10 : decode cX1_openFile 10 = .ok (.ireturn, 1) := by decide +kernel
theorem dX1_openFile_11 : decode cX1_openFile 11 = .ok (.aload_n 0, 1) := by decide +kernel
theorem dX1_openFile_12 : decode cX1_openFile 12 = .ok (.iconst 0, 1) := by decide +kernel
theorem dX1_openFile_13 : decode cX1_openFile 13 = .ok (.iconst 0, 1) := by decide +kernel
theorem dX1_openFile_14 : decode cX1_openFile 14 = .ok (.invokevirtual 92, 3) := by decide +kernel
theorem dX1_openFile_17 : decode cX1_openFile 17 = .ok (.aload_n 0, 1) := by decide +kernel
theorem dX1_openFile_18 : decode cX1_openFile 18 = .ok (.getfield 32, 3) := by decide +kernel
theorem dX1_openFile_21 : decode cX1_openFile 21 = .ok (.istore_n 2, 1) := by decide +kernel
theorem dX1_openFile_22 : decode cX1_openFile 22 = .ok (.iload_n 2, 1) := by decide +kernel
theorem dX1_openFile_23 : decode cX1_openFile 23 = .ok (.ifCond .ne 15, 3) := by decide +kernel
theorem dX1_openFile_26 : decode cX1_openFile 26 = .ok (.iload_n 1, 1) := by decide +kernel
theorem dX1_openFile_27 : decode cX1_openFile 27 = .ok (.ifCond .eq 8, 3) := by decide +kernel
theorem dX1_openFile_30 : decode cX1_openFile 30 = .ok (.iload_n 1, 1) := by decide +kernel
theorem dX1_openFile_31 : decode cX1_openFile 31 = .ok (.iconst 2, 1) := by decide +kernel
theorem dX1_openFile_32 : decode cX1_openFile 32 = .ok (.if_icmp .ne 6, 3) := by decide +kernel
theorem dX1_openFile_35 : decode cX1_openFile 35 = .ok (.bipush 35, 2) := by decide +kernel
theorem dX1_openFile_37 : decode cX1_openFile 37 = .ok (.ireturn, 1) := by decide +kernel
theorem dX1_openFile_38 : decode cX1_openFile 38 = .ok (.iload_n 1, 1) := by decide +kernel
theorem dX1_openFile_39 : decode cX1_openFile 39 = .ok (.iconst 1, 1) := by decide +kernel
theorem dX1_openFile_40 : decode cX1_openFile 40 = .ok (.if_icmp .ne 10, 3) := by decide +kernel
theorem dX1_openFile_43 : decode cX1_openFile 43 = .ok (.aload_n 0, 1) := by decide +kernel
theorem dX1_openFile_44 : decode cX1_openFile 44 = .ok (.getfield 28, 3) := by decide +kernel
theorem dX1_openFile_47 : decode cX1_openFile 47 = .ok (.invokevirtual 133, 3) := by decide +kernel
theorem dX1_openFile_50 : decode cX1_openFile 50 = .ok (.aload_n 0, 1) := by decide +kernel
theorem dX1_openFile_51 : decode cX1_openFile 51 = .ok (.iconst 1, 1) := by decide +kernel
theorem dX1_openFile_52 : decode cX1_openFile 52 = .ok (.putfield 32, 3) := by decide +kernel
theorem dX1_openFile_55 : decode cX1_openFile 55 = .ok (.aload_n 0, 1) := by decide +kernel
theorem dX1_openFile_56 : decode cX1_openFile 56 = .ok (.iload_n 1, 1) := by decide +kernel
theorem dX1_openFile_57 : decode cX1_openFile 57 = .ok (.putfield 36, 3) := by decide +kernel
theorem dX1_openFile_60 : decode cX1_openFile 60 = .ok (.iload_n 1, 1) := by decide +kernel
theorem dX1_openFile_61 : decode cX1_openFile 61 = .ok (.iconst 3, 1) := by decide +kernel
theorem dX1_openFile_62 : decode cX1_openFile 62 = .ok (.if_icmp .ne 11, 3) := by decide +kernel
theorem dX1_openFile_65 : decode cX1_openFile 65 = .ok (.iload_n 2, 1) := by decide +kernel
theorem dX1_openFile_66 : decode cX1_openFile 66 = .ok (.ifCond .ne 7, 3) := by decide +kernel
theorem dX1_openFile_69 : decode cX1_openFile 69 = .ok (.iconst 5, 1) := by decide +kernel
theorem dX1_openFile_70 : decode cX1_openFile 70 = .ok (.goto 4, 3) := by decide +kernel
theorem dX1_openFile_73 : decode cX1_openFile 73 = .ok (.iconst 0, 1) := by decide +kernel
theorem dX1_openFile_74 : decode cX1_openFile 74 = .ok (.ireturn, 1) := by decide +kernel
theorem dX1_closeFile_0 : decode cX1_closeFile 0 = .ok (.aload_n 0, 1) := by decide +kernel
theorem dX1_closeFile_1 : decode cX1_closeFile 1 = .ok (.getfield 36, 3) := by decide +kernel
theorem dX1_closeFile_4 : decode cX1_closeFile 4 = .ok (.iconst (-1), 1) := by decide +kernel
theorem dX1_closeFile_5 : decode cX1_closeFile 5 = .ok (.if_icmp .ne 6, 3) := by decide +kernel
theorem dX1_closeFile_8 : decode cX1_closeFile 8 = .ok (.bipush 42, 2) := by decide +kernel
theorem dX1_closeFile_10 : decode cX1_closeFile 10 = .ok (.ireturn, 1) := by decide +kernel
theorem dX1_closeFile_11 : decode cX1_closeFile 11 = .ok (.aload_n 0, 1) := by decide +kernel
theorem dX1_closeFile_12 : decode cX1_closeFile 12 = .ok (.iconst 0, 1) := by decide +kernel
theorem dX1_closeFile_13 : decode cX1_closeFile 13 = .ok (.iconst 0, 1) := by decide +kernel
theorem dX1_closeFile_14 : decode cX1_closeFile 14 = .ok (.invokevirtual 92, 3) := by decide +kernel
theorem dX1_closeFile_17 : decode cX1_closeFile 17 = .ok (.aload_n 0, 1) := by decide +kernel
theorem dX1_closeFile_18 : decode cX1_closeFile 18 = .ok (.iconst (-1), 1) := by decide +kernel
theorem dX1_closeFile_19 : decode cX1_closeFile 19 = .ok (.putfield 36, 3) := by decide +kernel
theorem dX1_closeFile_22 : decode cX1_closeFile 22 = .ok (.iconst 0, 1) := by decide +kernel
theorem dX1_closeFile_23 : decode cX1_closeFile 23 = .ok (.ireturn, 1) := by decide +kernel
theorem dX1_refusalToRead_0 : decode cX1_refusalToRead 0 = .ok (.aload_n 0, 1) := by decide +kernel
theorem dX1_refusalToRead_1 : decode cX1_refusalToRead 1 = .ok (.getfield 36, 3) := by decide +kernel
theorem dX1_refusalToRead_4 : decode cX1_refusalToRead 4 = .ok (.iconst (-1), 1) := by decide +kernel
theorem dX1_refusalToRead_5 : decode cX1_refusalToRead 5 = .ok (.if_icmp .ne 6, 3) := by decide +kernel
theorem dX1_refusalToRead_8 : decode cX1_refusalToRead 8 = .ok (.bipush 42, 2) := by decide +kernel
theorem dX1_refusalToRead_10 : decode cX1_refusalToRead 10 = .ok (.ireturn, 1) := by decide +kernel
theorem dX1_refusalToRead_11 : decode cX1_refusalToRead 11 = .ok (.aload_n 0, 1) := by decide +kernel
theorem dX1_refusalToRead_12 : decode cX1_refusalToRead 12 = .ok (.getfield 36, 3) := by decide +kernel
theorem dX1_refusalToRead_15 : decode cX1_refusalToRead 15 = .ok (.ifCond .eq 11, 3) := by decide +kernel
theorem dX1_refusalToRead_18 : decode cX1_refusalToRead 18 = .ok (.aload_n 0, 1) := by decide +kernel
theorem dX1_refusalToRead_19 : decode cX1_refusalToRead 19 = .ok (.getfield 36, 3) := by decide +kernel
theorem dX1_refusalToRead_22 : decode cX1_refusalToRead 22 = .ok (.iconst 2, 1) := by decide +kernel
theorem dX1_refusalToRead_23 : decode cX1_refusalToRead 23 = .ok (.if_icmp .ne 7, 3) := by decide +kernel
theorem dX1_refusalToRead_26 : decode cX1_refusalToRead 26 = .ok (.iconst 0, 1) := by decide +kernel
theorem dX1_refusalToRead_27 : decode cX1_refusalToRead 27 = .ok (.goto 5, 3) := by decide +kernel
theorem dX1_refusalToRead_30 : decode cX1_refusalToRead 30 = .ok (.bipush 47, 2) := by decide +kernel
theorem dX1_refusalToRead_32 : decode cX1_refusalToRead 32 = .ok (.ireturn, 1) := by decide +kernel
theorem dX1_statusOfChange_0 : decode cX1_statusOfChange 0 = .ok (.aload_n 0, 1) := by decide +kernel
theorem dX1_statusOfChange_1 : decode cX1_statusOfChange 1 = .ok (.getfield 36, 3) := by decide +kernel
theorem dX1_statusOfChange_4 : decode cX1_statusOfChange 4 = .ok (.iconst (-1), 1) := by decide +kernel
theorem dX1_statusOfChange_5 : decode cX1_statusOfChange 5 = .ok (.if_icmp .ne 6, 3) := by decide +kernel
theorem dX1_statusOfChange_8 : decode cX1_statusOfChange 8 = .ok (.bipush 42, 2) := by decide +kernel
theorem dX1_statusOfChange_10 : decode cX1_statusOfChange 10 = .ok (.ireturn, 1) := by decide +kernel
theorem dX1_statusOfChange_11 : decode cX1_statusOfChange 11 = .ok (.aload_n 0, 1) := by decide +kernel
theorem dX1_statusOfChange_12 : decode cX1_statusOfChange 12 = .ok (.getfield 36, 3) := by decide +kernel
theorem dX1_statusOfChange_15 : decode cX1_statusOfChange 15 = .ok (.iconst 2, 1) := by decide +kernel
theorem dX1_statusOfChange_16 : decode cX1_statusOfChange 16 = .ok (.if_icmp .eq 6, 3) := by decide +kernel
theorem dX1_statusOfChange_19 : decode cX1_statusOfChange 19 = .ok (.bipush 49, 2) := by decide +kernel
theorem dX1_statusOfChange_21 : decode cX1_statusOfChange 21 = .ok (.ireturn, 1) := by decide +kernel
theorem dX1_statusOfChange_22 : decode cX1_statusOfChange 22 = .ok (.aload_n 0, 1) := by decide +kernel
theorem dX1_statusOfChange_23 : decode cX1_statusOfChange 23 = .ok (.iconst 0, 1) := by decide +kernel
theorem dX1_statusOfChange_24 : decode cX1_statusOfChange 24 = .ok (.putfield 45, 3) := by decide +kernel
theorem dX1_statusOfChange_27 : decode cX1_statusOfChange 27 = .ok (.aload_n 0, 1) := by decide +kernel
theorem dX1_statusOfChange_28 : decode cX1_statusOfChange 28 = .ok (.getfield 28, 3) := by decide +kernel
theorem dX1_statusOfChange_31 : decode cX1_statusOfChange 31 = .ok (.iload_n 2, 1) := by decide +kernel
theorem dX1_statusOfChange_32 : decode cX1_statusOfChange 32 = .ok (.invokevirtual 73, 3) := by decide +kernel
theorem dX1_statusOfChange_35 : decode cX1_statusOfChange 35 = .ok (.ifCond .eq 5, 3) := by decide +kernel
theorem dX1_statusOfChange_38 : decode cX1_statusOfChange 38 = .ok (.iconst 0, 1) := by decide +kernel
theorem dX1_statusOfChange_39 : decode cX1_statusOfChange 39 = .ok (.ireturn, 1) := by decide +kernel
theorem dX1_statusOfChange_40 : decode cX1_statusOfChange 40 = .ok (.iload_n 1, 1) := by decide +kernel
theorem dX1_statusOfChange_41 : decode cX1_statusOfChange 41 = .ok (.iconst (-1), 1) := by decide +kernel
theorem dX1_statusOfChange_42 : decode cX1_statusOfChange 42 = .ok (.if_icmp .ne 8, 3) := by decide +kernel
theorem dX1_statusOfChange_45 : decode cX1_statusOfChange 45 = .ok (.bipush 43, 2) := by decide +kernel
theorem dX1_statusOfChange_47 : decode cX1_statusOfChange 47 = .ok (.goto 5, 3) := by decide +kernel
theorem dX1_statusOfChange_50 : decode cX1_statusOfChange 50 = .ok (.bipush 23, 2) := by decide +kernel
theorem dX1_statusOfChange_52 : decode cX1_statusOfChange 52 = .ok (.ireturn, 1) := by decide +kernel
theorem dX1_placeToChange_0 : decode cX1_placeToChange 0 = .ok (.iload_n 1, 1) := by decide +kernel
theorem dX1_placeToChange_1 : decode cX1_placeToChange 1 = .ok (.iconst (-1), 1) := by decide +kernel
theorem dX1_placeToChange_2 : decode cX1_placeToChange 2 = .ok (.if_icmp .ne 10, 3) := by decide +kernel
theorem dX1_placeToChange_5 : decode cX1_placeToChange 5 = .ok (.aload_n 0, 1) := by decide +kernel
theorem dX1_placeToChange_6 : decode cX1_placeToChange 6 = .ok (.getfield 45, 3) := by decide +kernel
theorem dX1_placeToChange_9 : decode cX1_placeToChange 9 = .ok (.goto 4, 3) := by decide +kernel
theorem dX1_placeToChange_12 : decode cX1_placeToChange 12 = .ok (.iload_n 1, 1) := by decide +kernel
theorem dX1_placeToChange_13 : decode cX1_placeToChange 13 = .ok (.ireturn, 1) := by decide +kernel
theorem dX1_placeInOrder_0 : decode cX1_placeInOrder 0 = .ok (.aload_n 0, 1) := by decide +kernel
theorem dX1_placeInOrder_1 : decode cX1_placeInOrder 1 = .ok (.getfield 36, 3) := by decide +kernel
theorem dX1_placeInOrder_4 : decode cX1_placeInOrder 4 = .ok (.iconst 2, 1) := by decide +kernel
theorem dX1_placeInOrder_5 : decode cX1_placeInOrder 5 = .ok (.if_icmp .ne 7, 3) := by decide +kernel
theorem dX1_placeInOrder_8 : decode cX1_placeInOrder 8 = .ok (.iconst 0, 1) := by decide +kernel
theorem dX1_placeInOrder_9 : decode cX1_placeInOrder 9 = .ok (.goto 12, 3) := by decide +kernel
theorem dX1_placeInOrder_12 : decode cX1_placeInOrder 12 = .ok (.aload_n 0, 1) := by decide +kernel
theorem dX1_placeInOrder_13 : decode cX1_placeInOrder 13 = .ok (.getfield 28, 3) := by decide +kernel
theorem dX1_placeInOrder_16 : decode cX1_placeInOrder 16 = .ok (.invokevirtual 127, 3) := by decide +kernel
theorem dX1_placeInOrder_19 : decode cX1_placeInOrder 19 = .ok (.iconst 1, 1) := by decide +kernel
theorem dX1_placeInOrder_20 : decode cX1_placeInOrder 20 = .ok (.iadd, 1) := by decide +kernel
theorem dX1_placeInOrder_21 : decode cX1_placeInOrder 21 = .ok (.ireturn, 1) := by decide +kernel
theorem dX1_placeToStart_0 : decode cX1_placeToStart 0 = .ok (.iload_n 1, 1) := by decide +kernel
theorem dX1_placeToStart_1 : decode cX1_placeToStart 1 = .ok (.tableswitch 118 0 4 #[35, 52, 61, 85, 94], 35) := by decide +kernel
theorem dX1_placeToStart_36 : decode cX1_placeToStart 36 = .ok (.aload_n 0, 1) := by decide +kernel
theorem dX1_placeToStart_37 : decode cX1_placeToStart 37 = .ok (.getfield 28, 3) := by decide +kernel
theorem dX1_placeToStart_40 : decode cX1_placeToStart 40 = .ok (.iload_n 2, 1) := by decide +kernel
theorem dX1_placeToStart_41 : decode cX1_placeToStart 41 = .ok (.invokevirtual 73, 3) := by decide +kernel
theorem dX1_placeToStart_44 : decode cX1_placeToStart 44 = .ok (.ifCond .eq 7, 3) := by decide +kernel
theorem dX1_placeToStart_47 : decode cX1_placeToStart 47 = .ok (.iload_n 2, 1) := by decide +kernel
theorem dX1_placeToStart_48 : decode cX1_placeToStart 48 = .ok (.goto 4, 3) := by decide +kernel
theorem dX1_placeToStart_51 : decode cX1_placeToStart 51 = .ok (.iconst 0, 1) := by decide +kernel
theorem dX1_placeToStart_52 : decode cX1_placeToStart 52 = .ok (.ireturn, 1) := by decide +kernel
theorem dX1_placeToStart_53 : decode cX1_placeToStart 53 = .ok (.aload_n 0, 1) := by decide +kernel
theorem dX1_placeToStart_54 : decode cX1_placeToStart 54 = .ok (.getfield 28, 3) := by decide +kernel
theorem dX1_placeToStart_57 : decode cX1_placeToStart 57 = .ok (.iload_n 2, 1) := by decide +kernel
theorem dX1_placeToStart_58 : decode cX1_placeToStart 58 = .ok (.invokevirtual 136, 3) := by decide +kernel
theorem dX1_placeToStart_61 : decode cX1_placeToStart 61 = .ok (.ireturn, 1) := by decide +kernel
theorem dX1_placeToStart_62 : decode cX1_placeToStart 62 = .ok (.aload_n 0, 1) := by decide +kernel
theorem dX1_placeToStart_63 : decode cX1_placeToStart 63 = .ok (.getfield 28, 3) := by decide +kernel
theorem dX1_placeToStart_66 : decode cX1_placeToStart 66 = .ok (.iload_n 2, 1) := by decide +kernel
theorem dX1_placeToStart_67 : decode cX1_placeToStart 67 = .ok (.invokevirtual 73, 3) := by decide +kernel
theorem dX1_placeToStart_70 : decode cX1_placeToStart 70 = .ok (.ifCond .eq 7, 3) := by decide +kernel
theorem dX1_placeToStart_73 : decode cX1_placeToStart 73 = .ok (.iload_n 2, 1) := by decide +kernel
theorem dX1_placeToStart_74 : decode cX1_placeToStart 74 = .ok (.goto 11, 3) := by decide +kernel
theorem dX1_placeToStart_77 : decode cX1_placeToStart 77 = .ok (.aload_n 0, 1) := by decide +kernel
theorem dX1_placeToStart_78 : decode cX1_placeToStart 78 = .ok (.getfield 28, 3) := by decide +kernel
theorem dX1_placeToStart_81 : decode cX1_placeToStart 81 = .ok (.iload_n 2, 1) := by decide +kernel
theorem dX1_placeToStart_82 : decode cX1_placeToStart 82 = .ok (.invokevirtual 136, 3) := by decide +kernel
theorem dX1_placeToStart_85 : decode cX1_placeToStart 85 = .ok (.ireturn, 1) := by decide +kernel
theorem dX1_placeToStart_86 : decode cX1_placeToStart 86 = .ok (.aload_n 0, 1) := by decide +kernel
theorem dX1_placeToStart_87 : decode cX1_placeToStart 87 = .ok (.getfield 28, 3) := by decide +kernel
theorem dX1_placeToStart_90 : decode cX1_placeToStart 90 = .ok (.iload_n 2, 1) := by decide +kernel
theorem dX1_placeToStart_91 : decode cX1_placeToStart 91 = .ok (.invokevirtual 139, 3) := by decide +kernel
theorem dX1_placeToStart_94 : decode cX1_placeToStart 94 = .ok (.ireturn, 1) := by decide +kernel
theorem dX1_placeToStart_95 : decode cX1_placeToStart 95 = .ok (.aload_n 0, 1) := by decide +kernel
theorem dX1_placeToStart_96 : decode cX1_placeToStart 96 = .ok (.getfield 28, 3) := by decide +kernel
theorem dX1_placeToStart_99 : decode cX1_placeToStart 99 = .ok (.iload_n 2, 1) := by decide +kernel
theorem dX1_placeToStart_100 : decode cX1_placeToStart 100 = .ok (.invokevirtual 73, 3) := by decide +kernel
theorem dX1_placeToStart_103 : decode cX1_placeToStart 103 = .ok (.ifCond .eq 7, 3) := by decide +kernel
theorem dX1_placeToStart_106 : decode cX1_placeToStart 106 = .ok (.iload_n 2, 1) := by decide +kernel
theorem dX1_placeToStart_107 : decode cX1_placeToStart 107 = .ok (.goto 11, 3) := by decide +kernel
theorem dX1_placeToStart_110 : decode cX1_placeToStart 110 = .ok (.aload_n 0, 1) := by decide +kernel
theorem dX1_placeToStart_111 : decode cX1_placeToStart 111 = .ok (.getfield 28, 3) := by decide +kernel
theorem dX1_placeToStart_114 : decode cX1_placeToStart 114 = .ok (.iload_n 2, 1) := by decide +kernel
theorem dX1_placeToStart_115 : decode cX1_placeToStart 115 = .ok (.invokevirtual 139, 3) := by decide +kernel
theorem dX1_placeToStart_118 : decode cX1_placeToStart 118 = .ok (.ireturn, 1) := by decide +kernel
theorem dX1_placeToStart_119 : decode cX1_placeToStart 119 = .ok (.iconst 0, 1) := by decide +kernel
theorem dX1_placeToStart_120 : decode cX1_placeToStart 120 = .ok (.ireturn, 1) := by decide +kernel
theorem dX1_placeFromPosition_0 : decode cX1_placeFromPosition 0 = .ok (.aload_n 0, 1) := by decide +kernel
theorem dX1_placeFromPosition_1 : decode cX1_placeFromPosition 1 = .ok (.getfield 39, 3) := by decide +kernel
theorem dX1_placeFromPosition_4 : decode cX1_placeFromPosition 4 = .ok (.iconst 1, 1) := by decide +kernel
theorem dX1_placeFromPosition_5 : decode cX1_placeFromPosition 5 = .ok (.if_icmp .ne 22, 3) := by decide +kernel
theorem dX1_placeFromPosition_8 : decode cX1_placeFromPosition 8 = .ok (.aload_n 0, 1) := by decide +kernel
theorem dX1_placeFromPosition_9 : decode cX1_placeFromPosition 9 = .ok (.getfield 28, 3) := by decide +kernel
theorem dX1_placeFromPosition_12 : decode cX1_placeFromPosition 12 = .ok (.aload_n 0, 1) := by decide +kernel
theorem dX1_placeFromPosition_13 : decode cX1_placeFromPosition 13 = .ok (.getfield 42, 3) := by decide +kernel
theorem dX1_placeFromPosition_16 : decode cX1_placeFromPosition 16 = .ok (.invokevirtual 73, 3) := by decide +kernel
theorem dX1_placeFromPosition_19 : decode cX1_placeFromPosition 19 = .ok (.ifCond .eq 8, 3) := by decide +kernel
theorem dX1_placeFromPosition_22 : decode cX1_placeFromPosition 22 = .ok (.aload_n 0, 1) := by decide +kernel
theorem dX1_placeFromPosition_23 : decode cX1_placeFromPosition 23 = .ok (.getfield 42, 3) := by decide +kernel
theorem dX1_placeFromPosition_26 : decode cX1_placeFromPosition 26 = .ok (.ireturn, 1) := by decide +kernel
theorem dX1_placeFromPosition_27 : decode cX1_placeFromPosition 27 = .ok (.iload_n 1, 1) := by decide +kernel
theorem dX1_placeFromPosition_28 : decode cX1_placeFromPosition 28 = .ok (.ifCond .eq 17, 3) := by decide +kernel
theorem dX1_placeFromPosition_31 : decode cX1_placeFromPosition 31 = .ok (.aload_n 0, 1) := by decide +kernel
theorem dX1_placeFromPosition_32 : decode cX1_placeFromPosition 32 = .ok (.getfield 28, 3) := by decide +kernel
theorem dX1_placeFromPosition_35 : decode cX1_placeFromPosition 35 = .ok (.aload_n 0, 1) := by decide +kernel
theorem dX1_placeFromPosition_36 : decode cX1_placeFromPosition 36 = .ok (.getfield 42, 3) := by decide +kernel
theorem dX1_placeFromPosition_39 : decode cX1_placeFromPosition 39 = .ok (.invokevirtual 139, 3) := by decide +kernel
theorem dX1_placeFromPosition_42 : decode cX1_placeFromPosition 42 = .ok (.goto 14, 3) := by decide +kernel
theorem dX1_placeFromPosition_45 : decode cX1_placeFromPosition 45 = .ok (.aload_n 0, 1) := by decide +kernel
theorem dX1_placeFromPosition_46 : decode cX1_placeFromPosition 46 = .ok (.getfield 28, 3) := by decide +kernel
theorem dX1_placeFromPosition_49 : decode cX1_placeFromPosition 49 = .ok (.aload_n 0, 1) := by decide +kernel
theorem dX1_placeFromPosition_50 : decode cX1_placeFromPosition 50 = .ok (.getfield 42, 3) := by decide +kernel
theorem dX1_placeFromPosition_53 : decode cX1_placeFromPosition 53 = .ok (.invokevirtual 136, 3) := by decide +kernel
theorem dX1_placeFromPosition_56 : decode cX1_placeFromPosition 56 = .ok (.ireturn, 1) := by decide +kernel
theorem dX1_take_0 : decode cX1_take 0 = .ok (.aload_n 0, 1) := by decide +kernel
theorem dX1_take_1 : decode cX1_take 1 = .ok (.iconst 0, 1) := by decide +kernel
theorem dX1_take_2 : decode cX1_take 2 = .ok (.iload_n 1, 1) := by decide +kernel
theorem dX1_take_3 : decode cX1_take 3 = .ok (.invokevirtual 92, 3) := by decide +kernel
theorem dX1_take_6 : decode cX1_take 6 = .ok (.aload_n 0, 1) := by decide +kernel
theorem dX1_take_7 : decode cX1_take 7 = .ok (.iload_n 1, 1) := by decide +kernel
theorem dX1_take_8 : decode cX1_take 8 = .ok (.putfield 45, 3) := by decide +kernel
theorem dX1_take_11 : decode cX1_take 11 = .ok (.aload_n 0, 1) := by decide +kernel
theorem dX1_take_12 : decode cX1_take 12 = .ok (.aload_n 0, 1) := by decide +kernel
theorem dX1_take_13 : decode cX1_take 13 = .ok (.getfield 28, 3) := by decide +kernel
theorem dX1_take_16 : decode cX1_take 16 = .ok (.iload_n 1, 1) := by decide +kernel
theorem dX1_take_17 : decode cX1_take 17 = .ok (.invokevirtual 120, 3) := by decide +kernel
theorem dX1_take_20 : decode cX1_take 20 = .ok (.putfield 48, 3) := by decide +kernel
theorem dX1_take_23 : decode cX1_take 23 = .ok (.return_, 1) := by decide +kernel
theorem dX1_losePosition_0 : decode cX1_losePosition 0 = .ok (.aload_n 0, 1) := by decide +kernel
theorem dX1_losePosition_1 : decode cX1_losePosition 1 = .ok (.iconst 2, 1) := by decide +kernel
theorem dX1_losePosition_2 : decode cX1_losePosition 2 = .ok (.iconst 0, 1) := by decide +kernel
theorem dX1_losePosition_3 : decode cX1_losePosition 3 = .ok (.invokevirtual 92, 3) := by decide +kernel
theorem dX1_losePosition_6 : decode cX1_losePosition 6 = .ok (.return_, 1) := by decide +kernel
theorem dX1_stand_0 : decode cX1_stand 0 = .ok (.aload_n 0, 1) := by decide +kernel
theorem dX1_stand_1 : decode cX1_stand 1 = .ok (.iload_n 1, 1) := by decide +kernel
theorem dX1_stand_2 : decode cX1_stand 2 = .ok (.putfield 39, 3) := by decide +kernel
theorem dX1_stand_5 : decode cX1_stand 5 = .ok (.aload_n 0, 1) := by decide +kernel
theorem dX1_stand_6 : decode cX1_stand 6 = .ok (.iload_n 2, 1) := by decide +kernel
theorem dX1_stand_7 : decode cX1_stand 7 = .ok (.putfield 42, 3) := by decide +kernel
theorem dX1_stand_10 : decode cX1_stand 10 = .ok (.aload_n 0, 1) := by decide +kernel
theorem dX1_stand_11 : decode cX1_stand 11 = .ok (.iconst 0, 1) := by decide +kernel
theorem dX1_stand_12 : decode cX1_stand 12 = .ok (.putfield 45, 3) := by decide +kernel
theorem dX1_stand_15 : decode cX1_stand 15 = .ok (.return_, 1) := by decide +kernel
theorem dX1_isPlace_0 : decode cX1_isPlace 0 = .ok (.iload_n 1, 1) := by decide +kernel
theorem dX1_isPlace_1 : decode cX1_isPlace 1 = .ok (.iconst 1, 1) := by decide +kernel
theorem dX1_isPlace_2 : decode cX1_isPlace 2 = .ok (.if_icmp .lt 15, 3) := by decide +kernel
theorem dX1_isPlace_5 : decode cX1_isPlace 5 = .ok (.iload_n 1, 1) := by decide +kernel
theorem dX1_isPlace_6 : decode cX1_isPlace 6 = .ok (.aload_n 0, 1) := by decide +kernel
theorem dX1_isPlace_7 : decode cX1_isPlace 7 = .ok (.getfield 19, 3) := by decide +kernel
theorem dX1_isPlace_10 : decode cX1_isPlace 10 = .ok (.if_icmp .gt 7, 3) := by decide +kernel
theorem dX1_isPlace_13 : decode cX1_isPlace 13 = .ok (.iconst 1, 1) := by decide +kernel
theorem dX1_isPlace_14 : decode cX1_isPlace 14 = .ok (.goto 4, 3) := by decide +kernel
theorem dX1_isPlace_17 : decode cX1_isPlace 17 = .ok (.iconst 0, 1) := by decide +kernel
theorem dX1_isPlace_18 : decode cX1_isPlace 18 = .ok (.ireturn, 1) := by decide +kernel
theorem dX1_isTooLong_0 : decode cX1_isTooLong 0 = .ok (.iload_n 1, 1) := by decide +kernel
theorem dX1_isTooLong_1 : decode cX1_isTooLong 1 = .ok (.istore_n 2, 1) := by decide +kernel
theorem dX1_isTooLong_2 : decode cX1_isTooLong 2 = .ok (.iconst 0, 1) := by decide +kernel
theorem dX1_isTooLong_3 : decode cX1_isTooLong 3 = .ok (.istore_n 3, 1) := by decide +kernel
theorem dX1_isTooLong_4 : decode cX1_isTooLong 4 = .ok (.iload_n 3, 1) := by decide +kernel
theorem dX1_isTooLong_5 : decode cX1_isTooLong 5 = .ok (.aload_n 0, 1) := by decide +kernel
theorem dX1_isTooLong_6 : decode cX1_isTooLong 6 = .ok (.getfield 52, 3) := by decide +kernel
theorem dX1_isTooLong_9 : decode cX1_isTooLong 9 = .ok (.if_icmp .ge 14, 3) := by decide +kernel
theorem dX1_isTooLong_12 : decode cX1_isTooLong 12 = .ok (.iload_n 2, 1) := by decide +kernel
theorem dX1_isTooLong_13 : decode cX1_isTooLong 13 = .ok (.bipush 10, 2) := by decide +kernel
theorem dX1_isTooLong_15 : decode cX1_isTooLong 15 = .ok (.idiv, 1) := by decide +kernel
theorem dX1_isTooLong_16 : decode cX1_isTooLong 16 = .ok (.istore_n 2, 1) := by decide +kernel
theorem dX1_isTooLong_17 : decode cX1_isTooLong 17 = .ok (.iinc 3 1, 3) := by decide +kernel
theorem dX1_isTooLong_20 : decode cX1_isTooLong 20 = .ok (.goto (-16), 3) := by decide +kernel
theorem dX1_isTooLong_23 : decode cX1_isTooLong 23 = .ok (.iload_n 2, 1) := by decide +kernel
theorem dX1_isTooLong_24 : decode cX1_isTooLong 24 = .ok (.ifCond .le 7, 3) := by decide +kernel
theorem dX1_isTooLong_27 : decode cX1_isTooLong 27 = .ok (.iconst 1, 1) := by decide +kernel
theorem dX1_isTooLong_28 : decode cX1_isTooLong 28 = .ok (.goto 4, 3) := by decide +kernel
theorem dX1_isTooLong_31 : decode cX1_isTooLong 31 = .ok (.iconst 0, 1) := by decide +kernel
theorem dX1_isTooLong_32 : decode cX1_isTooLong 32 = .ok (.ireturn, 1) := by decide +kernel
end
section
theorem dX2_init_0 : decode cX2_init 0 = .ok (.aload_n 0, 1) := by decide +kernel
theorem dX2_init_1 : decode cX2_init 1 = .ok (.invokespecial 1, 3) := by decide +kernel
theorem dX2_init_4 : decode cX2_init 4 = .ok (.aload_n 0, 1) := by decide +kernel
theorem dX2_init_5 : decode cX2_init 5 = .ok (.sipush 1100, 3) := by decide +kernel
theorem dX2_init_8 : decode cX2_init 8 = .ok (.newarray .int, 2) := by decide +kernel
theorem dX2_init_10 : decode cX2_init 10 = .ok (.putfield 7, 3) := by decide +kernel
theorem dX2_init_13 : decode cX2_init 13 = .ok (.aload_n 0, 1) := by decide +kernel
theorem dX2_init_14 : decode cX2_init 14 = .ok (.sipush 1100, 3) := by decide +kernel
theorem dX2_init_17 : decode cX2_init 17 = .ok (.newarray .long, 2) := by decide +kernel
theorem dX2_init_19 : decode cX2_init 19 = .ok (.putfield 13, 3) := by decide +kernel
theorem dX2_init_22 : decode cX2_init 22 = .ok (.aload_n 0, 1) := by decide +kernel
theorem dX2_init_23 : decode cX2_init 23 = .ok (.iconst (-1), 1) := by decide +kernel
theorem dX2_init_24 : decode cX2_init 24 = .ok (.putfield 17, 3) := by decide +kernel
theorem dX2_init_27 : decode cX2_init 27 = .ok (.aload_n 0, 1) := by decide +kernel
theorem dX2_init_28 : decode cX2_init 28 = .ok (.bipush 9, 2) := by decide +kernel
theorem dX2_init_30 : decode cX2_init 30 = .ok (.putfield 21, 3) := by decide +kernel
theorem dX2_init_33 : decode cX2_init 33 = .ok (.aload_n 0, 1) := by decide +kernel
theorem dX2_init_34 : decode cX2_init 34 = .ok (.iload_n 1, 1) := by decide +kernel
theorem dX2_init_35 : decode cX2_init 35 = .ok (.ifCond .ge 7, 3) := by decide +kernel
theorem dX2_init_38 : decode cX2_init 38 = .ok (.iconst 0, 1) := by decide +kernel
theorem dX2_init_39 : decode cX2_init 39 = .ok (.goto 15, 3) := by decide +kernel
theorem dX2_init_42 : decode cX2_init 42 = .ok (.iload_n 1, 1) := by decide +kernel
theorem dX2_init_43 : decode cX2_init 43 = .ok (.ldc 24, 2) := by decide +kernel
theorem dX2_init_45 : decode cX2_init 45 = .ok (.if_icmp .le 8, 3) := by decide +kernel
theorem dX2_init_48 : decode cX2_init 48 = .ok (.ldc 24, 2) := by decide +kernel
theorem dX2_init_50 : decode cX2_init 50 = .ok (.goto 4, 3) := by decide +kernel
theorem dX2_init_53 : decode cX2_init 53 = .ok (.iload_n 1, 1) := by decide +kernel
theorem dX2_init_54 : decode cX2_init 54 = .ok (.putfield 25, 3) := by decide +kernel
theorem dX2_init_57 : decode cX2_init 57 = .ok (.return_, 1) := by decide +kernel
theorem dX2_thrown_0 : decode cX2_thrown 0 = .ok (.aload_n 0, 1) := by decide +kernel
theorem dX2_thrown_1 : decode cX2_thrown 1 = .ok (.getfield 28, 3) := by decide +kernel
theorem dX2_thrown_4 : decode cX2_thrown 4 = .ok (.ireturn, 1) := by decide +kernel
theorem dX2_find_0 : decode cX2_find 0 = .ok (.iconst (-1), 1) := by decide +kernel
theorem dX2_find_1 : decode cX2_find 1 = .ok (.istore_n 2, 1) := by decide +kernel
theorem dX2_find_2 : decode cX2_find 2 = .ok (.iconst 0, 1) := by decide +kernel
theorem dX2_find_3 : decode cX2_find 3 = .ok (.istore_n 3, 1) := by decide +kernel
theorem dX2_find_4 : decode cX2_find 4 = .ok (.iload_n 3, 1) := by decide +kernel
theorem dX2_find_5 : decode cX2_find 5 = .ok (.aload_n 0, 1) := by decide +kernel
theorem dX2_find_6 : decode cX2_find 6 = .ok (.getfield 31, 3) := by decide +kernel
theorem dX2_find_9 : decode cX2_find 9 = .ok (.if_icmp .ge 25, 3) := by decide +kernel
theorem dX2_find_12 : decode cX2_find 12 = .ok (.aload_n 0, 1) := by decide +kernel
theorem dX2_find_13 : decode cX2_find 13 = .ok (.getfield 7, 3) := by decide +kernel
theorem dX2_find_16 : decode cX2_find 16 = .ok (.iload_n 3, 1) := by decide +kernel
theorem dX2_find_17 : decode cX2_find 17 = .ok (.iaload, 1) := by decide +kernel
theorem dX2_find_18 : decode cX2_find 18 = .ok (.iload_n 1, 1) := by decide +kernel
theorem dX2_find_19 : decode cX2_find 19 = .ok (.if_icmp .ne 7, 3) := by decide +kernel
theorem dX2_find_22 : decode cX2_find 22 = .ok (.iload_n 3, 1) := by decide +kernel
theorem dX2_find_23 : decode cX2_find 23 = .ok (.goto 4, 3) := by decide +kernel
theorem dX2_find_26 : decode cX2_find 26 = .ok (.iload_n 2, 1) := by decide +kernel
theorem dX2_find_27 : decode cX2_find 27 = .ok (.istore_n 2, 1) := by decide +kernel
theorem dX2_find_28 : decode cX2_find 28 = .ok (.iinc 3 1, 3) := by decide +kernel
theorem dX2_find_31 : decode cX2_find 31 = .ok (.goto (-27), 3) := by decide +kernel
theorem dX2_find_34 : decode cX2_find 34 = .ok (.iload_n 2, 1) := by decide +kernel
theorem dX2_find_35 : decode cX2_find 35 = .ok (.ireturn, 1) := by decide +kernel
theorem dX2_from_0 : decode cX2_from 0 = .ok (.iconst 0, 1) := by decide +kernel
theorem dX2_from_1 : decode cX2_from 1 = .ok (.istore_n 3, 1) := by decide +kernel
theorem dX2_from_2 : decode cX2_from 2 = .ok (.iconst 0, 1) := by decide +kernel
theorem dX2_from_3 : decode cX2_from 3 = .ok (.istore 4, 2) := by decide +kernel
theorem dX2_from_5 : decode cX2_from 5 = .ok (.iload 4, 2) := by decide +kernel
theorem dX2_from_7 : decode cX2_from 7 = .ok (.aload_n 0, 1) := by decide +kernel
theorem dX2_from_8 : decode cX2_from 8 = .ok (.getfield 31, 3) := by decide +kernel
theorem dX2_from_11 : decode cX2_from 11 = .ok (.if_icmp .ge 49, 3) := by decide +kernel
theorem dX2_from_14 : decode cX2_from 14 = .ok (.aload_n 0, 1) := by decide +kernel
theorem dX2_from_15 : decode cX2_from 15 = .ok (.getfield 7, 3) := by decide +kernel
theorem dX2_from_18 : decode cX2_from 18 = .ok (.iload 4, 2) := by decide +kernel
theorem dX2_from_20 : decode cX2_from 20 = .ok (.iaload, 1) := by decide +kernel
theorem dX2_from_21 : decode cX2_from 21 = .ok (.i2l, 1) := by decide +kernel
theorem dX2_from_22 : decode cX2_from 22 = .ok (.lload_n 1, 1) := by decide +kernel
theorem dX2_from_23 : decode cX2_from 23 = .ok (.lcmp, 1) := by decide +kernel
theorem dX2_from_24 : decode cX2_from 24 = .ok (.ifCond .lt 28, 3) := by decide +kernel
theorem dX2_from_27 : decode cX2_from 27 = .ok (.iload_n 3, 1) := by decide +kernel
theorem dX2_from_28 : decode cX2_from 28 = .ok (.ifCond .eq 14, 3) := by decide +kernel
theorem dX2_from_31 : decode cX2_from 31 = .ok (.aload_n 0, 1) := by decide +kernel
theorem dX2_from_32 : decode cX2_from 32 = .ok (.getfield 7, 3) := by decide +kernel
theorem dX2_from_35 : decode cX2_from 35 = .ok (.iload 4, 2) := by decide +kernel
theorem dX2_from_37 : decode cX2_from 37 = .ok (.iaload, 1) := by decide +kernel
theorem dX2_from_38 : decode cX2_from 38 = .ok (.iload_n 3, 1) := by decide +kernel
theorem dX2_from_39 : decode cX2_from 39 = .ok (.if_icmp .ge 13, 3) := by decide +kernel
theorem dX2_from_42 : decode cX2_from 42 = .ok (.aload_n 0, 1) := by decide +kernel
theorem dX2_from_43 : decode cX2_from 43 = .ok (.getfield 7, 3) := by decide +kernel
theorem dX2_from_46 : decode cX2_from 46 = .ok (.iload 4, 2) := by decide +kernel
theorem dX2_from_48 : decode cX2_from 48 = .ok (.iaload, 1) := by decide +kernel
theorem dX2_from_49 : decode cX2_from 49 = .ok (.goto 4, 3) := by decide +kernel
theorem dX2_from_52 : decode cX2_from 52 = .ok (.iload_n 3, 1) := by decide +kernel
theorem dX2_from_53 : decode cX2_from 53 = .ok (.istore_n 3, 1) := by decide +kernel
theorem dX2_from_54 : decode cX2_from 54 = .ok (.iinc 4 1, 3) := by decide +kernel
theorem dX2_from_57 : decode cX2_from 57 = .ok (.goto (-52), 3) := by decide +kernel
theorem dX2_from_60 : decode cX2_from 60 = .ok (.iload_n 3, 1) := by decide +kernel
theorem dX2_from_61 : decode cX2_from 61 = .ok (.ireturn, 1) := by decide +kernel
theorem dX2_upTo_0 : decode cX2_upTo 0 = .ok (.iconst 0, 1) := by decide +kernel
theorem dX2_upTo_1 : decode cX2_upTo 1 = .ok (.istore_n 3, 1) := by decide +kernel
theorem dX2_upTo_2 : decode cX2_upTo 2 = .ok (.iconst 0, 1) := by decide +kernel
theorem dX2_upTo_3 : decode cX2_upTo 3 = .ok (.istore 4, 2) := by decide +kernel
theorem dX2_upTo_5 : decode cX2_upTo 5 = .ok (.iload 4, 2) := by decide +kernel
theorem dX2_upTo_7 : decode cX2_upTo 7 = .ok (.aload_n 0, 1) := by decide +kernel
theorem dX2_upTo_8 : decode cX2_upTo 8 = .ok (.getfield 31, 3) := by decide +kernel
theorem dX2_upTo_11 : decode cX2_upTo 11 = .ok (.if_icmp .ge 45, 3) := by decide +kernel
theorem dX2_upTo_14 : decode cX2_upTo 14 = .ok (.aload_n 0, 1) := by decide +kernel
theorem dX2_upTo_15 : decode cX2_upTo 15 = .ok (.getfield 7, 3) := by decide +kernel
theorem dX2_upTo_18 : decode cX2_upTo 18 = .ok (.iload 4, 2) := by decide +kernel
theorem dX2_upTo_20 : decode cX2_upTo 20 = .ok (.iaload, 1) := by decide +kernel
theorem dX2_upTo_21 : decode cX2_upTo 21 = .ok (.i2l, 1) := by decide +kernel
theorem dX2_upTo_22 : decode cX2_upTo 22 = .ok (.lload_n 1, 1) := by decide +kernel
theorem dX2_upTo_23 : decode cX2_upTo 23 = .ok (.lcmp, 1) := by decide +kernel
theorem dX2_upTo_24 : decode cX2_upTo 24 = .ok (.ifCond .gt 24, 3) := by decide +kernel
theorem dX2_upTo_27 : decode cX2_upTo 27 = .ok (.aload_n 0, 1) := by decide +kernel
theorem dX2_upTo_28 : decode cX2_upTo 28 = .ok (.getfield 7, 3) := by decide +kernel
theorem dX2_upTo_31 : decode cX2_upTo 31 = .ok (.iload 4, 2) := by decide +kernel
theorem dX2_upTo_33 : decode cX2_upTo 33 = .ok (.iaload, 1) := by decide +kernel
theorem dX2_upTo_34 : decode cX2_upTo 34 = .ok (.iload_n 3, 1) := by decide +kernel
theorem dX2_upTo_35 : decode cX2_upTo 35 = .ok (.if_icmp .le 13, 3) := by decide +kernel
theorem dX2_upTo_38 : decode cX2_upTo 38 = .ok (.aload_n 0, 1) := by decide +kernel
theorem dX2_upTo_39 : decode cX2_upTo 39 = .ok (.getfield 7, 3) := by decide +kernel
theorem dX2_upTo_42 : decode cX2_upTo 42 = .ok (.iload 4, 2) := by decide +kernel
theorem dX2_upTo_44 : decode cX2_upTo 44 = .ok (.iaload, 1) := by decide +kernel
theorem dX2_upTo_45 : decode cX2_upTo 45 = .ok (.goto 4, 3) := by decide +kernel
theorem dX2_upTo_48 : decode cX2_upTo 48 = .ok (.iload_n 3, 1) := by decide +kernel
theorem dX2_upTo_49 : decode cX2_upTo 49 = .ok (.istore_n 3, 1) := by decide +kernel
theorem dX2_upTo_50 : decode cX2_upTo 50 = .ok (.iinc 4 1, 3) := by decide +kernel
theorem dX2_upTo_53 : decode cX2_upTo 53 = .ok (.goto (-48), 3) := by decide +kernel
theorem dX2_upTo_56 : decode cX2_upTo 56 = .ok (.iload_n 3, 1) := by decide +kernel
theorem dX2_upTo_57 : decode cX2_upTo 57 = .ok (.ireturn, 1) := by decide +kernel
theorem dX2_isLong_0 : decode cX2_isLong 0 = .ok (.lconst 1, 1) := by decide +kernel
theorem dX2_isLong_1 : decode cX2_isLong 1 = .ok (.lstore_n 2, 1) := by decide +kernel
theorem dX2_isLong_2 : decode cX2_isLong 2 = .ok (.iconst 0, 1) := by decide +kernel
theorem dX2_isLong_3 : decode cX2_isLong 3 = .ok (.istore 4, 2) := by decide +kernel
theorem dX2_isLong_5 : decode cX2_isLong 5 = .ok (.iload 4, 2) := by decide +kernel
theorem dX2_isLong_7 : decode cX2_isLong 7 = .ok (.aload_n 0, 1) := by decide +kernel
theorem dX2_isLong_8 : decode cX2_isLong 8 = .ok (.getfield 21, 3) := by decide +kernel
theorem dX2_isLong_11 : decode cX2_isLong 11 = .ok (.if_icmp .ge 15, 3) := by decide +kernel
theorem dX2_isLong_14 : decode cX2_isLong 14 = .ok (.lload_n 2, 1) := by decide +kernel
theorem dX2_isLong_15 : decode cX2_isLong 15 = .ok (.ldc2_w 34, 3) := by decide +kernel
theorem dX2_isLong_18 : decode cX2_isLong 18 = .ok (.lmul, 1) := by decide +kernel
theorem dX2_isLong_19 : decode cX2_isLong 19 = .ok (.lstore_n 2, 1) := by decide +kernel
theorem dX2_isLong_20 : decode cX2_isLong 20 = .ok (.iinc 4 1, 3) := by decide +kernel
theorem dX2_isLong_23 : decode cX2_isLong 23 = .ok (.goto (-18), 3) := by decide +kernel
theorem dX2_isLong_26 : decode cX2_isLong 26 = .ok (.iload_n 1, 1) := by decide +kernel
theorem dX2_isLong_27 : decode cX2_isLong 27 = .ok (.i2l, 1) := by decide +kernel
theorem dX2_isLong_28 : decode cX2_isLong 28 = .ok (.lload_n 2, 1) := by decide +kernel
theorem dX2_isLong_29 : decode cX2_isLong 29 = .ok (.lcmp, 1) := by decide +kernel
theorem dX2_isLong_30 : decode cX2_isLong 30 = .ok (.ifCond .lt 7, 3) := by decide +kernel
theorem dX2_isLong_33 : decode cX2_isLong 33 = .ok (.iconst 1, 1) := by decide +kernel
theorem dX2_isLong_34 : decode cX2_isLong 34 = .ok (.goto 4, 3) := by decide +kernel
theorem dX2_isLong_37 : decode cX2_isLong 37 = .ok (.iconst 0, 1) := by decide +kernel
theorem dX2_isLong_38 : decode cX2_isLong 38 = .ok (.ireturn, 1) := by decide +kernel
theorem dX2_isPlace_0 : decode cX2_isPlace 0 = .ok (.iload_n 1, 1) := by decide +kernel
theorem dX2_isPlace_1 : decode cX2_isPlace 1 = .ok (.ifCond .le 15, 3) := by decide +kernel
theorem dX2_isPlace_4 : decode cX2_isPlace 4 = .ok (.iload_n 1, 1) := by decide +kernel
theorem dX2_isPlace_5 : decode cX2_isPlace 5 = .ok (.aload_n 0, 1) := by decide +kernel
theorem dX2_isPlace_6 : decode cX2_isPlace 6 = .ok (.getfield 25, 3) := by decide +kernel
theorem dX2_isPlace_9 : decode cX2_isPlace 9 = .ok (.if_icmp .gt 7, 3) := by decide +kernel
theorem dX2_isPlace_12 : decode cX2_isPlace 12 = .ok (.iconst 1, 1) := by decide +kernel
theorem dX2_isPlace_13 : decode cX2_isPlace 13 = .ok (.goto 4, 3) := by decide +kernel
theorem dX2_isPlace_16 : decode cX2_isPlace 16 = .ok (.iconst 0, 1) := by decide +kernel
theorem dX2_isPlace_17 : decode cX2_isPlace 17 = .ok (.ireturn, 1) := by decide +kernel
theorem dX2_reads_0 : decode cX2_reads 0 = .ok (.aload_n 0, 1) := by decide +kernel
theorem dX2_reads_1 : decode cX2_reads 1 = .ok (.getfield 17, 3) := by decide +kernel
theorem dX2_reads_4 : decode cX2_reads 4 = .ok (.ifCond .eq 11, 3) := by decide +kernel
theorem dX2_reads_7 : decode cX2_reads 7 = .ok (.aload_n 0, 1) := by decide +kernel
theorem dX2_reads_8 : decode cX2_reads 8 = .ok (.getfield 17, 3) := by decide +kernel
theorem dX2_reads_11 : decode cX2_reads 11 = .ok (.iconst 2, 1) := by decide +kernel
theorem dX2_reads_12 : decode cX2_reads 12 = .ok (.if_icmp .ne 7, 3) := by decide +kernel
theorem dX2_reads_15 : decode cX2_reads 15 = .ok (.iconst 1, 1) := by decide +kernel
theorem dX2_reads_16 : decode cX2_reads 16 = .ok (.goto 4, 3) := by decide +kernel
theorem dX2_reads_19 : decode cX2_reads 19 = .ok (.iconst 0, 1) := by decide +kernel
theorem dX2_reads_20 : decode cX2_reads 20 = .ok (.ireturn, 1) := by decide +kernel
theorem dX2_open_0 : decode cX2_open 0 = .ok (.aload_n 0, 1) := by decide +kernel
theorem dX2_open_1 : decode cX2_open 1 = .ok (.iconst 0, 1) := by decide +kernel
theorem dX2_open_2 : decode cX2_open 2 = .ok (.putfield 28, 3) := by decide +kernel
theorem dX2_open_5 : decode cX2_open 5 = .ok (.iload_n 1, 1) := by decide +kernel
theorem dX2_open_6 : decode cX2_open 6 = .ok (.ifCond .lt 8, 3) := by decide +kernel
theorem dX2_open_9 : decode cX2_open 9 = .ok (.iload_n 1, 1) := by decide +kernel
theorem dX2_open_10 : decode cX2_open 10 = .ok (.iconst 4, 1) := by decide +kernel
theorem dX2_open_11 : decode cX2_open 11 = .ok (.if_icmp .le 5, 3) := by decide +kernel
theorem dX2_open_14 : decode cX2_open 14 = .ok (.iconst (-1), 1) := by decide +kernel
theorem dX2_open_15 : decode cX2_open 15 = .ok (.ireturn, 1) := by decide +kernel
theorem dX2_open_16 : decode cX2_open 16 = .ok (.iload_n 1, 1) := by decide +kernel
theorem dX2_open_17 : decode cX2_open 17 = .ok (.iconst 4, 1) := by decide +kernel
theorem dX2_open_18 : decode cX2_open 18 = .ok (.if_icmp .ne 26, 3) := by decide +kernel
theorem dX2_open_21 : decode cX2_open 21 = .ok (.aload_n 0, 1) := by decide +kernel
theorem dX2_open_22 : decode cX2_open 22 = .ok (.getfield 17, 3) := by decide +kernel
theorem dX2_open_25 : decode cX2_open 25 = .ok (.iconst (-1), 1) := by decide +kernel
theorem dX2_open_26 : decode cX2_open 26 = .ok (.if_icmp .ne 6, 3) := by decide +kernel
theorem dX2_open_29 : decode cX2_open 29 = .ok (.bipush 42, 2) := by decide +kernel
theorem dX2_open_31 : decode cX2_open 31 = .ok (.ireturn, 1) := by decide +kernel
theorem dX2_open_32 : decode cX2_open 32 = .ok (.aload_n 0, 1) := by decide +kernel
theorem dX2_open_33 : decode cX2_open 33 = .ok (.iconst (-1), 1) := by decide +kernel
theorem dX2_open_34 : decode cX2_open 34 = .ok (.putfield 17, 3) := by decide +kernel
theorem dX2_open_37 : decode cX2_open 37 = .ok (.aload_n 0, 1) := by decide +kernel
theorem dX2_open_38 : decode cX2_open 38 = .ok (.iconst 0, 1) := by decide +kernel
theorem dX2_open_39 : decode cX2_open 39 = .ok (.putfield 36, 3) := by decide +kernel
theorem dX2_open_42 : decode cX2_open 42 = .ok (.iconst 0, 1) := by decide +kernel
theorem dX2_open_43 : decode cX2_open 43 = .ok (.ireturn, 1) := by decide +kernel
theorem dX2_open_44 : decode cX2_open 44 = .ok (.aload_n 0, 1) := by decide +kernel
theorem dX2_open_45 : decode cX2_open 45 = .ok (.getfield 17, 3) := by decide +kernel
theorem dX2_open_48 : decode cX2_open 48 = .ok (.iconst (-1), 1) := by decide +kernel
theorem dX2_open_49 : decode cX2_open 49 = .ok (.if_icmp .eq 6, 3) := by decide +kernel
theorem dX2_open_52 : decode cX2_open 52 = .ok (.bipush 41, 2) := by decide +kernel
theorem dX2_open_54 : decode cX2_open 54 = .ok (.ireturn, 1) := by decide +kernel
theorem dX2_open_55 : decode cX2_open 55 = .ok (.aload_n 0, 1) := by decide +kernel
theorem dX2_open_56 : decode cX2_open 56 = .ok (.getfield 39, 3) := by decide +kernel
theorem dX2_open_59 : decode cX2_open 59 = .ok (.ifCond .ne 15, 3) := by decide +kernel
theorem dX2_open_62 : decode cX2_open 62 = .ok (.iload_n 1, 1) := by decide +kernel
theorem dX2_open_63 : decode cX2_open 63 = .ok (.ifCond .eq 8, 3) := by decide +kernel
theorem dX2_open_66 : decode cX2_open 66 = .ok (.iload_n 1, 1) := by decide +kernel
theorem dX2_open_67 : decode cX2_open 67 = .ok (.iconst 2, 1) := by decide +kernel
theorem dX2_open_68 : decode cX2_open 68 = .ok (.if_icmp .ne 6, 3) := by decide +kernel
theorem dX2_open_71 : decode cX2_open 71 = .ok (.bipush 35, 2) := by decide +kernel
theorem dX2_open_73 : decode cX2_open 73 = .ok (.ireturn, 1) := by decide +kernel
theorem dX2_open_74 : decode cX2_open 74 = .ok (.aload_n 0, 1) := by decide +kernel
theorem dX2_open_75 : decode cX2_open 75 = .ok (.getfield 39, 3) := by decide +kernel
theorem dX2_open_78 : decode cX2_open 78 = .ok (.ifCond .ne 7, 3) := by decide +kernel
theorem dX2_open_81 : decode cX2_open 81 = .ok (.iconst 1, 1) := by decide +kernel
theorem dX2_open_82 : decode cX2_open 82 = .ok (.goto 4, 3) := by decide +kernel
theorem dX2_open_85 : decode cX2_open 85 = .ok (.iconst 0, 1) := by decide +kernel
theorem dX2_open_86 : decode cX2_open 86 = .ok (.istore_n 2, 1) := by decide +kernel
theorem dX2_open_87 : decode cX2_open 87 = .ok (.aload_n 0, 1) := by decide +kernel
theorem dX2_open_88 : decode cX2_open 88 = .ok (.iconst 1, 1) := by decide +kernel
theorem dX2_open_89 : decode cX2_open 89 = .ok (.putfield 39, 3) := by decide +kernel
theorem dX2_open_92 : decode cX2_open 92 = .ok (.aload_n 0, 1) := by decide +kernel
theorem dX2_open_93 : decode cX2_open 93 = .ok (.iload_n 1, 1) := by decide +kernel
theorem dX2_open_94 : decode cX2_open 94 = .ok (.iconst 1, 1) := by decide +kernel
theorem dX2_open_95 : decode cX2_open 95 = .ok (.if_icmp .ne 7, 3) := by decide +kernel
theorem dX2_open_98 : decode cX2_open 98 = .ok (.iconst 0, 1) := by decide +kernel
theorem dX2_open_99 : decode cX2_open 99 = .ok (.goto 7, 3) := by decide +kernel
theorem dX2_open_102 : decode cX2_open 102 = .ok (.aload_n 0, 1) := by decide +kernel
theorem dX2_open_103 : decode cX2_open 103 = .ok (.getfield 31, 3) := by decide +kernel
theorem dX2_open_106 : decode cX2_open 106 = .ok (.putfield 31, 3) := by decide +kernel
theorem dX2_open_109 : decode cX2_open 109 = .ok (.aload_n 0, 1) := by decide +kernel
theorem dX2_open_110 : decode cX2_open 110 = .ok (.iload_n 1, 1) := by decide +kernel
theorem dX2_open_111 : decode cX2_open 111 = .ok (.putfield 17, 3) := by decide +kernel
theorem dX2_open_114 : decode cX2_open 114 = .ok (.aload_n 0, 1) := by decide +kernel
theorem dX2_open_115 : decode cX2_open 115 = .ok (.iconst 0, 1) := by decide +kernel
theorem dX2_open_116 : decode cX2_open 116 = .ok (.putfield 43, 3) := by decide +kernel
theorem dX2_open_119 : decode cX2_open 119 = .ok (.aload_n 0, 1) := by decide +kernel
theorem dX2_open_120 : decode cX2_open 120 = .ok (.iconst 0, 1) := by decide +kernel
theorem dX2_open_121 : decode cX2_open 121 = .ok (.putfield 46, 3) := by decide +kernel
theorem dX2_open_124 : decode cX2_open 124 = .ok (.aload_n 0, 1) := by decide +kernel
theorem dX2_open_125 : decode cX2_open 125 = .ok (.iconst 0, 1) := by decide +kernel
theorem dX2_open_126 : decode cX2_open 126 = .ok (.putfield 36, 3) := by decide +kernel
theorem dX2_open_129 : decode cX2_open 129 = .ok (.iload_n 1, 1) := by decide +kernel
theorem dX2_open_130 : decode cX2_open 130 = .ok (.iconst 3, 1) := by decide +kernel
theorem dX2_open_131 : decode cX2_open 131 = .ok (.if_icmp .ne 11, 3) := by decide +kernel
theorem dX2_open_134 : decode cX2_open 134 = .ok (.iload_n 2, 1) := by decide +kernel
theorem dX2_open_135 : decode cX2_open 135 = .ok (.ifCond .eq 7, 3) := by decide +kernel
theorem dX2_open_138 : decode cX2_open 138 = .ok (.iconst 5, 1) := by decide +kernel
theorem dX2_open_139 : decode cX2_open 139 = .ok (.goto 4, 3) := by decide +kernel
theorem dX2_open_142 : decode cX2_open 142 = .ok (.iconst 0, 1) := by decide +kernel
theorem dX2_open_143 : decode cX2_open 143 = .ok (.ireturn, 1) := by decide +kernel
theorem dX2_add_0 : decode cX2_add 0 = .ok (.aload_n 0, 1) := by decide +kernel
theorem dX2_add_1 : decode cX2_add 1 = .ok (.getfield 7, 3) := by decide +kernel
theorem dX2_add_4 : decode cX2_add 4 = .ok (.aload_n 0, 1) := by decide +kernel
theorem dX2_add_5 : decode cX2_add 5 = .ok (.getfield 31, 3) := by decide +kernel
theorem dX2_add_8 : decode cX2_add 8 = .ok (.iload_n 1, 1) := by decide +kernel
theorem dX2_add_9 : decode cX2_add 9 = .ok (.iastore, 1) := by decide +kernel
theorem dX2_add_10 : decode cX2_add 10 = .ok (.aload_n 0, 1) := by decide +kernel
theorem dX2_add_11 : decode cX2_add 11 = .ok (.getfield 13, 3) := by decide +kernel
theorem dX2_add_14 : decode cX2_add 14 = .ok (.aload_n 0, 1) := by decide +kernel
theorem dX2_add_15 : decode cX2_add 15 = .ok (.getfield 31, 3) := by decide +kernel
theorem dX2_add_18 : decode cX2_add 18 = .ok (.lload_n 2, 1) := by decide +kernel
theorem dX2_add_19 : decode cX2_add 19 = .ok (.lastore, 1) := by decide +kernel
theorem dX2_add_20 : decode cX2_add 20 = .ok (.aload_n 0, 1) := by decide +kernel
theorem dX2_add_21 : decode cX2_add 21 = .ok (.dup, 1) := by decide +kernel
theorem dX2_add_22 : decode cX2_add 22 = .ok (.getfield 31, 3) := by decide +kernel
theorem dX2_add_25 : decode cX2_add 25 = .ok (.iconst 1, 1) := by decide +kernel
theorem dX2_add_26 : decode cX2_add 26 = .ok (.iadd, 1) := by decide +kernel
theorem dX2_add_27 : decode cX2_add 27 = .ok (.putfield 31, 3) := by decide +kernel
theorem dX2_add_30 : decode cX2_add 30 = .ok (.aload_n 0, 1) := by decide +kernel
theorem dX2_add_31 : decode cX2_add 31 = .ok (.lload_n 2, 1) := by decide +kernel
theorem dX2_add_32 : decode cX2_add 32 = .ok (.putfield 49, 3) := by decide +kernel
theorem dX2_add_35 : decode cX2_add 35 = .ok (.return_, 1) := by decide +kernel
theorem dX2_write_0 : decode cX2_write 0 = .ok (.aload_n 0, 1) := by decide +kernel
theorem dX2_write_1 : decode cX2_write 1 = .ok (.iconst 0, 1) := by decide +kernel
theorem dX2_write_2 : decode cX2_write 2 = .ok (.putfield 28, 3) := by decide +kernel
theorem dX2_write_5 : decode cX2_write 5 = .ok (.aload_n 0, 1) := by decide +kernel
theorem dX2_write_6 : decode cX2_write 6 = .ok (.getfield 17, 3) := by decide +kernel
theorem dX2_write_9 : decode cX2_write 9 = .ok (.iconst (-1), 1) := by decide +kernel
theorem dX2_write_10 : decode cX2_write 10 = .ok (.if_icmp .ne 6, 3) := by decide +kernel
theorem dX2_write_13 : decode cX2_write 13 = .ok (.bipush 42, 2) := by decide +kernel
theorem dX2_write_15 : decode cX2_write 15 = .ok (.ireturn, 1) := by decide +kernel
theorem dX2_write_16 : decode cX2_write 16 = .ok (.aload_n 0, 1) := by decide +kernel
theorem dX2_write_17 : decode cX2_write 17 = .ok (.getfield 17, 3) := by decide +kernel
theorem dX2_write_20 : decode cX2_write 20 = .ok (.ifCond .ne 6, 3) := by decide +kernel
theorem dX2_write_23 : decode cX2_write 23 = .ok (.bipush 48, 2) := by decide +kernel
theorem dX2_write_25 : decode cX2_write 25 = .ok (.ireturn, 1) := by decide +kernel
theorem dX2_write_26 : decode cX2_write 26 = .ok (.aload_n 0, 1) := by decide +kernel
theorem dX2_write_27 : decode cX2_write 27 = .ok (.iconst 0, 1) := by decide +kernel
theorem dX2_write_28 : decode cX2_write 28 = .ok (.putfield 36, 3) := by decide +kernel
theorem dX2_write_31 : decode cX2_write 31 = .ok (.iload_n 1, 1) := by decide +kernel
theorem dX2_write_32 : decode cX2_write 32 = .ok (.iconst (-1), 1) := by decide +kernel
theorem dX2_write_33 : decode cX2_write 33 = .ok (.if_icmp .ne 14, 3) := by decide +kernel
theorem dX2_write_36 : decode cX2_write 36 = .ok (.aload_n 0, 1) := by decide +kernel
theorem dX2_write_37 : decode cX2_write 37 = .ok (.getfield 17, 3) := by decide +kernel
theorem dX2_write_40 : decode cX2_write 40 = .ok (.iconst 2, 1) := by decide +kernel
theorem dX2_write_41 : decode cX2_write 41 = .ok (.if_icmp .ne 6, 3) := by decide +kernel
theorem dX2_write_44 : decode cX2_write 44 = .ok (.bipush 24, 2) := by decide +kernel
theorem dX2_write_46 : decode cX2_write 46 = .ok (.ireturn, 1) := by decide +kernel
theorem dX2_write_47 : decode cX2_write 47 = .ok (.iload_n 1, 1) := by decide +kernel
theorem dX2_write_48 : decode cX2_write 48 = .ok (.iconst (-1), 1) := by decide +kernel
theorem dX2_write_49 : decode cX2_write 49 = .ok (.if_icmp .ne 17, 3) := by decide +kernel
theorem dX2_write_52 : decode cX2_write 52 = .ok (.aload_n 0, 1) := by decide +kernel
theorem dX2_write_53 : decode cX2_write 53 = .ok (.aload_n 0, 1) := by decide +kernel
theorem dX2_write_54 : decode cX2_write 54 = .ok (.getfield 25, 3) := by decide +kernel
theorem dX2_write_57 : decode cX2_write 57 = .ok (.i2l, 1) := by decide +kernel
theorem dX2_write_58 : decode cX2_write 58 = .ok (.invokevirtual 53, 3) := by decide +kernel
theorem dX2_write_61 : decode cX2_write 61 = .ok (.iconst 1, 1) := by decide +kernel
theorem dX2_write_62 : decode cX2_write 62 = .ok (.iadd, 1) := by decide +kernel
theorem dX2_write_63 : decode cX2_write 63 = .ok (.goto 4, 3) := by decide +kernel
theorem dX2_write_66 : decode cX2_write 66 = .ok (.iload_n 1, 1) := by decide +kernel
theorem dX2_write_67 : decode cX2_write 67 = .ok (.istore 4, 2) := by decide +kernel
theorem dX2_write_69 : decode cX2_write 69 = .ok (.aload_n 0, 1) := by decide +kernel
theorem dX2_write_70 : decode cX2_write 70 = .ok (.iload 4, 2) := by decide +kernel
theorem dX2_write_72 : decode cX2_write 72 = .ok (.invokevirtual 57, 3) := by decide +kernel
theorem dX2_write_75 : decode cX2_write 75 = .ok (.ifCond .eq 12, 3) := by decide +kernel
theorem dX2_write_78 : decode cX2_write 78 = .ok (.aload_n 0, 1) := by decide +kernel
theorem dX2_write_79 : decode cX2_write 79 = .ok (.iload 4, 2) := by decide +kernel
theorem dX2_write_81 : decode cX2_write 81 = .ok (.invokevirtual 61, 3) := by decide +kernel
theorem dX2_write_84 : decode cX2_write 84 = .ok (.ifCond .eq 6, 3) := by decide +kernel
theorem dX2_write_87 : decode cX2_write 87 = .ok (.bipush 24, 2) := by decide +kernel
theorem dX2_write_89 : decode cX2_write 89 = .ok (.ireturn, 1) := by decide +kernel
theorem dX2_write_90 : decode cX2_write 90 = .ok (.aload_n 0, 1) := by decide +kernel
theorem dX2_write_91 : decode cX2_write 91 = .ok (.iload 4, 2) := by decide +kernel
theorem dX2_write_93 : decode cX2_write 93 = .ok (.invokevirtual 64, 3) := by decide +kernel
theorem dX2_write_96 : decode cX2_write 96 = .ok (.iconst (-1), 1) := by decide +kernel
theorem dX2_write_97 : decode cX2_write 97 = .ok (.if_icmp .eq 6, 3) := by decide +kernel
theorem dX2_write_100 : decode cX2_write 100 = .ok (.bipush 22, 2) := by decide +kernel
theorem dX2_write_102 : decode cX2_write 102 = .ok (.ireturn, 1) := by decide +kernel
theorem dX2_write_103 : decode cX2_write 103 = .ok (.aload_n 0, 1) := by decide +kernel
theorem dX2_write_104 : decode cX2_write 104 = .ok (.iload 4, 2) := by decide +kernel
theorem dX2_write_106 : decode cX2_write 106 = .ok (.lload_n 2, 1) := by decide +kernel
theorem dX2_write_107 : decode cX2_write 107 = .ok (.invokevirtual 68, 3) := by decide +kernel
theorem dX2_write_110 : decode cX2_write 110 = .ok (.iconst 0, 1) := by decide +kernel
theorem dX2_write_111 : decode cX2_write 111 = .ok (.ireturn, 1) := by decide +kernel
theorem dX2_take_0 : decode cX2_take 0 = .ok (.aload_n 0, 1) := by decide +kernel
theorem dX2_take_1 : decode cX2_take 1 = .ok (.iconst 1, 1) := by decide +kernel
theorem dX2_take_2 : decode cX2_take 2 = .ok (.putfield 43, 3) := by decide +kernel
theorem dX2_take_5 : decode cX2_take 5 = .ok (.aload_n 0, 1) := by decide +kernel
theorem dX2_take_6 : decode cX2_take 6 = .ok (.iload_n 1, 1) := by decide +kernel
theorem dX2_take_7 : decode cX2_take 7 = .ok (.putfield 72, 3) := by decide +kernel
theorem dX2_take_10 : decode cX2_take 10 = .ok (.aload_n 0, 1) := by decide +kernel
theorem dX2_take_11 : decode cX2_take 11 = .ok (.iload_n 1, 1) := by decide +kernel
theorem dX2_take_12 : decode cX2_take 12 = .ok (.putfield 36, 3) := by decide +kernel
theorem dX2_take_15 : decode cX2_take 15 = .ok (.aload_n 0, 1) := by decide +kernel
theorem dX2_take_16 : decode cX2_take 16 = .ok (.aload_n 0, 1) := by decide +kernel
theorem dX2_take_17 : decode cX2_take 17 = .ok (.getfield 13, 3) := by decide +kernel
theorem dX2_take_20 : decode cX2_take 20 = .ok (.aload_n 0, 1) := by decide +kernel
theorem dX2_take_21 : decode cX2_take 21 = .ok (.iload_n 1, 1) := by decide +kernel
theorem dX2_take_22 : decode cX2_take 22 = .ok (.invokevirtual 64, 3) := by decide +kernel
theorem dX2_take_25 : decode cX2_take 25 = .ok (.laload, 1) := by decide +kernel
theorem dX2_take_26 : decode cX2_take 26 = .ok (.putfield 49, 3) := by decide +kernel
theorem dX2_take_29 : decode cX2_take 29 = .ok (.return_, 1) := by decide +kernel
theorem dX2_read_0 : decode cX2_read 0 = .ok (.aload_n 0, 1) := by decide +kernel
theorem dX2_read_1 : decode cX2_read 1 = .ok (.iconst 0, 1) := by decide +kernel
theorem dX2_read_2 : decode cX2_read 2 = .ok (.putfield 28, 3) := by decide +kernel
theorem dX2_read_5 : decode cX2_read 5 = .ok (.aload_n 0, 1) := by decide +kernel
theorem dX2_read_6 : decode cX2_read 6 = .ok (.getfield 17, 3) := by decide +kernel
theorem dX2_read_9 : decode cX2_read 9 = .ok (.iconst (-1), 1) := by decide +kernel
theorem dX2_read_10 : decode cX2_read 10 = .ok (.if_icmp .ne 6, 3) := by decide +kernel
theorem dX2_read_13 : decode cX2_read 13 = .ok (.bipush 42, 2) := by decide +kernel
theorem dX2_read_15 : decode cX2_read 15 = .ok (.ireturn, 1) := by decide +kernel
theorem dX2_read_16 : decode cX2_read 16 = .ok (.aload_n 0, 1) := by decide +kernel
theorem dX2_read_17 : decode cX2_read 17 = .ok (.invokevirtual 75, 3) := by decide +kernel
theorem dX2_read_20 : decode cX2_read 20 = .ok (.ifCond .ne 6, 3) := by decide +kernel
theorem dX2_read_23 : decode cX2_read 23 = .ok (.bipush 47, 2) := by decide +kernel
theorem dX2_read_25 : decode cX2_read 25 = .ok (.ireturn, 1) := by decide +kernel
theorem dX2_read_26 : decode cX2_read 26 = .ok (.aload_n 0, 1) := by decide +kernel
theorem dX2_read_27 : decode cX2_read 27 = .ok (.iconst 0, 1) := by decide +kernel
theorem dX2_read_28 : decode cX2_read 28 = .ok (.putfield 36, 3) := by decide +kernel
theorem dX2_read_31 : decode cX2_read 31 = .ok (.aload_n 0, 1) := by decide +kernel
theorem dX2_read_32 : decode cX2_read 32 = .ok (.iconst 0, 1) := by decide +kernel
theorem dX2_read_33 : decode cX2_read 33 = .ok (.putfield 46, 3) := by decide +kernel
theorem dX2_read_36 : decode cX2_read 36 = .ok (.aload_n 0, 1) := by decide +kernel
theorem dX2_read_37 : decode cX2_read 37 = .ok (.iconst 3, 1) := by decide +kernel
theorem dX2_read_38 : decode cX2_read 38 = .ok (.putfield 43, 3) := by decide +kernel
theorem dX2_read_41 : decode cX2_read 41 = .ok (.aload_n 0, 1) := by decide +kernel
theorem dX2_read_42 : decode cX2_read 42 = .ok (.iload_n 1, 1) := by decide +kernel
theorem dX2_read_43 : decode cX2_read 43 = .ok (.invokevirtual 64, 3) := by decide +kernel
theorem dX2_read_46 : decode cX2_read 46 = .ok (.iconst (-1), 1) := by decide +kernel
theorem dX2_read_47 : decode cX2_read 47 = .ok (.if_icmp .ne 6, 3) := by decide +kernel
theorem dX2_read_50 : decode cX2_read 50 = .ok (.bipush 23, 2) := by decide +kernel
theorem dX2_read_52 : decode cX2_read 52 = .ok (.ireturn, 1) := by decide +kernel
theorem dX2_read_53 : decode cX2_read 53 = .ok (.aload_n 0, 1) := by decide +kernel
theorem dX2_read_54 : decode cX2_read 54 = .ok (.iload_n 1, 1) := by decide +kernel
theorem dX2_read_55 : decode cX2_read 55 = .ok (.invokevirtual 79, 3) := by decide +kernel
theorem dX2_read_58 : decode cX2_read 58 = .ok (.iconst 0, 1) := by decide +kernel
theorem dX2_read_59 : decode cX2_read 59 = .ok (.ireturn, 1) := by decide +kernel
theorem dX2_value_0 : decode cX2_value 0 = .ok (.aload_n 0, 1) := by decide +kernel
theorem dX2_value_1 : decode cX2_value 1 = .ok (.iconst 0, 1) := by decide +kernel
theorem dX2_value_2 : decode cX2_value 2 = .ok (.putfield 28, 3) := by decide +kernel
theorem dX2_value_5 : decode cX2_value 5 = .ok (.aload_n 0, 1) := by decide +kernel
theorem dX2_value_6 : decode cX2_value 6 = .ok (.getfield 49, 3) := by decide +kernel
theorem dX2_value_9 : decode cX2_value 9 = .ok (.lreturn, 1) := by decide +kernel
theorem dX2_start_0 : decode cX2_start 0 = .ok (.aload_n 0, 1) := by decide +kernel
theorem dX2_start_1 : decode cX2_start 1 = .ok (.iconst 0, 1) := by decide +kernel
theorem dX2_start_2 : decode cX2_start 2 = .ok (.putfield 28, 3) := by decide +kernel
theorem dX2_start_5 : decode cX2_start 5 = .ok (.iload_n 1, 1) := by decide +kernel
theorem dX2_start_6 : decode cX2_start 6 = .ok (.ifCond .lt 8, 3) := by decide +kernel
theorem dX2_start_9 : decode cX2_start 9 = .ok (.iload_n 1, 1) := by decide +kernel
theorem dX2_start_10 : decode cX2_start 10 = .ok (.iconst 4, 1) := by decide +kernel
theorem dX2_start_11 : decode cX2_start 11 = .ok (.if_icmp .le 5, 3) := by decide +kernel
theorem dX2_start_14 : decode cX2_start 14 = .ok (.iconst (-1), 1) := by decide +kernel
theorem dX2_start_15 : decode cX2_start 15 = .ok (.ireturn, 1) := by decide +kernel
theorem dX2_start_16 : decode cX2_start 16 = .ok (.aload_n 0, 1) := by decide +kernel
theorem dX2_start_17 : decode cX2_start 17 = .ok (.getfield 17, 3) := by decide +kernel
theorem dX2_start_20 : decode cX2_start 20 = .ok (.iconst (-1), 1) := by decide +kernel
theorem dX2_start_21 : decode cX2_start 21 = .ok (.if_icmp .ne 6, 3) := by decide +kernel
theorem dX2_start_24 : decode cX2_start 24 = .ok (.bipush 42, 2) := by decide +kernel
theorem dX2_start_26 : decode cX2_start 26 = .ok (.ireturn, 1) := by decide +kernel
theorem dX2_start_27 : decode cX2_start 27 = .ok (.aload_n 0, 1) := by decide +kernel
theorem dX2_start_28 : decode cX2_start 28 = .ok (.invokevirtual 75, 3) := by decide +kernel
theorem dX2_start_31 : decode cX2_start 31 = .ok (.ifCond .ne 6, 3) := by decide +kernel
theorem dX2_start_34 : decode cX2_start 34 = .ok (.bipush 47, 2) := by decide +kernel
theorem dX2_start_36 : decode cX2_start 36 = .ok (.ireturn, 1) := by decide +kernel
theorem dX2_start_37 : decode cX2_start 37 = .ok (.aload_n 0, 1) := by decide +kernel
theorem dX2_start_38 : decode cX2_start 38 = .ok (.iconst 0, 1) := by decide +kernel
theorem dX2_start_39 : decode cX2_start 39 = .ok (.putfield 36, 3) := by decide +kernel
theorem dX2_start_42 : decode cX2_start 42 = .ok (.aload_n 0, 1) := by decide +kernel
theorem dX2_start_43 : decode cX2_start 43 = .ok (.iconst 0, 1) := by decide +kernel
theorem dX2_start_44 : decode cX2_start 44 = .ok (.putfield 46, 3) := by decide +kernel
theorem dX2_start_47 : decode cX2_start 47 = .ok (.iconst 0, 1) := by decide +kernel
theorem dX2_start_48 : decode cX2_start 48 = .ok (.istore_n 3, 1) := by decide +kernel
theorem dX2_start_49 : decode cX2_start 49 = .ok (.iload_n 1, 1) := by decide +kernel
theorem dX2_start_50 : decode cX2_start 50 = .ok (.tableswitch 82 0 3 #[30, 48, 60, 70], 30) := by decide +kernel
theorem dX2_start_80 : decode cX2_start 80 = .ok (.aload_n 0, 1) := by decide +kernel
theorem dX2_start_81 : decode cX2_start 81 = .ok (.iload_n 2, 1) := by decide +kernel
theorem dX2_start_82 : decode cX2_start 82 = .ok (.invokevirtual 64, 3) := by decide +kernel
theorem dX2_start_85 : decode cX2_start 85 = .ok (.iconst (-1), 1) := by decide +kernel
theorem dX2_start_86 : decode cX2_start 86 = .ok (.if_icmp .ne 7, 3) := by decide +kernel
theorem dX2_start_89 : decode cX2_start 89 = .ok (.iconst 0, 1) := by decide +kernel
theorem dX2_start_90 : decode cX2_start 90 = .ok (.goto 4, 3) := by decide +kernel
theorem dX2_start_93 : decode cX2_start 93 = .ok (.iload_n 2, 1) := by decide +kernel
theorem dX2_start_94 : decode cX2_start 94 = .ok (.istore_n 3, 1) := by decide +kernel
theorem dX2_start_95 : decode cX2_start 95 = .ok (.goto 44, 3) := by decide +kernel
theorem dX2_start_98 : decode cX2_start 98 = .ok (.aload_n 0, 1) := by decide +kernel
theorem dX2_start_99 : decode cX2_start 99 = .ok (.iload_n 2, 1) := by decide +kernel
theorem dX2_start_100 : decode cX2_start 100 = .ok (.i2l, 1) := by decide +kernel
theorem dX2_start_101 : decode cX2_start 101 = .ok (.lconst 1, 1) := by decide +kernel
theorem dX2_start_102 : decode cX2_start 102 = .ok (.ladd, 1) := by decide +kernel
theorem dX2_start_103 : decode cX2_start 103 = .ok (.invokevirtual 83, 3) := by decide +kernel
theorem dX2_start_106 : decode cX2_start 106 = .ok (.istore_n 3, 1) := by decide +kernel
theorem dX2_start_107 : decode cX2_start 107 = .ok (.goto 32, 3) := by decide +kernel
theorem dX2_start_110 : decode cX2_start 110 = .ok (.aload_n 0, 1) := by decide +kernel
theorem dX2_start_111 : decode cX2_start 111 = .ok (.iload_n 2, 1) := by decide +kernel
theorem dX2_start_112 : decode cX2_start 112 = .ok (.i2l, 1) := by decide +kernel
theorem dX2_start_113 : decode cX2_start 113 = .ok (.invokevirtual 83, 3) := by decide +kernel
theorem dX2_start_116 : decode cX2_start 116 = .ok (.istore_n 3, 1) := by decide +kernel
theorem dX2_start_117 : decode cX2_start 117 = .ok (.goto 22, 3) := by decide +kernel
theorem dX2_start_120 : decode cX2_start 120 = .ok (.aload_n 0, 1) := by decide +kernel
theorem dX2_start_121 : decode cX2_start 121 = .ok (.iload_n 2, 1) := by decide +kernel
theorem dX2_start_122 : decode cX2_start 122 = .ok (.i2l, 1) := by decide +kernel
theorem dX2_start_123 : decode cX2_start 123 = .ok (.lconst 1, 1) := by decide +kernel
theorem dX2_start_124 : decode cX2_start 124 = .ok (.lsub, 1) := by decide +kernel
theorem dX2_start_125 : decode cX2_start 125 = .ok (.invokevirtual 53, 3) := by decide +kernel
theorem dX2_start_128 : decode cX2_start 128 = .ok (.istore_n 3, 1) := by decide +kernel
theorem dX2_start_129 : decode cX2_start 129 = .ok (.goto 10, 3) := by decide +kernel
theorem dX2_start_132 : decode cX2_start 132 = .ok (.aload_n 0, 1) := by decide +kernel
theorem dX2_start_133 : decode cX2_start 133 = .ok (.iload_n 2, 1) := by decide +kernel
theorem dX2_start_134 : decode cX2_start 134 = .ok (.i2l, 1) := by decide +kernel
theorem dX2_start_135 : decode cX2_start 135 = .ok (.invokevirtual 53, 3) := by decide +kernel
theorem dX2_start_138 : decode cX2_start 138 = .ok (.istore_n 3, 1) := by decide +kernel
theorem dX2_start_139 : decode cX2_start 139 = .ok (.aload_n 0, 1) := by decide +kernel
theorem dX2_start_140 : decode cX2_start 140 = .ok (.iload_n 3, 1) := by decide +kernel
theorem dX2_start_141 : decode cX2_start 141 = .ok (.ifCond .ne 7, 3) := by decide +kernel
theorem dX2_start_144 : decode cX2_start 144 = .ok (.iconst 3, 1) := by decide +kernel
theorem dX2_start_145 : decode cX2_start 145 = .ok (.goto 4, 3) := by decide +kernel
theorem dX2_start_148 : decode cX2_start 148 = .ok (.iconst 2, 1) := by decide +kernel
theorem dX2_start_149 : decode cX2_start 149 = .ok (.putfield 43, 3) := by decide +kernel
theorem dX2_start_152 : decode cX2_start 152 = .ok (.aload_n 0, 1) := by decide +kernel
theorem dX2_start_153 : decode cX2_start 153 = .ok (.iload_n 3, 1) := by decide +kernel
theorem dX2_start_154 : decode cX2_start 154 = .ok (.putfield 72, 3) := by decide +kernel
theorem dX2_start_157 : decode cX2_start 157 = .ok (.iload_n 3, 1) := by decide +kernel
theorem dX2_start_158 : decode cX2_start 158 = .ok (.ifCond .ne 8, 3) := by decide +kernel
theorem dX2_start_161 : decode cX2_start 161 = .ok (.bipush 23, 2) := by decide +kernel
theorem dX2_start_163 : decode cX2_start 163 = .ok (.goto 4, 3) := by decide +kernel
theorem dX2_start_166 : decode cX2_start 166 = .ok (.iconst 0, 1) := by decide +kernel
theorem dX2_start_167 : decode cX2_start 167 = .ok (.ireturn, 1) := by decide +kernel
theorem dX2_next_0 : decode cX2_next 0 = .ok (.aload_n 0, 1) := by decide +kernel
theorem dX2_next_1 : decode cX2_next 1 = .ok (.iconst 0, 1) := by decide +kernel
theorem dX2_next_2 : decode cX2_next 2 = .ok (.putfield 28, 3) := by decide +kernel
theorem dX2_next_5 : decode cX2_next 5 = .ok (.aload_n 0, 1) := by decide +kernel
theorem dX2_next_6 : decode cX2_next 6 = .ok (.getfield 17, 3) := by decide +kernel
theorem dX2_next_9 : decode cX2_next 9 = .ok (.iconst (-1), 1) := by decide +kernel
theorem dX2_next_10 : decode cX2_next 10 = .ok (.if_icmp .ne 6, 3) := by decide +kernel
theorem dX2_next_13 : decode cX2_next 13 = .ok (.bipush 42, 2) := by decide +kernel
theorem dX2_next_15 : decode cX2_next 15 = .ok (.ireturn, 1) := by decide +kernel
theorem dX2_next_16 : decode cX2_next 16 = .ok (.aload_n 0, 1) := by decide +kernel
theorem dX2_next_17 : decode cX2_next 17 = .ok (.invokevirtual 75, 3) := by decide +kernel
theorem dX2_next_20 : decode cX2_next 20 = .ok (.ifCond .ne 6, 3) := by decide +kernel
theorem dX2_next_23 : decode cX2_next 23 = .ok (.bipush 47, 2) := by decide +kernel
theorem dX2_next_25 : decode cX2_next 25 = .ok (.ireturn, 1) := by decide +kernel
theorem dX2_next_26 : decode cX2_next 26 = .ok (.aload_n 0, 1) := by decide +kernel
theorem dX2_next_27 : decode cX2_next 27 = .ok (.iconst 0, 1) := by decide +kernel
theorem dX2_next_28 : decode cX2_next 28 = .ok (.putfield 36, 3) := by decide +kernel
theorem dX2_next_31 : decode cX2_next 31 = .ok (.aload_n 0, 1) := by decide +kernel
theorem dX2_next_32 : decode cX2_next 32 = .ok (.getfield 43, 3) := by decide +kernel
theorem dX2_next_35 : decode cX2_next 35 = .ok (.iconst 3, 1) := by decide +kernel
theorem dX2_next_36 : decode cX2_next 36 = .ok (.if_icmp .eq 10, 3) := by decide +kernel
theorem dX2_next_39 : decode cX2_next 39 = .ok (.aload_n 0, 1) := by decide +kernel
theorem dX2_next_40 : decode cX2_next 40 = .ok (.getfield 46, 3) := by decide +kernel
theorem dX2_next_43 : decode cX2_next 43 = .ok (.ifCond .eq 6, 3) := by decide +kernel
theorem dX2_next_46 : decode cX2_next 46 = .ok (.bipush 46, 2) := by decide +kernel
theorem dX2_next_48 : decode cX2_next 48 = .ok (.ireturn, 1) := by decide +kernel
theorem dX2_next_49 : decode cX2_next 49 = .ok (.aload_n 0, 1) := by decide +kernel
theorem dX2_next_50 : decode cX2_next 50 = .ok (.getfield 43, 3) := by decide +kernel
theorem dX2_next_53 : decode cX2_next 53 = .ok (.ifCond .ne 7, 3) := by decide +kernel
theorem dX2_next_56 : decode cX2_next 56 = .ok (.lconst 0, 1) := by decide +kernel
theorem dX2_next_57 : decode cX2_next 57 = .ok (.goto 40, 3) := by decide +kernel
theorem dX2_next_60 : decode cX2_next 60 = .ok (.aload_n 0, 1) := by decide +kernel
theorem dX2_next_61 : decode cX2_next 61 = .ok (.getfield 43, 3) := by decide +kernel
theorem dX2_next_64 : decode cX2_next 64 = .ok (.iconst 2, 1) := by decide +kernel
theorem dX2_next_65 : decode cX2_next 65 = .ok (.if_icmp .ne 11, 3) := by decide +kernel
theorem dX2_next_68 : decode cX2_next 68 = .ok (.aload_n 0, 1) := by decide +kernel
theorem dX2_next_69 : decode cX2_next 69 = .ok (.getfield 72, 3) := by decide +kernel
theorem dX2_next_72 : decode cX2_next 72 = .ok (.i2l, 1) := by decide +kernel
theorem dX2_next_73 : decode cX2_next 73 = .ok (.goto 24, 3) := by decide +kernel
theorem dX2_next_76 : decode cX2_next 76 = .ok (.iload_n 1, 1) := by decide +kernel
theorem dX2_next_77 : decode cX2_next 77 = .ok (.ifCond .eq 13, 3) := by decide +kernel
theorem dX2_next_80 : decode cX2_next 80 = .ok (.aload_n 0, 1) := by decide +kernel
theorem dX2_next_81 : decode cX2_next 81 = .ok (.getfield 72, 3) := by decide +kernel
theorem dX2_next_84 : decode cX2_next 84 = .ok (.i2l, 1) := by decide +kernel
theorem dX2_next_85 : decode cX2_next 85 = .ok (.lconst 1, 1) := by decide +kernel
theorem dX2_next_86 : decode cX2_next 86 = .ok (.lsub, 1) := by decide +kernel
theorem dX2_next_87 : decode cX2_next 87 = .ok (.goto 10, 3) := by decide +kernel
theorem dX2_next_90 : decode cX2_next 90 = .ok (.aload_n 0, 1) := by decide +kernel
theorem dX2_next_91 : decode cX2_next 91 = .ok (.getfield 72, 3) := by decide +kernel
theorem dX2_next_94 : decode cX2_next 94 = .ok (.i2l, 1) := by decide +kernel
theorem dX2_next_95 : decode cX2_next 95 = .ok (.lconst 1, 1) := by decide +kernel
theorem dX2_next_96 : decode cX2_next 96 = .ok (.ladd, 1) := by decide +kernel
theorem dX2_next_97 : decode cX2_next 97 = .ok (.lstore_n 2, 1) := by decide +kernel
theorem dX2_next_98 : decode cX2_next 98 = .ok (.iload_n 1, 1) := by decide +kernel
theorem dX2_next_99 : decode cX2_next 99 = .ok (.ifCond .eq 11, 3) := by decide +kernel
theorem dX2_next_102 : decode cX2_next 102 = .ok (.aload_n 0, 1) := by decide +kernel
theorem dX2_next_103 : decode cX2_next 103 = .ok (.lload_n 2, 1) := by decide +kernel
theorem dX2_next_104 : decode cX2_next 104 = .ok (.invokevirtual 53, 3) := by decide +kernel
theorem dX2_next_107 : decode cX2_next 107 = .ok (.goto 8, 3) := by decide +kernel
theorem dX2_next_110 : decode cX2_next 110 = .ok (.aload_n 0, 1) := by decide +kernel
theorem dX2_next_111 : decode cX2_next 111 = .ok (.lload_n 2, 1) := by decide +kernel
theorem dX2_next_112 : decode cX2_next 112 = .ok (.invokevirtual 83, 3) := by decide +kernel
theorem dX2_next_115 : decode cX2_next 115 = .ok (.istore 4, 2) := by decide +kernel
theorem dX2_next_117 : decode cX2_next 117 = .ok (.aload_n 0, 1) := by decide +kernel
theorem dX2_next_118 : decode cX2_next 118 = .ok (.iload 4, 2) := by decide +kernel
theorem dX2_next_120 : decode cX2_next 120 = .ok (.ifCond .ne 7, 3) := by decide +kernel
theorem dX2_next_123 : decode cX2_next 123 = .ok (.iconst 1, 1) := by decide +kernel
theorem dX2_next_124 : decode cX2_next 124 = .ok (.goto 4, 3) := by decide +kernel
theorem dX2_next_127 : decode cX2_next 127 = .ok (.iconst 0, 1) := by decide +kernel
theorem dX2_next_128 : decode cX2_next 128 = .ok (.putfield 46, 3) := by decide +kernel
theorem dX2_next_131 : decode cX2_next 131 = .ok (.aload_n 0, 1) := by decide +kernel
theorem dX2_next_132 : decode cX2_next 132 = .ok (.getfield 46, 3) := by decide +kernel
theorem dX2_next_135 : decode cX2_next 135 = .ok (.ifCond .eq 6, 3) := by decide +kernel
theorem dX2_next_138 : decode cX2_next 138 = .ok (.bipush 10, 2) := by decide +kernel
theorem dX2_next_140 : decode cX2_next 140 = .ok (.ireturn, 1) := by decide +kernel
theorem dX2_next_141 : decode cX2_next 141 = .ok (.aload_n 0, 1) := by decide +kernel
theorem dX2_next_142 : decode cX2_next 142 = .ok (.iload 4, 2) := by decide +kernel
theorem dX2_next_144 : decode cX2_next 144 = .ok (.invokevirtual 61, 3) := by decide +kernel
theorem dX2_next_147 : decode cX2_next 147 = .ok (.ifCond .eq 11, 3) := by decide +kernel
theorem dX2_next_150 : decode cX2_next 150 = .ok (.aload_n 0, 1) := by decide +kernel
theorem dX2_next_151 : decode cX2_next 151 = .ok (.iconst 3, 1) := by decide +kernel
theorem dX2_next_152 : decode cX2_next 152 = .ok (.putfield 43, 3) := by decide +kernel
theorem dX2_next_155 : decode cX2_next 155 = .ok (.bipush 14, 2) := by decide +kernel
theorem dX2_next_157 : decode cX2_next 157 = .ok (.ireturn, 1) := by decide +kernel
theorem dX2_next_158 : decode cX2_next 158 = .ok (.aload_n 0, 1) := by decide +kernel
theorem dX2_next_159 : decode cX2_next 159 = .ok (.iload 4, 2) := by decide +kernel
theorem dX2_next_161 : decode cX2_next 161 = .ok (.invokevirtual 79, 3) := by decide +kernel
theorem dX2_next_164 : decode cX2_next 164 = .ok (.iconst 0, 1) := by decide +kernel
theorem dX2_next_165 : decode cX2_next 165 = .ok (.ireturn, 1) := by decide +kernel
theorem dX2_meant_0 : decode cX2_meant 0 = .ok (.iload_n 1, 1) := by decide +kernel
theorem dX2_meant_1 : decode cX2_meant 1 = .ok (.iconst (-1), 1) := by decide +kernel
theorem dX2_meant_2 : decode cX2_meant 2 = .ok (.if_icmp .ne 25, 3) := by decide +kernel
theorem dX2_meant_5 : decode cX2_meant 5 = .ok (.aload_n 0, 1) := by decide +kernel
theorem dX2_meant_6 : decode cX2_meant 6 = .ok (.getfield 36, 3) := by decide +kernel
theorem dX2_meant_9 : decode cX2_meant 9 = .ok (.ifCond .ne 7, 3) := by decide +kernel
theorem dX2_meant_12 : decode cX2_meant 12 = .ok (.iconst (-1), 1) := by decide +kernel
theorem dX2_meant_13 : decode cX2_meant 13 = .ok (.goto 19, 3) := by decide +kernel
theorem dX2_meant_16 : decode cX2_meant 16 = .ok (.aload_n 0, 1) := by decide +kernel
theorem dX2_meant_17 : decode cX2_meant 17 = .ok (.aload_n 0, 1) := by decide +kernel
theorem dX2_meant_18 : decode cX2_meant 18 = .ok (.getfield 36, 3) := by decide +kernel
theorem dX2_meant_21 : decode cX2_meant 21 = .ok (.invokevirtual 64, 3) := by decide +kernel
theorem dX2_meant_24 : decode cX2_meant 24 = .ok (.goto 8, 3) := by decide +kernel
theorem dX2_meant_27 : decode cX2_meant 27 = .ok (.aload_n 0, 1) := by decide +kernel
theorem dX2_meant_28 : decode cX2_meant 28 = .ok (.iload_n 1, 1) := by decide +kernel
theorem dX2_meant_29 : decode cX2_meant 29 = .ok (.invokevirtual 64, 3) := by decide +kernel
theorem dX2_meant_32 : decode cX2_meant 32 = .ok (.ireturn, 1) := by decide +kernel
theorem dX2_rewrite_0 : decode cX2_rewrite 0 = .ok (.aload_n 0, 1) := by decide +kernel
theorem dX2_rewrite_1 : decode cX2_rewrite 1 = .ok (.iconst 0, 1) := by decide +kernel
theorem dX2_rewrite_2 : decode cX2_rewrite 2 = .ok (.putfield 28, 3) := by decide +kernel
theorem dX2_rewrite_5 : decode cX2_rewrite 5 = .ok (.aload_n 0, 1) := by decide +kernel
theorem dX2_rewrite_6 : decode cX2_rewrite 6 = .ok (.getfield 17, 3) := by decide +kernel
theorem dX2_rewrite_9 : decode cX2_rewrite 9 = .ok (.iconst (-1), 1) := by decide +kernel
theorem dX2_rewrite_10 : decode cX2_rewrite 10 = .ok (.if_icmp .ne 6, 3) := by decide +kernel
theorem dX2_rewrite_13 : decode cX2_rewrite 13 = .ok (.bipush 42, 2) := by decide +kernel
theorem dX2_rewrite_15 : decode cX2_rewrite 15 = .ok (.ireturn, 1) := by decide +kernel
theorem dX2_rewrite_16 : decode cX2_rewrite 16 = .ok (.aload_n 0, 1) := by decide +kernel
theorem dX2_rewrite_17 : decode cX2_rewrite 17 = .ok (.getfield 17, 3) := by decide +kernel
theorem dX2_rewrite_20 : decode cX2_rewrite 20 = .ok (.iconst 2, 1) := by decide +kernel
theorem dX2_rewrite_21 : decode cX2_rewrite 21 = .ok (.if_icmp .eq 6, 3) := by decide +kernel
theorem dX2_rewrite_24 : decode cX2_rewrite 24 = .ok (.bipush 49, 2) := by decide +kernel
theorem dX2_rewrite_26 : decode cX2_rewrite 26 = .ok (.ireturn, 1) := by decide +kernel
theorem dX2_rewrite_27 : decode cX2_rewrite 27 = .ok (.aload_n 0, 1) := by decide +kernel
theorem dX2_rewrite_28 : decode cX2_rewrite 28 = .ok (.iload_n 1, 1) := by decide +kernel
theorem dX2_rewrite_29 : decode cX2_rewrite 29 = .ok (.invokevirtual 86, 3) := by decide +kernel
theorem dX2_rewrite_32 : decode cX2_rewrite 32 = .ok (.istore 4, 2) := by decide +kernel
theorem dX2_rewrite_34 : decode cX2_rewrite 34 = .ok (.aload_n 0, 1) := by decide +kernel
theorem dX2_rewrite_35 : decode cX2_rewrite 35 = .ok (.iconst 0, 1) := by decide +kernel
theorem dX2_rewrite_36 : decode cX2_rewrite 36 = .ok (.putfield 36, 3) := by decide +kernel
theorem dX2_rewrite_39 : decode cX2_rewrite 39 = .ok (.iload 4, 2) := by decide +kernel
theorem dX2_rewrite_41 : decode cX2_rewrite 41 = .ok (.iconst (-1), 1) := by decide +kernel
theorem dX2_rewrite_42 : decode cX2_rewrite 42 = .ok (.if_icmp .ne 16, 3) := by decide +kernel
theorem dX2_rewrite_45 : decode cX2_rewrite 45 = .ok (.iload_n 1, 1) := by decide +kernel
theorem dX2_rewrite_46 : decode cX2_rewrite 46 = .ok (.iconst (-1), 1) := by decide +kernel
theorem dX2_rewrite_47 : decode cX2_rewrite 47 = .ok (.if_icmp .ne 8, 3) := by decide +kernel
theorem dX2_rewrite_50 : decode cX2_rewrite 50 = .ok (.bipush 43, 2) := by decide +kernel
theorem dX2_rewrite_52 : decode cX2_rewrite 52 = .ok (.goto 5, 3) := by decide +kernel
theorem dX2_rewrite_55 : decode cX2_rewrite 55 = .ok (.bipush 23, 2) := by decide +kernel
theorem dX2_rewrite_57 : decode cX2_rewrite 57 = .ok (.ireturn, 1) := by decide +kernel
theorem dX2_rewrite_58 : decode cX2_rewrite 58 = .ok (.aload_n 0, 1) := by decide +kernel
theorem dX2_rewrite_59 : decode cX2_rewrite 59 = .ok (.getfield 13, 3) := by decide +kernel
theorem dX2_rewrite_62 : decode cX2_rewrite 62 = .ok (.iload 4, 2) := by decide +kernel
theorem dX2_rewrite_64 : decode cX2_rewrite 64 = .ok (.lload_n 2, 1) := by decide +kernel
theorem dX2_rewrite_65 : decode cX2_rewrite 65 = .ok (.lastore, 1) := by decide +kernel
theorem dX2_rewrite_66 : decode cX2_rewrite 66 = .ok (.aload_n 0, 1) := by decide +kernel
theorem dX2_rewrite_67 : decode cX2_rewrite 67 = .ok (.lload_n 2, 1) := by decide +kernel
theorem dX2_rewrite_68 : decode cX2_rewrite 68 = .ok (.putfield 49, 3) := by decide +kernel
theorem dX2_rewrite_71 : decode cX2_rewrite 71 = .ok (.iconst 0, 1) := by decide +kernel
theorem dX2_rewrite_72 : decode cX2_rewrite 72 = .ok (.ireturn, 1) := by decide +kernel
theorem dX2_remove_0 : decode cX2_remove 0 = .ok (.aload_n 0, 1) := by decide +kernel
theorem dX2_remove_1 : decode cX2_remove 1 = .ok (.iconst 0, 1) := by decide +kernel
theorem dX2_remove_2 : decode cX2_remove 2 = .ok (.putfield 28, 3) := by decide +kernel
theorem dX2_remove_5 : decode cX2_remove 5 = .ok (.aload_n 0, 1) := by decide +kernel
theorem dX2_remove_6 : decode cX2_remove 6 = .ok (.getfield 17, 3) := by decide +kernel
theorem dX2_remove_9 : decode cX2_remove 9 = .ok (.iconst (-1), 1) := by decide +kernel
theorem dX2_remove_10 : decode cX2_remove 10 = .ok (.if_icmp .ne 6, 3) := by decide +kernel
theorem dX2_remove_13 : decode cX2_remove 13 = .ok (.bipush 42, 2) := by decide +kernel
theorem dX2_remove_15 : decode cX2_remove 15 = .ok (.ireturn, 1) := by decide +kernel
theorem dX2_remove_16 : decode cX2_remove 16 = .ok (.aload_n 0, 1) := by decide +kernel
theorem dX2_remove_17 : decode cX2_remove 17 = .ok (.getfield 17, 3) := by decide +kernel
theorem dX2_remove_20 : decode cX2_remove 20 = .ok (.iconst 2, 1) := by decide +kernel
theorem dX2_remove_21 : decode cX2_remove 21 = .ok (.if_icmp .eq 6, 3) := by decide +kernel
theorem dX2_remove_24 : decode cX2_remove 24 = .ok (.bipush 49, 2) := by decide +kernel
theorem dX2_remove_26 : decode cX2_remove 26 = .ok (.ireturn, 1) := by decide +kernel
theorem dX2_remove_27 : decode cX2_remove 27 = .ok (.aload_n 0, 1) := by decide +kernel
theorem dX2_remove_28 : decode cX2_remove 28 = .ok (.iload_n 1, 1) := by decide +kernel
theorem dX2_remove_29 : decode cX2_remove 29 = .ok (.invokevirtual 86, 3) := by decide +kernel
theorem dX2_remove_32 : decode cX2_remove 32 = .ok (.istore_n 2, 1) := by decide +kernel
theorem dX2_remove_33 : decode cX2_remove 33 = .ok (.aload_n 0, 1) := by decide +kernel
theorem dX2_remove_34 : decode cX2_remove 34 = .ok (.iconst 0, 1) := by decide +kernel
theorem dX2_remove_35 : decode cX2_remove 35 = .ok (.putfield 36, 3) := by decide +kernel
theorem dX2_remove_38 : decode cX2_remove 38 = .ok (.iload_n 2, 1) := by decide +kernel
theorem dX2_remove_39 : decode cX2_remove 39 = .ok (.iconst (-1), 1) := by decide +kernel
theorem dX2_remove_40 : decode cX2_remove 40 = .ok (.if_icmp .ne 16, 3) := by decide +kernel
theorem dX2_remove_43 : decode cX2_remove 43 = .ok (.iload_n 1, 1) := by decide +kernel
theorem dX2_remove_44 : decode cX2_remove 44 = .ok (.iconst (-1), 1) := by decide +kernel
theorem dX2_remove_45 : decode cX2_remove 45 = .ok (.if_icmp .ne 8, 3) := by decide +kernel
theorem dX2_remove_48 : decode cX2_remove 48 = .ok (.bipush 43, 2) := by decide +kernel
theorem dX2_remove_50 : decode cX2_remove 50 = .ok (.goto 5, 3) := by decide +kernel
theorem dX2_remove_53 : decode cX2_remove 53 = .ok (.bipush 23, 2) := by decide +kernel
theorem dX2_remove_55 : decode cX2_remove 55 = .ok (.ireturn, 1) := by decide +kernel
theorem dX2_remove_56 : decode cX2_remove 56 = .ok (.aload_n 0, 1) := by decide +kernel
theorem dX2_remove_57 : decode cX2_remove 57 = .ok (.dup, 1) := by decide +kernel
theorem dX2_remove_58 : decode cX2_remove 58 = .ok (.getfield 31, 3) := by decide +kernel
theorem dX2_remove_61 : decode cX2_remove 61 = .ok (.iconst 1, 1) := by decide +kernel
theorem dX2_remove_62 : decode cX2_remove 62 = .ok (.isub, 1) := by decide +kernel
theorem dX2_remove_63 : decode cX2_remove 63 = .ok (.putfield 31, 3) := by decide +kernel
theorem dX2_remove_66 : decode cX2_remove 66 = .ok (.aload_n 0, 1) := by decide +kernel
theorem dX2_remove_67 : decode cX2_remove 67 = .ok (.getfield 7, 3) := by decide +kernel
theorem dX2_remove_70 : decode cX2_remove 70 = .ok (.iload_n 2, 1) := by decide +kernel
theorem dX2_remove_71 : decode cX2_remove 71 = .ok (.aload_n 0, 1) := by decide +kernel
theorem dX2_remove_72 : decode cX2_remove 72 = .ok (.getfield 7, 3) := by decide +kernel
theorem dX2_remove_75 : decode cX2_remove 75 = .ok (.aload_n 0, 1) := by decide +kernel
theorem dX2_remove_76 : decode cX2_remove 76 = .ok (.getfield 31, 3) := by decide +kernel
theorem dX2_remove_79 : decode cX2_remove 79 = .ok (.iaload, 1) := by decide +kernel
theorem dX2_remove_80 : decode cX2_remove 80 = .ok (.iastore, 1) := by decide +kernel
theorem dX2_remove_81 : decode cX2_remove 81 = .ok (.aload_n 0, 1) := by decide +kernel
theorem dX2_remove_82 : decode cX2_remove 82 = .ok (.getfield 13, 3) := by decide +kernel
theorem dX2_remove_85 : decode cX2_remove 85 = .ok (.iload_n 2, 1) := by decide +kernel
theorem dX2_remove_86 : decode cX2_remove 86 = .ok (.aload_n 0, 1) := by decide +kernel
theorem dX2_remove_87 : decode cX2_remove 87 = .ok (.getfield 13, 3) := by decide +kernel
theorem dX2_remove_90 : decode cX2_remove 90 = .ok (.aload_n 0, 1) := by decide +kernel
theorem dX2_remove_91 : decode cX2_remove 91 = .ok (.getfield 31, 3) := by decide +kernel
theorem dX2_remove_94 : decode cX2_remove 94 = .ok (.laload, 1) := by decide +kernel
theorem dX2_remove_95 : decode cX2_remove 95 = .ok (.lastore, 1) := by decide +kernel
theorem dX2_remove_96 : decode cX2_remove 96 = .ok (.iconst 0, 1) := by decide +kernel
theorem dX2_remove_97 : decode cX2_remove 97 = .ok (.ireturn, 1) := by decide +kernel
theorem dX2_number_0 : decode cX2_number 0 = .ok (.aload_n 0, 1) := by decide +kernel
theorem dX2_number_1 : decode cX2_number 1 = .ok (.iconst 0, 1) := by decide +kernel
theorem dX2_number_2 : decode cX2_number 2 = .ok (.putfield 28, 3) := by decide +kernel
theorem dX2_number_5 : decode cX2_number 5 = .ok (.aload_n 0, 1) := by decide +kernel
theorem dX2_number_6 : decode cX2_number 6 = .ok (.getfield 36, 3) := by decide +kernel
theorem dX2_number_9 : decode cX2_number 9 = .ok (.ireturn, 1) := by decide +kernel
theorem dX2_cell_0 : decode cX2_cell 0 = .ok (.aload_n 0, 1) := by decide +kernel
theorem dX2_cell_1 : decode cX2_cell 1 = .ok (.aload_n 0, 1) := by decide +kernel
theorem dX2_cell_2 : decode cX2_cell 2 = .ok (.iload_n 1, 1) := by decide +kernel
theorem dX2_cell_3 : decode cX2_cell 3 = .ok (.invokevirtual 57, 3) := by decide +kernel
theorem dX2_cell_6 : decode cX2_cell 6 = .ok (.ifCond .eq 7, 3) := by decide +kernel
theorem dX2_cell_9 : decode cX2_cell 9 = .ok (.iconst 0, 1) := by decide +kernel
theorem dX2_cell_10 : decode cX2_cell 10 = .ok (.goto 4, 3) := by decide +kernel
theorem dX2_cell_13 : decode cX2_cell 13 = .ok (.iconst 1, 1) := by decide +kernel
theorem dX2_cell_14 : decode cX2_cell 14 = .ok (.putfield 28, 3) := by decide +kernel
theorem dX2_cell_17 : decode cX2_cell 17 = .ok (.aload_n 0, 1) := by decide +kernel
theorem dX2_cell_18 : decode cX2_cell 18 = .ok (.iload_n 1, 1) := by decide +kernel
theorem dX2_cell_19 : decode cX2_cell 19 = .ok (.invokevirtual 64, 3) := by decide +kernel
theorem dX2_cell_22 : decode cX2_cell 22 = .ok (.istore_n 2, 1) := by decide +kernel
theorem dX2_cell_23 : decode cX2_cell 23 = .ok (.aload_n 0, 1) := by decide +kernel
theorem dX2_cell_24 : decode cX2_cell 24 = .ok (.getfield 28, 3) := by decide +kernel
theorem dX2_cell_27 : decode cX2_cell 27 = .ok (.ifCond .gt 8, 3) := by decide +kernel
theorem dX2_cell_30 : decode cX2_cell 30 = .ok (.iload_n 2, 1) := by decide +kernel
theorem dX2_cell_31 : decode cX2_cell 31 = .ok (.iconst (-1), 1) := by decide +kernel
theorem dX2_cell_32 : decode cX2_cell 32 = .ok (.if_icmp .ne 7, 3) := by decide +kernel
theorem dX2_cell_35 : decode cX2_cell 35 = .ok (.lconst 0, 1) := by decide +kernel
theorem dX2_cell_36 : decode cX2_cell 36 = .ok (.goto 9, 3) := by decide +kernel
theorem dX2_cell_39 : decode cX2_cell 39 = .ok (.aload_n 0, 1) := by decide +kernel
theorem dX2_cell_40 : decode cX2_cell 40 = .ok (.getfield 13, 3) := by decide +kernel
theorem dX2_cell_43 : decode cX2_cell 43 = .ok (.iload_n 2, 1) := by decide +kernel
theorem dX2_cell_44 : decode cX2_cell 44 = .ok (.laload, 1) := by decide +kernel
theorem dX2_cell_45 : decode cX2_cell 45 = .ok (.lreturn, 1) := by decide +kernel
theorem dX2_records_0 : decode cX2_records 0 = .ok (.aload_n 0, 1) := by decide +kernel
theorem dX2_records_1 : decode cX2_records 1 = .ok (.iconst 0, 1) := by decide +kernel
theorem dX2_records_2 : decode cX2_records 2 = .ok (.putfield 28, 3) := by decide +kernel
theorem dX2_records_5 : decode cX2_records 5 = .ok (.aload_n 0, 1) := by decide +kernel
theorem dX2_records_6 : decode cX2_records 6 = .ok (.getfield 31, 3) := by decide +kernel
theorem dX2_records_9 : decode cX2_records 9 = .ok (.ireturn, 1) := by decide +kernel
theorem dX2_digits_0 : decode cX2_digits 0 = .ok (.aload_n 0, 1) := by decide +kernel
theorem dX2_digits_1 : decode cX2_digits 1 = .ok (.iconst 0, 1) := by decide +kernel
theorem dX2_digits_2 : decode cX2_digits 2 = .ok (.putfield 28, 3) := by decide +kernel
theorem dX2_digits_5 : decode cX2_digits 5 = .ok (.iload_n 1, 1) := by decide +kernel
theorem dX2_digits_6 : decode cX2_digits 6 = .ok (.iconst 1, 1) := by decide +kernel
theorem dX2_digits_7 : decode cX2_digits 7 = .ok (.if_icmp .lt 9, 3) := by decide +kernel
theorem dX2_digits_10 : decode cX2_digits 10 = .ok (.iload_n 1, 1) := by decide +kernel
theorem dX2_digits_11 : decode cX2_digits 11 = .ok (.bipush 9, 2) := by decide +kernel
theorem dX2_digits_13 : decode cX2_digits 13 = .ok (.if_icmp .le 5, 3) := by decide +kernel
theorem dX2_digits_16 : decode cX2_digits 16 = .ok (.iconst (-1), 1) := by decide +kernel
theorem dX2_digits_17 : decode cX2_digits 17 = .ok (.ireturn, 1) := by decide +kernel
theorem dX2_digits_18 : decode cX2_digits 18 = .ok (.aload_n 0, 1) := by decide +kernel
theorem dX2_digits_19 : decode cX2_digits 19 = .ok (.getfield 21, 3) := by decide +kernel
theorem dX2_digits_22 : decode cX2_digits 22 = .ok (.istore_n 2, 1) := by decide +kernel
theorem dX2_digits_23 : decode cX2_digits 23 = .ok (.aload_n 0, 1) := by decide +kernel
theorem dX2_digits_24 : decode cX2_digits 24 = .ok (.iload_n 1, 1) := by decide +kernel
theorem dX2_digits_25 : decode cX2_digits 25 = .ok (.putfield 21, 3) := by decide +kernel
theorem dX2_digits_28 : decode cX2_digits 28 = .ok (.iload_n 2, 1) := by decide +kernel
theorem dX2_digits_29 : decode cX2_digits 29 = .ok (.ireturn, 1) := by decide +kernel
theorem dX2_count_0 : decode cX2_count 0 = .ok (.aload_n 0, 1) := by decide +kernel
theorem dX2_count_1 : decode cX2_count 1 = .ok (.iconst 0, 1) := by decide +kernel
theorem dX2_count_2 : decode cX2_count 2 = .ok (.putfield 28, 3) := by decide +kernel
theorem dX2_count_5 : decode cX2_count 5 = .ok (.iload_n 1, 1) := by decide +kernel
theorem dX2_count_6 : decode cX2_count 6 = .ok (.tableswitch 73 0 4 #[34, 39, 52, 57, 67], 34) := by decide +kernel
theorem dX2_count_40 : decode cX2_count 40 = .ok (.aload_n 0, 1) := by decide +kernel
theorem dX2_count_41 : decode cX2_count 41 = .ok (.getfield 25, 3) := by decide +kernel
theorem dX2_count_44 : decode cX2_count 44 = .ok (.ireturn, 1) := by decide +kernel
theorem dX2_count_45 : decode cX2_count 45 = .ok (.aload_n 0, 1) := by decide +kernel
theorem dX2_count_46 : decode cX2_count 46 = .ok (.getfield 39, 3) := by decide +kernel
theorem dX2_count_49 : decode cX2_count 49 = .ok (.ifCond .eq 7, 3) := by decide +kernel
theorem dX2_count_52 : decode cX2_count 52 = .ok (.iconst 1, 1) := by decide +kernel
theorem dX2_count_53 : decode cX2_count 53 = .ok (.goto 4, 3) := by decide +kernel
theorem dX2_count_56 : decode cX2_count 56 = .ok (.iconst 0, 1) := by decide +kernel
theorem dX2_count_57 : decode cX2_count 57 = .ok (.ireturn, 1) := by decide +kernel
theorem dX2_count_58 : decode cX2_count 58 = .ok (.aload_n 0, 1) := by decide +kernel
theorem dX2_count_59 : decode cX2_count 59 = .ok (.getfield 17, 3) := by decide +kernel
theorem dX2_count_62 : decode cX2_count 62 = .ok (.ireturn, 1) := by decide +kernel
theorem dX2_count_63 : decode cX2_count 63 = .ok (.aload_n 0, 1) := by decide +kernel
theorem dX2_count_64 : decode cX2_count 64 = .ok (.aload_n 0, 1) := by decide +kernel
theorem dX2_count_65 : decode cX2_count 65 = .ok (.getfield 25, 3) := by decide +kernel
theorem dX2_count_68 : decode cX2_count 68 = .ok (.i2l, 1) := by decide +kernel
theorem dX2_count_69 : decode cX2_count 69 = .ok (.invokevirtual 53, 3) := by decide +kernel
theorem dX2_count_72 : decode cX2_count 72 = .ok (.ireturn, 1) := by decide +kernel
theorem dX2_count_73 : decode cX2_count 73 = .ok (.aload_n 0, 1) := by decide +kernel
theorem dX2_count_74 : decode cX2_count 74 = .ok (.lconst 1, 1) := by decide +kernel
theorem dX2_count_75 : decode cX2_count 75 = .ok (.invokevirtual 83, 3) := by decide +kernel
theorem dX2_count_78 : decode cX2_count 78 = .ok (.ireturn, 1) := by decide +kernel
theorem dX2_count_79 : decode cX2_count 79 = .ok (.iconst (-1), 1) := by decide +kernel
theorem dX2_count_80 : decode cX2_count 80 = .ok (.ireturn, 1) := by decide +kernel
end
section
theorem dL_cell_0 : decode cL_cell 0 = .ok (.iload_n 1, 1) := by decide +kernel
theorem dL_cell_1 : decode cL_cell 1 = .ok (.aload_n 0, 1) := by decide +kernel
theorem dL_cell_2 : decode cL_cell 2 = .ok (.arraylength, 1) := by decide +kernel
theorem dL_cell_3 : decode cL_cell 3 = .ok (.if_icmp .ge 9, 3) := by decide +kernel
theorem dL_cell_6 : decode cL_cell 6 = .ok (.aload_n 0, 1) := by decide +kernel
theorem dL_cell_7 : decode cL_cell 7 = .ok (.iload_n 1, 1) := by decide +kernel
theorem dL_cell_8 : decode cL_cell 8 = .ok (.iaload, 1) := by decide +kernel
theorem dL_cell_9 : decode cL_cell 9 = .ok (.goto 4, 3) := by decide +kernel
theorem dL_cell_12 : decode cL_cell 12 = .ok (.iconst 0, 1) := by decide +kernel
theorem dL_cell_13 : decode cL_cell 13 = .ok (.ireturn, 1) := by decide +kernel
theorem dL_cell__0 : decode cL_cell_ 0 = .ok (.aload_n 2, 1) := by decide +kernel
theorem dL_cell__1 : decode cL_cell_ 1 = .ok (.iconst 0, 1) := by decide +kernel
theorem dL_cell__2 : decode cL_cell_ 2 = .ok (.aload_n 0, 1) := by decide +kernel
theorem dL_cell__3 : decode cL_cell_ 3 = .ok (.iload_n 1, 1) := by decide +kernel
theorem dL_cell__4 : decode cL_cell_ 4 = .ok (.invokevirtual 7, 3) := by decide +kernel
theorem dL_cell__7 : decode cL_cell_ 7 = .ok (.lastore, 1) := by decide +kernel
theorem dL_cell__8 : decode cL_cell_ 8 = .ok (.goto 6, 3) := by decide +kernel
theorem dL_cell__11 : decode cL_cell_ 11 = .ok (.astore_n 3, 1) := by decide +kernel
theorem dL_cell__12 : decode cL_cell_ 12 = .ok (.iconst 1, 1) := by decide +kernel
theorem dL_cell__13 : decode cL_cell_ 13 = .ok (.ireturn, 1) := by decide +kernel
theorem dL_cell__14 : decode cL_cell_ 14 = .ok (.iconst 0, 1) := by decide +kernel
theorem dL_cell__15 : decode cL_cell_ 15 = .ok (.ireturn, 1) := by decide +kernel
theorem dL_law_0 : decode cL_law 0 = .ok (.new 8, 3) := by decide +kernel
theorem dL_law_3 : decode cL_law 3 = .ok (.dup, 1) := by decide +kernel
theorem dL_law_4 : decode cL_law 4 = .ok (.aload_n 0, 1) := by decide +kernel
theorem dL_law_5 : decode cL_law 5 = .ok (.iconst 0, 1) := by decide +kernel
theorem dL_law_6 : decode cL_law 6 = .ok (.invokestatic 15, 3) := by decide +kernel
theorem dL_law_9 : decode cL_law 9 = .ok (.invokespecial 20, 3) := by decide +kernel
theorem dL_law_12 : decode cL_law 12 = .ok (.astore_n 1, 1) := by decide +kernel
theorem dL_law_13 : decode cL_law 13 = .ok (.new 23, 3) := by decide +kernel
theorem dL_law_16 : decode cL_law 16 = .ok (.dup, 1) := by decide +kernel
theorem dL_law_17 : decode cL_law 17 = .ok (.aload_n 0, 1) := by decide +kernel
theorem dL_law_18 : decode cL_law 18 = .ok (.iconst 0, 1) := by decide +kernel
theorem dL_law_19 : decode cL_law 19 = .ok (.invokestatic 15, 3) := by decide +kernel
theorem dL_law_22 : decode cL_law 22 = .ok (.invokespecial 25, 3) := by decide +kernel
theorem dL_law_25 : decode cL_law 25 = .ok (.astore_n 2, 1) := by decide +kernel
theorem dL_law_26 : decode cL_law 26 = .ok (.iconst 1, 1) := by decide +kernel
theorem dL_law_27 : decode cL_law 27 = .ok (.newarray .long, 2) := by decide +kernel
theorem dL_law_29 : decode cL_law 29 = .ok (.astore_n 3, 1) := by decide +kernel
theorem dL_law_30 : decode cL_law 30 = .ok (.iconst 1, 1) := by decide +kernel
theorem dL_law_31 : decode cL_law 31 = .ok (.istore 4, 2) := by decide +kernel
theorem dL_law_33 : decode cL_law 33 = .ok (.iload 4, 2) := by decide +kernel
theorem dL_law_35 : decode cL_law 35 = .ok (.aload_n 0, 1) := by decide +kernel
theorem dL_law_36 : decode cL_law 36 = .ok (.arraylength, 1) := by decide +kernel
theorem dL_law_37 : decode cL_law 37 = .ok (.iconst 4, 1) := by decide +kernel
theorem dL_law_38 : decode cL_law 38 = .ok (.isub, 1) := by decide +kernel
theorem dL_law_39 : decode cL_law 39 = .ok (.if_icmp .gt 519, 3) := by decide +kernel
theorem dL_law_42 : decode cL_law 42 = .ok (.aload_n 0, 1) := by decide +kernel
theorem dL_law_43 : decode cL_law 43 = .ok (.iload 4, 2) := by decide +kernel
theorem dL_law_45 : decode cL_law 45 = .ok (.iaload, 1) := by decide +kernel
theorem dL_law_46 : decode cL_law 46 = .ok (.bipush 15, 2) := by decide +kernel
theorem dL_law_48 : decode cL_law 48 = .ok (.iand, 1) := by decide +kernel
theorem dL_law_49 : decode cL_law 49 = .ok (.tableswitch 503 0 12 #[67, 92, 161, 186, 200, 237, 278, 347, 372, 385, 440, 453, 478], 67) := by decide +kernel
theorem dL_law_116 : decode cL_law 116 = .ok (.aload_n 1, 1) := by decide +kernel
theorem dL_law_117 : decode cL_law 117 = .ok (.aload_n 0, 1) := by decide +kernel
theorem dL_law_118 : decode cL_law 118 = .ok (.iload 4, 2) := by decide +kernel
theorem dL_law_120 : decode cL_law 120 = .ok (.iconst 1, 1) := by decide +kernel
theorem dL_law_121 : decode cL_law 121 = .ok (.iadd, 1) := by decide +kernel
theorem dL_law_122 : decode cL_law 122 = .ok (.iaload, 1) := by decide +kernel
theorem dL_law_123 : decode cL_law 123 = .ok (.invokevirtual 26, 3) := by decide +kernel
theorem dL_law_126 : decode cL_law 126 = .ok (.aload_n 2, 1) := by decide +kernel
theorem dL_law_127 : decode cL_law 127 = .ok (.aload_n 0, 1) := by decide +kernel
theorem dL_law_128 : decode cL_law 128 = .ok (.iload 4, 2) := by decide +kernel
theorem dL_law_130 : decode cL_law 130 = .ok (.iconst 1, 1) := by decide +kernel
theorem dL_law_131 : decode cL_law 131 = .ok (.iadd, 1) := by decide +kernel
theorem dL_law_132 : decode cL_law 132 = .ok (.iaload, 1) := by decide +kernel
theorem dL_law_133 : decode cL_law 133 = .ok (.invokevirtual 30, 3) := by decide +kernel
theorem dL_law_136 : decode cL_law 136 = .ok (.if_icmp .eq 416, 3) := by decide +kernel
theorem dL_law_139 : decode cL_law 139 = .ok (.iconst 0, 1) := by decide +kernel
theorem dL_law_140 : decode cL_law 140 = .ok (.ireturn, 1) := by decide +kernel
theorem dL_law_141 : decode cL_law 141 = .ok (.aload_n 1, 1) := by decide +kernel
theorem dL_law_142 : decode cL_law 142 = .ok (.aload_n 0, 1) := by decide +kernel
theorem dL_law_143 : decode cL_law 143 = .ok (.iload 4, 2) := by decide +kernel
theorem dL_law_145 : decode cL_law 145 = .ok (.iconst 1, 1) := by decide +kernel
theorem dL_law_146 : decode cL_law 146 = .ok (.iadd, 1) := by decide +kernel
theorem dL_law_147 : decode cL_law 147 = .ok (.iaload, 1) := by decide +kernel
theorem dL_law_148 : decode cL_law 148 = .ok (.aload_n 0, 1) := by decide +kernel
theorem dL_law_149 : decode cL_law 149 = .ok (.iload 4, 2) := by decide +kernel
theorem dL_law_151 : decode cL_law 151 = .ok (.iconst 2, 1) := by decide +kernel
theorem dL_law_152 : decode cL_law 152 = .ok (.iadd, 1) := by decide +kernel
theorem dL_law_153 : decode cL_law 153 = .ok (.iaload, 1) := by decide +kernel
theorem dL_law_154 : decode cL_law 154 = .ok (.i2l, 1) := by decide +kernel
theorem dL_law_155 : decode cL_law 155 = .ok (.bipush 32, 2) := by decide +kernel
theorem dL_law_157 : decode cL_law 157 = .ok (.lshl, 1) := by decide +kernel
theorem dL_law_158 : decode cL_law 158 = .ok (.aload_n 0, 1) := by decide +kernel
theorem dL_law_159 : decode cL_law 159 = .ok (.iload 4, 2) := by decide +kernel
theorem dL_law_161 : decode cL_law 161 = .ok (.iconst 3, 1) := by decide +kernel
theorem dL_law_162 : decode cL_law 162 = .ok (.iadd, 1) := by decide +kernel
theorem dL_law_163 : decode cL_law 163 = .ok (.iaload, 1) := by decide +kernel
theorem dL_law_164 : decode cL_law 164 = .ok (.i2l, 1) := by decide +kernel
end
section
theorem dL_law_165 : decode cL_law 165 = .ok (.ldc2_w 31, 3) := by decide +kernel
theorem dL_law_168 : decode cL_law 168 = .ok (.land, 1) := by decide +kernel
theorem dL_law_169 : decode cL_law 169 = .ok (.lor, 1) := by decide +kernel
theorem dL_law_170 : decode cL_law 170 = .ok (.invokevirtual 33, 3) := by decide +kernel
theorem dL_law_173 : decode cL_law 173 = .ok (.aload_n 2, 1) := by decide +kernel
theorem dL_law_174 : decode cL_law 174 = .ok (.aload_n 0, 1) := by decide +kernel
theorem dL_law_175 : decode cL_law 175 = .ok (.iload 4, 2) := by decide +kernel
theorem dL_law_177 : decode cL_law 177 = .ok (.iconst 1, 1) := by decide +kernel
theorem dL_law_178 : decode cL_law 178 = .ok (.iadd, 1) := by decide +kernel
theorem dL_law_179 : decode cL_law 179 = .ok (.iaload, 1) := by decide +kernel
theorem dL_law_180 : decode cL_law 180 = .ok (.aload_n 0, 1) := by decide +kernel
theorem dL_law_181 : decode cL_law 181 = .ok (.iload 4, 2) := by decide +kernel
theorem dL_law_183 : decode cL_law 183 = .ok (.iconst 2, 1) := by decide +kernel
theorem dL_law_184 : decode cL_law 184 = .ok (.iadd, 1) := by decide +kernel
theorem dL_law_185 : decode cL_law 185 = .ok (.iaload, 1) := by decide +kernel
theorem dL_law_186 : decode cL_law 186 = .ok (.i2l, 1) := by decide +kernel
theorem dL_law_187 : decode cL_law 187 = .ok (.bipush 32, 2) := by decide +kernel
theorem dL_law_189 : decode cL_law 189 = .ok (.lshl, 1) := by decide +kernel
theorem dL_law_190 : decode cL_law 190 = .ok (.aload_n 0, 1) := by decide +kernel
theorem dL_law_191 : decode cL_law 191 = .ok (.iload 4, 2) := by decide +kernel
theorem dL_law_193 : decode cL_law 193 = .ok (.iconst 3, 1) := by decide +kernel
theorem dL_law_194 : decode cL_law 194 = .ok (.iadd, 1) := by decide +kernel
theorem dL_law_195 : decode cL_law 195 = .ok (.iaload, 1) := by decide +kernel
theorem dL_law_196 : decode cL_law 196 = .ok (.i2l, 1) := by decide +kernel
theorem dL_law_197 : decode cL_law 197 = .ok (.ldc2_w 31, 3) := by decide +kernel
theorem dL_law_200 : decode cL_law 200 = .ok (.land, 1) := by decide +kernel
theorem dL_law_201 : decode cL_law 201 = .ok (.lor, 1) := by decide +kernel
theorem dL_law_202 : decode cL_law 202 = .ok (.invokevirtual 37, 3) := by decide +kernel
theorem dL_law_205 : decode cL_law 205 = .ok (.if_icmp .eq 347, 3) := by decide +kernel
theorem dL_law_208 : decode cL_law 208 = .ok (.iconst 0, 1) := by decide +kernel
theorem dL_law_209 : decode cL_law 209 = .ok (.ireturn, 1) := by decide +kernel
theorem dL_law_210 : decode cL_law 210 = .ok (.aload_n 1, 1) := by decide +kernel
theorem dL_law_211 : decode cL_law 211 = .ok (.aload_n 0, 1) := by decide +kernel
theorem dL_law_212 : decode cL_law 212 = .ok (.iload 4, 2) := by decide +kernel
theorem dL_law_214 : decode cL_law 214 = .ok (.iconst 1, 1) := by decide +kernel
theorem dL_law_215 : decode cL_law 215 = .ok (.iadd, 1) := by decide +kernel
theorem dL_law_216 : decode cL_law 216 = .ok (.iaload, 1) := by decide +kernel
theorem dL_law_217 : decode cL_law 217 = .ok (.invokevirtual 38, 3) := by decide +kernel
theorem dL_law_220 : decode cL_law 220 = .ok (.aload_n 2, 1) := by decide +kernel
theorem dL_law_221 : decode cL_law 221 = .ok (.aload_n 0, 1) := by decide +kernel
theorem dL_law_222 : decode cL_law 222 = .ok (.iload 4, 2) := by decide +kernel
theorem dL_law_224 : decode cL_law 224 = .ok (.iconst 1, 1) := by decide +kernel
theorem dL_law_225 : decode cL_law 225 = .ok (.iadd, 1) := by decide +kernel
theorem dL_law_226 : decode cL_law 226 = .ok (.iaload, 1) := by decide +kernel
theorem dL_law_227 : decode cL_law 227 = .ok (.invokevirtual 41, 3) := by decide +kernel
theorem dL_law_230 : decode cL_law 230 = .ok (.if_icmp .eq 322, 3) := by decide +kernel
theorem dL_law_233 : decode cL_law 233 = .ok (.iconst 0, 1) := by decide +kernel
theorem dL_law_234 : decode cL_law 234 = .ok (.ireturn, 1) := by decide +kernel
theorem dL_law_235 : decode cL_law 235 = .ok (.aload_n 1, 1) := by decide +kernel
theorem dL_law_236 : decode cL_law 236 = .ok (.invokevirtual 42, 3) := by decide +kernel
theorem dL_law_239 : decode cL_law 239 = .ok (.aload_n 2, 1) := by decide +kernel
theorem dL_law_240 : decode cL_law 240 = .ok (.invokevirtual 46, 3) := by decide +kernel
theorem dL_law_243 : decode cL_law 243 = .ok (.lcmp, 1) := by decide +kernel
theorem dL_law_244 : decode cL_law 244 = .ok (.ifCond .eq 308, 3) := by decide +kernel
theorem dL_law_247 : decode cL_law 247 = .ok (.iconst 0, 1) := by decide +kernel
theorem dL_law_248 : decode cL_law 248 = .ok (.ireturn, 1) := by decide +kernel
theorem dL_law_249 : decode cL_law 249 = .ok (.aload_n 1, 1) := by decide +kernel
theorem dL_law_250 : decode cL_law 250 = .ok (.aload_n 0, 1) := by decide +kernel
theorem dL_law_251 : decode cL_law 251 = .ok (.iload 4, 2) := by decide +kernel
theorem dL_law_253 : decode cL_law 253 = .ok (.iconst 1, 1) := by decide +kernel
theorem dL_law_254 : decode cL_law 254 = .ok (.iadd, 1) := by decide +kernel
theorem dL_law_255 : decode cL_law 255 = .ok (.iaload, 1) := by decide +kernel
theorem dL_law_256 : decode cL_law 256 = .ok (.aload_n 0, 1) := by decide +kernel
theorem dL_law_257 : decode cL_law 257 = .ok (.iload 4, 2) := by decide +kernel
theorem dL_law_259 : decode cL_law 259 = .ok (.iconst 2, 1) := by decide +kernel
theorem dL_law_260 : decode cL_law 260 = .ok (.iadd, 1) := by decide +kernel
theorem dL_law_261 : decode cL_law 261 = .ok (.iaload, 1) := by decide +kernel
theorem dL_law_262 : decode cL_law 262 = .ok (.invokevirtual 47, 3) := by decide +kernel
theorem dL_law_265 : decode cL_law 265 = .ok (.aload_n 2, 1) := by decide +kernel
theorem dL_law_266 : decode cL_law 266 = .ok (.aload_n 0, 1) := by decide +kernel
theorem dL_law_267 : decode cL_law 267 = .ok (.iload 4, 2) := by decide +kernel
theorem dL_law_269 : decode cL_law 269 = .ok (.iconst 1, 1) := by decide +kernel
theorem dL_law_270 : decode cL_law 270 = .ok (.iadd, 1) := by decide +kernel
theorem dL_law_271 : decode cL_law 271 = .ok (.iaload, 1) := by decide +kernel
theorem dL_law_272 : decode cL_law 272 = .ok (.aload_n 0, 1) := by decide +kernel
theorem dL_law_273 : decode cL_law 273 = .ok (.iload 4, 2) := by decide +kernel
theorem dL_law_275 : decode cL_law 275 = .ok (.iconst 2, 1) := by decide +kernel
theorem dL_law_276 : decode cL_law 276 = .ok (.iadd, 1) := by decide +kernel
theorem dL_law_277 : decode cL_law 277 = .ok (.iaload, 1) := by decide +kernel
theorem dL_law_278 : decode cL_law 278 = .ok (.invokevirtual 51, 3) := by decide +kernel
theorem dL_law_281 : decode cL_law 281 = .ok (.if_icmp .eq 271, 3) := by decide +kernel
theorem dL_law_284 : decode cL_law 284 = .ok (.iconst 0, 1) := by decide +kernel
theorem dL_law_285 : decode cL_law 285 = .ok (.ireturn, 1) := by decide +kernel
theorem dL_law_286 : decode cL_law 286 = .ok (.aload_n 1, 1) := by decide +kernel
theorem dL_law_287 : decode cL_law 287 = .ok (.aload_n 0, 1) := by decide +kernel
theorem dL_law_288 : decode cL_law 288 = .ok (.iload 4, 2) := by decide +kernel
theorem dL_law_290 : decode cL_law 290 = .ok (.iconst 1, 1) := by decide +kernel
theorem dL_law_291 : decode cL_law 291 = .ok (.iadd, 1) := by decide +kernel
theorem dL_law_292 : decode cL_law 292 = .ok (.iaload, 1) := by decide +kernel
theorem dL_law_293 : decode cL_law 293 = .ok (.ifCond .eq 7, 3) := by decide +kernel
end
section
theorem dL_law_296 : decode cL_law 296 = .ok (.iconst 1, 1) := by decide +kernel
theorem dL_law_297 : decode cL_law 297 = .ok (.goto 4, 3) := by decide +kernel
theorem dL_law_300 : decode cL_law 300 = .ok (.iconst 0, 1) := by decide +kernel
theorem dL_law_301 : decode cL_law 301 = .ok (.invokevirtual 52, 3) := by decide +kernel
theorem dL_law_304 : decode cL_law 304 = .ok (.aload_n 2, 1) := by decide +kernel
theorem dL_law_305 : decode cL_law 305 = .ok (.aload_n 0, 1) := by decide +kernel
theorem dL_law_306 : decode cL_law 306 = .ok (.iload 4, 2) := by decide +kernel
theorem dL_law_308 : decode cL_law 308 = .ok (.iconst 1, 1) := by decide +kernel
theorem dL_law_309 : decode cL_law 309 = .ok (.iadd, 1) := by decide +kernel
theorem dL_law_310 : decode cL_law 310 = .ok (.iaload, 1) := by decide +kernel
theorem dL_law_311 : decode cL_law 311 = .ok (.ifCond .eq 7, 3) := by decide +kernel
theorem dL_law_314 : decode cL_law 314 = .ok (.iconst 1, 1) := by decide +kernel
theorem dL_law_315 : decode cL_law 315 = .ok (.goto 4, 3) := by decide +kernel
theorem dL_law_318 : decode cL_law 318 = .ok (.iconst 0, 1) := by decide +kernel
theorem dL_law_319 : decode cL_law 319 = .ok (.invokevirtual 56, 3) := by decide +kernel
theorem dL_law_322 : decode cL_law 322 = .ok (.if_icmp .eq 230, 3) := by decide +kernel
theorem dL_law_325 : decode cL_law 325 = .ok (.iconst 0, 1) := by decide +kernel
theorem dL_law_326 : decode cL_law 326 = .ok (.ireturn, 1) := by decide +kernel
theorem dL_law_327 : decode cL_law 327 = .ok (.aload_n 1, 1) := by decide +kernel
theorem dL_law_328 : decode cL_law 328 = .ok (.aload_n 0, 1) := by decide +kernel
theorem dL_law_329 : decode cL_law 329 = .ok (.iload 4, 2) := by decide +kernel
theorem dL_law_331 : decode cL_law 331 = .ok (.iconst 1, 1) := by decide +kernel
theorem dL_law_332 : decode cL_law 332 = .ok (.iadd, 1) := by decide +kernel
theorem dL_law_333 : decode cL_law 333 = .ok (.iaload, 1) := by decide +kernel
theorem dL_law_334 : decode cL_law 334 = .ok (.aload_n 0, 1) := by decide +kernel
theorem dL_law_335 : decode cL_law 335 = .ok (.iload 4, 2) := by decide +kernel
theorem dL_law_337 : decode cL_law 337 = .ok (.iconst 2, 1) := by decide +kernel
theorem dL_law_338 : decode cL_law 338 = .ok (.iadd, 1) := by decide +kernel
theorem dL_law_339 : decode cL_law 339 = .ok (.iaload, 1) := by decide +kernel
theorem dL_law_340 : decode cL_law 340 = .ok (.i2l, 1) := by decide +kernel
theorem dL_law_341 : decode cL_law 341 = .ok (.bipush 32, 2) := by decide +kernel
theorem dL_law_343 : decode cL_law 343 = .ok (.lshl, 1) := by decide +kernel
theorem dL_law_344 : decode cL_law 344 = .ok (.aload_n 0, 1) := by decide +kernel
theorem dL_law_345 : decode cL_law 345 = .ok (.iload 4, 2) := by decide +kernel
theorem dL_law_347 : decode cL_law 347 = .ok (.iconst 3, 1) := by decide +kernel
theorem dL_law_348 : decode cL_law 348 = .ok (.iadd, 1) := by decide +kernel
theorem dL_law_349 : decode cL_law 349 = .ok (.iaload, 1) := by decide +kernel
theorem dL_law_350 : decode cL_law 350 = .ok (.i2l, 1) := by decide +kernel
theorem dL_law_351 : decode cL_law 351 = .ok (.ldc2_w 31, 3) := by decide +kernel
theorem dL_law_354 : decode cL_law 354 = .ok (.land, 1) := by decide +kernel
theorem dL_law_355 : decode cL_law 355 = .ok (.lor, 1) := by decide +kernel
theorem dL_law_356 : decode cL_law 356 = .ok (.invokevirtual 57, 3) := by decide +kernel
theorem dL_law_359 : decode cL_law 359 = .ok (.aload_n 2, 1) := by decide +kernel
theorem dL_law_360 : decode cL_law 360 = .ok (.aload_n 0, 1) := by decide +kernel
theorem dL_law_361 : decode cL_law 361 = .ok (.iload 4, 2) := by decide +kernel
theorem dL_law_363 : decode cL_law 363 = .ok (.iconst 1, 1) := by decide +kernel
theorem dL_law_364 : decode cL_law 364 = .ok (.iadd, 1) := by decide +kernel
theorem dL_law_365 : decode cL_law 365 = .ok (.iaload, 1) := by decide +kernel
theorem dL_law_366 : decode cL_law 366 = .ok (.aload_n 0, 1) := by decide +kernel
theorem dL_law_367 : decode cL_law 367 = .ok (.iload 4, 2) := by decide +kernel
theorem dL_law_369 : decode cL_law 369 = .ok (.iconst 2, 1) := by decide +kernel
theorem dL_law_370 : decode cL_law 370 = .ok (.iadd, 1) := by decide +kernel
theorem dL_law_371 : decode cL_law 371 = .ok (.iaload, 1) := by decide +kernel
theorem dL_law_372 : decode cL_law 372 = .ok (.i2l, 1) := by decide +kernel
theorem dL_law_373 : decode cL_law 373 = .ok (.bipush 32, 2) := by decide +kernel
theorem dL_law_375 : decode cL_law 375 = .ok (.lshl, 1) := by decide +kernel
theorem dL_law_376 : decode cL_law 376 = .ok (.aload_n 0, 1) := by decide +kernel
theorem dL_law_377 : decode cL_law 377 = .ok (.iload 4, 2) := by decide +kernel
theorem dL_law_379 : decode cL_law 379 = .ok (.iconst 3, 1) := by decide +kernel
theorem dL_law_380 : decode cL_law 380 = .ok (.iadd, 1) := by decide +kernel
theorem dL_law_381 : decode cL_law 381 = .ok (.iaload, 1) := by decide +kernel
theorem dL_law_382 : decode cL_law 382 = .ok (.i2l, 1) := by decide +kernel
theorem dL_law_383 : decode cL_law 383 = .ok (.ldc2_w 31, 3) := by decide +kernel
theorem dL_law_386 : decode cL_law 386 = .ok (.land, 1) := by decide +kernel
theorem dL_law_387 : decode cL_law 387 = .ok (.lor, 1) := by decide +kernel
theorem dL_law_388 : decode cL_law 388 = .ok (.invokevirtual 60, 3) := by decide +kernel
theorem dL_law_391 : decode cL_law 391 = .ok (.if_icmp .eq 161, 3) := by decide +kernel
theorem dL_law_394 : decode cL_law 394 = .ok (.iconst 0, 1) := by decide +kernel
theorem dL_law_395 : decode cL_law 395 = .ok (.ireturn, 1) := by decide +kernel
theorem dL_law_396 : decode cL_law 396 = .ok (.aload_n 1, 1) := by decide +kernel
theorem dL_law_397 : decode cL_law 397 = .ok (.aload_n 0, 1) := by decide +kernel
theorem dL_law_398 : decode cL_law 398 = .ok (.iload 4, 2) := by decide +kernel
theorem dL_law_400 : decode cL_law 400 = .ok (.iconst 1, 1) := by decide +kernel
theorem dL_law_401 : decode cL_law 401 = .ok (.iadd, 1) := by decide +kernel
theorem dL_law_402 : decode cL_law 402 = .ok (.iaload, 1) := by decide +kernel
theorem dL_law_403 : decode cL_law 403 = .ok (.invokevirtual 61, 3) := by decide +kernel
theorem dL_law_406 : decode cL_law 406 = .ok (.aload_n 2, 1) := by decide +kernel
theorem dL_law_407 : decode cL_law 407 = .ok (.aload_n 0, 1) := by decide +kernel
theorem dL_law_408 : decode cL_law 408 = .ok (.iload 4, 2) := by decide +kernel
theorem dL_law_410 : decode cL_law 410 = .ok (.iconst 1, 1) := by decide +kernel
theorem dL_law_411 : decode cL_law 411 = .ok (.iadd, 1) := by decide +kernel
theorem dL_law_412 : decode cL_law 412 = .ok (.iaload, 1) := by decide +kernel
theorem dL_law_413 : decode cL_law 413 = .ok (.invokevirtual 64, 3) := by decide +kernel
theorem dL_law_416 : decode cL_law 416 = .ok (.if_icmp .eq 136, 3) := by decide +kernel
theorem dL_law_419 : decode cL_law 419 = .ok (.iconst 0, 1) := by decide +kernel
theorem dL_law_420 : decode cL_law 420 = .ok (.ireturn, 1) := by decide +kernel
theorem dL_law_421 : decode cL_law 421 = .ok (.aload_n 1, 1) := by decide +kernel
theorem dL_law_422 : decode cL_law 422 = .ok (.invokevirtual 65, 3) := by decide +kernel
theorem dL_law_425 : decode cL_law 425 = .ok (.aload_n 2, 1) := by decide +kernel
theorem dL_law_426 : decode cL_law 426 = .ok (.invokevirtual 69, 3) := by decide +kernel
end
section
theorem dL_law_429 : decode cL_law 429 = .ok (.if_icmp .eq 123, 3) := by decide +kernel
theorem dL_law_432 : decode cL_law 432 = .ok (.iconst 0, 1) := by decide +kernel
theorem dL_law_433 : decode cL_law 433 = .ok (.ireturn, 1) := by decide +kernel
theorem dL_law_434 : decode cL_law 434 = .ok (.aload_n 1, 1) := by decide +kernel
theorem dL_law_435 : decode cL_law 435 = .ok (.aload_n 0, 1) := by decide +kernel
theorem dL_law_436 : decode cL_law 436 = .ok (.iload 4, 2) := by decide +kernel
theorem dL_law_438 : decode cL_law 438 = .ok (.iconst 1, 1) := by decide +kernel
theorem dL_law_439 : decode cL_law 439 = .ok (.iadd, 1) := by decide +kernel
theorem dL_law_440 : decode cL_law 440 = .ok (.iaload, 1) := by decide +kernel
theorem dL_law_441 : decode cL_law 441 = .ok (.aload_n 3, 1) := by decide +kernel
theorem dL_law_442 : decode cL_law 442 = .ok (.invokestatic 70, 3) := by decide +kernel
theorem dL_law_445 : decode cL_law 445 = .ok (.istore 5, 2) := by decide +kernel
theorem dL_law_447 : decode cL_law 447 = .ok (.aload_n 2, 1) := by decide +kernel
theorem dL_law_448 : decode cL_law 448 = .ok (.aload_n 0, 1) := by decide +kernel
theorem dL_law_449 : decode cL_law 449 = .ok (.iload 4, 2) := by decide +kernel
theorem dL_law_451 : decode cL_law 451 = .ok (.iconst 1, 1) := by decide +kernel
theorem dL_law_452 : decode cL_law 452 = .ok (.iadd, 1) := by decide +kernel
theorem dL_law_453 : decode cL_law 453 = .ok (.iaload, 1) := by decide +kernel
theorem dL_law_454 : decode cL_law 454 = .ok (.invokevirtual 73, 3) := by decide +kernel
theorem dL_law_457 : decode cL_law 457 = .ok (.lstore 6, 2) := by decide +kernel
theorem dL_law_459 : decode cL_law 459 = .ok (.aload_n 2, 1) := by decide +kernel
theorem dL_law_460 : decode cL_law 460 = .ok (.invokevirtual 74, 3) := by decide +kernel
theorem dL_law_463 : decode cL_law 463 = .ok (.iload 5, 2) := by decide +kernel
theorem dL_law_465 : decode cL_law 465 = .ok (.if_icmp .eq 5, 3) := by decide +kernel
theorem dL_law_468 : decode cL_law 468 = .ok (.iconst 0, 1) := by decide +kernel
theorem dL_law_469 : decode cL_law 469 = .ok (.ireturn, 1) := by decide +kernel
theorem dL_law_470 : decode cL_law 470 = .ok (.iload 5, 2) := by decide +kernel
theorem dL_law_472 : decode cL_law 472 = .ok (.ifCond .ne 14, 3) := by decide +kernel
theorem dL_law_475 : decode cL_law 475 = .ok (.aload_n 3, 1) := by decide +kernel
theorem dL_law_476 : decode cL_law 476 = .ok (.iconst 0, 1) := by decide +kernel
theorem dL_law_477 : decode cL_law 477 = .ok (.laload, 1) := by decide +kernel
theorem dL_law_478 : decode cL_law 478 = .ok (.lload 6, 2) := by decide +kernel
theorem dL_law_480 : decode cL_law 480 = .ok (.lcmp, 1) := by decide +kernel
theorem dL_law_481 : decode cL_law 481 = .ok (.ifCond .eq 5, 3) := by decide +kernel
theorem dL_law_484 : decode cL_law 484 = .ok (.iconst 0, 1) := by decide +kernel
theorem dL_law_485 : decode cL_law 485 = .ok (.ireturn, 1) := by decide +kernel
theorem dL_law_486 : decode cL_law 486 = .ok (.goto 66, 3) := by decide +kernel
theorem dL_law_489 : decode cL_law 489 = .ok (.aload_n 1, 1) := by decide +kernel
theorem dL_law_490 : decode cL_law 490 = .ok (.invokevirtual 77, 3) := by decide +kernel
theorem dL_law_493 : decode cL_law 493 = .ok (.aload_n 2, 1) := by decide +kernel
theorem dL_law_494 : decode cL_law 494 = .ok (.invokevirtual 80, 3) := by decide +kernel
theorem dL_law_497 : decode cL_law 497 = .ok (.if_icmp .eq 55, 3) := by decide +kernel
theorem dL_law_500 : decode cL_law 500 = .ok (.iconst 0, 1) := by decide +kernel
theorem dL_law_501 : decode cL_law 501 = .ok (.ireturn, 1) := by decide +kernel
theorem dL_law_502 : decode cL_law 502 = .ok (.aload_n 1, 1) := by decide +kernel
theorem dL_law_503 : decode cL_law 503 = .ok (.aload_n 0, 1) := by decide +kernel
theorem dL_law_504 : decode cL_law 504 = .ok (.iload 4, 2) := by decide +kernel
theorem dL_law_506 : decode cL_law 506 = .ok (.iconst 1, 1) := by decide +kernel
theorem dL_law_507 : decode cL_law 507 = .ok (.iadd, 1) := by decide +kernel
theorem dL_law_508 : decode cL_law 508 = .ok (.iaload, 1) := by decide +kernel
theorem dL_law_509 : decode cL_law 509 = .ok (.invokevirtual 81, 3) := by decide +kernel
theorem dL_law_512 : decode cL_law 512 = .ok (.aload_n 2, 1) := by decide +kernel
theorem dL_law_513 : decode cL_law 513 = .ok (.aload_n 0, 1) := by decide +kernel
theorem dL_law_514 : decode cL_law 514 = .ok (.iload 4, 2) := by decide +kernel
theorem dL_law_516 : decode cL_law 516 = .ok (.iconst 1, 1) := by decide +kernel
theorem dL_law_517 : decode cL_law 517 = .ok (.iadd, 1) := by decide +kernel
theorem dL_law_518 : decode cL_law 518 = .ok (.iaload, 1) := by decide +kernel
theorem dL_law_519 : decode cL_law 519 = .ok (.invokevirtual 84, 3) := by decide +kernel
theorem dL_law_522 : decode cL_law 522 = .ok (.if_icmp .eq 30, 3) := by decide +kernel
theorem dL_law_525 : decode cL_law 525 = .ok (.iconst 0, 1) := by decide +kernel
theorem dL_law_526 : decode cL_law 526 = .ok (.ireturn, 1) := by decide +kernel
theorem dL_law_527 : decode cL_law 527 = .ok (.aload_n 1, 1) := by decide +kernel
theorem dL_law_528 : decode cL_law 528 = .ok (.aload_n 0, 1) := by decide +kernel
theorem dL_law_529 : decode cL_law 529 = .ok (.iload 4, 2) := by decide +kernel
theorem dL_law_531 : decode cL_law 531 = .ok (.iconst 1, 1) := by decide +kernel
theorem dL_law_532 : decode cL_law 532 = .ok (.iadd, 1) := by decide +kernel
theorem dL_law_533 : decode cL_law 533 = .ok (.iaload, 1) := by decide +kernel
theorem dL_law_534 : decode cL_law 534 = .ok (.invokevirtual 85, 3) := by decide +kernel
theorem dL_law_537 : decode cL_law 537 = .ok (.aload_n 2, 1) := by decide +kernel
theorem dL_law_538 : decode cL_law 538 = .ok (.aload_n 0, 1) := by decide +kernel
theorem dL_law_539 : decode cL_law 539 = .ok (.iload 4, 2) := by decide +kernel
theorem dL_law_541 : decode cL_law 541 = .ok (.iconst 1, 1) := by decide +kernel
theorem dL_law_542 : decode cL_law 542 = .ok (.iadd, 1) := by decide +kernel
theorem dL_law_543 : decode cL_law 543 = .ok (.iaload, 1) := by decide +kernel
theorem dL_law_544 : decode cL_law 544 = .ok (.invokevirtual 88, 3) := by decide +kernel
theorem dL_law_547 : decode cL_law 547 = .ok (.if_icmp .eq 5, 3) := by decide +kernel
theorem dL_law_550 : decode cL_law 550 = .ok (.iconst 0, 1) := by decide +kernel
theorem dL_law_551 : decode cL_law 551 = .ok (.ireturn, 1) := by decide +kernel
theorem dL_law_552 : decode cL_law 552 = .ok (.iinc 4 4, 3) := by decide +kernel
theorem dL_law_555 : decode cL_law 555 = .ok (.goto (-522), 3) := by decide +kernel
theorem dL_law_558 : decode cL_law 558 = .ok (.iconst 1, 1) := by decide +kernel
theorem dL_law_559 : decode cL_law 559 = .ok (.ireturn, 1) := by decide +kernel
end
section
/-! words of mine for what the methods answer and write: the shelf's rows (P places, V values, h of them), the reference's rows (N numbers, U values, z of them) -/
/-- how many of the first h places are less than x, up to the first that isn't -/
def rk (P : Nat → Int32) (x : Int32) : Nat → Nat
  | 0 => 0
  | h + 1 => if rk P x h = h ∧ P h < x then h + 1 else rk P x h
theorem rk_le (P : Nat → Int32) (x : Int32) : ∀ h, rk P x h ≤ h
  | 0 => Nat.le_refl 0
  | h + 1 => by
    have := rk_le P x h
    unfold rk
    split <;> omega
theorem rk_lt (P : Nat → Int32) (x : Int32) : ∀ h j, j < rk P x h → P j < x
  | 0, j, hj => by simp [rk] at hj
  | h + 1, j, hj => by
    unfold rk at hj
    split at hj
    · rename_i hc
      rcases Nat.lt_or_ge j h with q | q
      · exact rk_lt P x h j (by omega)
      · have : j = h := by omega
        rw [this]; exact hc.2
    · exact rk_lt P x h j hj
theorem rk_end (P : Nat → Int32) (x : Int32) : ∀ h, rk P x h = h ∨ ¬ P (rk P x h) < x
  | 0 => Or.inl rfl
  | h + 1 => by
    unfold rk
    split
    · exact Or.inl rfl
    · rename_i hc
      rcases rk_end P x h with q | q
      · rw [q]; exact Or.inr (fun z => hc ⟨q, z⟩)
      · exact Or.inr q
theorem rk_eq {P : Nat → Int32} {x : Int32} {h i : Nat} (h1 : i ≤ h) (h2 : ∀ j, j < i → P j < x) (h3 : i = h ∨ ¬ P i < x) : rk P x h = i := by
  have a := rk_le P x h
  have b := rk_lt P x h
  have c := rk_end P x h
  rcases Nat.lt_trichotomy (rk P x h) i with q | q | q
  · rcases c with c | c
    · omega
    · exact absurd (h2 _ q) c
  · exact q
  · rcases h3 with c | c
    · omega
    · exact absurd (b _ q) c
abbrev hasS (P : Nat → Int32) (h : Nat) (x : Int32) : Prop := rk P x h < h ∧ P (rk P x h) = x
def gAt (P : Nat → Int32) (h i : Nat) : Int32 := if i < h then P i else 0
def pAt (P : Nat → Int32) (h : Nat) (x : Int32) : Int32 := if x < 0 then 0 else if nI h ≤ x then 0 else P x.toNatClampNeg
def fFA (P : Nat → Int32) (h : Nat) (x : Int32) : Int32 := if hasS P h x then gAt P h (rk P x h + 1) else gAt P h (rk P x h)
def fLB (P : Nat → Int32) (h : Nat) (x : Int32) : Int32 := if 0 < rk P x h then P (rk P x h - 1) else 0
def fGr (P : Nat → Int32) (h : Nat) : Int32 := if 0 < h then P (h - 1) else 0
def fLe (P : Nat → Int32) (h : Nat) : Int32 := if 0 < h then P 0 else 0
def fRec (P : Nat → Int32) (V : Nat → Int64) (h : Nat) (x : Int32) : Int64 := if hasS P h x then V (rk P x h) else 0
/-- x put in at i, what stood from i to h - 1 moved one up -/
def insA {α : Type} (P : Nat → α) (i : Nat) (x : α) (h : Nat) : Nat → α := fun j => if j = i then x else if i < j ∧ j ≤ h then P (j - 1) else P j
/-- on the way there: what stood from i to h - 1 moved one up -/
def shU {α : Type} (P : Nat → α) (i h : Nat) : Nat → α := fun j => if i < j ∧ j ≤ h then P (j - 1) else P j
/-- what stood behind i moved one down, up to k -/
def delA {α : Type} (P : Nat → α) (i k : Nat) : Nat → α := fun j => if i ≤ j ∧ j < k then P (j + 1) else P j
def cDiv (x : Int32) : Nat → Int32
  | 0 => x
  | k + 1 => cDiv x k / 10
/-- the reference's: the last place k < n with N k = x, -1 for none -/
def rFind (N : Nat → Int32) (x : Int32) : Nat → Int32
  | 0 => -1
  | k + 1 => if N k = x then nI k else rFind N x k
def rFrom (N : Nat → Int32) (b : Int64) : Nat → Int32
  | 0 => 0
  | k + 1 => if b ≤ (N k).toInt64 then (if rFrom N b k = 0 then N k else if N k < rFrom N b k then N k else rFrom N b k) else rFrom N b k
def rUpTo (N : Nat → Int32) (b : Int64) : Nat → Int32
  | 0 => 0
  | k + 1 => if (N k).toInt64 ≤ b then (if rUpTo N b k < N k then N k else rUpTo N b k) else rUpTo N b k
def rBound : Nat → Int64
  | 0 => 1
  | k + 1 => rBound k * 10
theorem upd_at {f : Nat → Int32} {k : Nat} {x : Int32} (j : Nat) : upd f k x j = if j = k then x else f j := by
  by_cases h : j = k
  · rw [if_pos h, h]; exact pk_us
  · rw [if_neg h]; exact pk_un h
theorem updL_at {f : Nat → Int64} {k : Nat} {x : Int64} (j : Nat) : vp_updL f k x j = if j = k then x else f j := rfl
theorem shU_top {α : Type} (P : Nat → α) (h : Nat) : shU P h h = P := by
  funext j; unfold shU; rw [if_neg (by omega)]
theorem shU_step (P : Nat → Int32) {i h : Nat} (hi : i + 1 ≤ h) : upd (shU P (i + 1) h) (i + 1) (shU P (i + 1) h i) = shU P i h := by
  funext j
  rw [upd_at]
  unfold shU
  by_cases q : j = i + 1
  · subst q
    rw [if_pos rfl, if_neg (by omega), if_pos ⟨by omega, by omega⟩]; rfl
  · rw [if_neg q]
    by_cases q2 : i + 1 < j ∧ j ≤ h
    · rw [if_pos q2, if_pos ⟨by omega, q2.2⟩]
    · rw [if_neg q2, if_neg (by omega)]
theorem shU_stepL (P : Nat → Int64) {i h : Nat} (hi : i + 1 ≤ h) : vp_updL (shU P (i + 1) h) (i + 1) (shU P (i + 1) h i) = shU P i h := by
  funext j
  rw [updL_at]
  unfold shU
  by_cases q : j = i + 1
  · subst q
    rw [if_pos rfl, if_neg (by omega), if_pos ⟨by omega, by omega⟩]; rfl
  · rw [if_neg q]
    by_cases q2 : i + 1 < j ∧ j ≤ h
    · rw [if_pos q2, if_pos ⟨by omega, q2.2⟩]
    · rw [if_neg q2, if_neg (by omega)]
theorem shU_ins (P : Nat → Int32) {i h : Nat} (x : Int32) : upd (shU P i h) i x = insA P i x h := by
  funext j
  rw [upd_at]
  unfold shU insA
  rfl
theorem shU_insL (P : Nat → Int64) {i h : Nat} (x : Int64) : vp_updL (shU P i h) i x = insA P i x h := by
  funext j
  rw [updL_at]
  unfold shU insA
  rfl
theorem delA_0 {α : Type} (P : Nat → α) (i : Nat) : delA P i i = P := by
  funext j; unfold delA; rw [if_neg (by omega)]
theorem delA_step (P : Nat → Int32) {i k : Nat} (hi : i ≤ k) : upd (delA P i k) k (delA P i k (k + 1)) = delA P i (k + 1) := by
  funext j
  rw [upd_at]
  unfold delA
  by_cases q : j = k
  · subst q
    rw [if_pos rfl, if_neg (by omega), if_pos ⟨hi, by omega⟩]
  · rw [if_neg q]
    by_cases q2 : i ≤ j ∧ j < k
    · rw [if_pos q2, if_pos ⟨q2.1, by omega⟩]
    · rw [if_neg q2, if_neg (by omega)]
theorem delA_stepL (P : Nat → Int64) {i k : Nat} (hi : i ≤ k) : vp_updL (delA P i k) k (delA P i k (k + 1)) = delA P i (k + 1) := by
  funext j
  rw [updL_at]
  unfold delA
  by_cases q : j = k
  · subst q
    rw [if_pos rfl, if_neg (by omega), if_pos ⟨hi, by omega⟩]
  · rw [if_neg q]
    by_cases q2 : i ≤ j ∧ j < k
    · rw [if_pos q2, if_pos ⟨q2.1, by omega⟩]
    · rw [if_neg q2, if_neg (by omega)]
theorem vp_in_cl {x : Int32} {n h : Nat} (h0 : ¬ x < 0) (h1 : ¬ nI h ≤ x) (hh : h ≤ n) (hn : n ≤ 2000) : vp_in x n := by
  rw [vp_in_iff]
  rw [Int32.lt_iff_toInt_lt] at h0
  rw [Int32.le_iff_toInt_le, nI_toInt (by omega)] at h1
  have e0 : (0 : Int32).toInt = 0 := rfl
  omega
theorem pAt_nI (P : Nat → Int32) {h i : Nat} (hh : h ≤ 2000) (hi : i ≤ 2000) : pAt P h (nI i) = gAt P h i := by
  unfold pAt gAt
  rw [if_neg (nI_pos (by omega)), nI_clamp (by omega)]
  by_cases q : i < h
  · rw [if_pos q, if_neg (nI_ge q (by omega))]
  · rw [if_neg q, if_pos (nI_le (by omega) (by omega))]
theorem pAt_pred (P : Nat → Int32) {h i : Nat} (hh : h ≤ 2000) (hi : i ≤ h) : pAt P h (nI i - 1) = if 0 < i then P (i - 1) else 0 := by
  cases i with
  | zero =>
    rw [if_neg (by omega)]
    unfold pAt
    rw [if_pos (by decide)]
  | succ i =>
    rw [if_pos (by omega), nI_pred, pAt_nI P hh (by omega)]
    unfold gAt
    rw [if_pos (by omega)]; rfl
/-- the end that a walk owes gets a name -/
theorem W_name {p : Program} {l : Launch} {e : Env} {R : Room} {s : State} {m : MethodId} {args : Array Value} {below : List Frame} {meth : Method} {c : Code} {H : Heap} {locs : List Loc} {cells slots : Nat} {Q : State → Prop} {g : JFrame} (k : ∀ Q', Q' = Q → W p l e R s m args below meth c H locs cells slots Q' g) : W p l e R s m args below meth c H locs cells slots Q g := k Q rfl
end
section
set_option maxHeartbeats 1000000 in
set_option maxRecDepth 100000 in
/-- rank: how many places are less -/
theorem kX0_rank (l : Launch) (dC : Nat → ClassId) (dI : Nat → Nat → Nat) (oS oA oB : Nat) (cA cB : ClassId) (n h : Nat) (P : Nat → Int32) (V : Nat → Int64) (p0 : Int32) (sz : Nat) (hh : h ≤ n) (hn : n ≤ 512) : Met l yX0_rank wsX0_rank ({ frames := 0, cells := 0, slots := 0, locals := 0 }) (va_Pc [.ref oS, .int p0] (fun U => U.heap.size = sz ∧ va_P (dC, dI) vwCl [(oS, .inr (1, [.ref oA, .ref oB, .int (nI h)])), (oA, .inl (cA, n, .inl P)), (oB, .inl (cB, n, .inr (.inl V)))] U.heap ∧ va_K (dC, dI) vwCl [(cA, .int), (cB, .long)] U ∧ va_D (fun _ => True) [(oS, .inr (1, [.ref oA, .ref oB, .int (nI h)])), (oA, .inl (cA, n, .inl P)), (oB, .inl (cB, n, .inr (.inl V)))])) (va_Qi (fun (r : Int32) (_ : Unit) => r = nI (rk P p0 h)) (fun (_ : Unit) (t : State) => va_P (dC, dI) vwCl [(oS, .inr (1, [.ref oA, .ref oB, .int (nI h)])), (oA, .inl (cA, n, .inl P)), (oB, .inl (cB, n, .inr (.inl V)))] t.heap ∧ va_K (dC, dI) vwCl [(cA, .int), (cB, .long)] t ∧ va_D (va_A [(oS, .inr (1, [.ref oA, .ref oB, .int (nI h)])), (oA, .inl (cA, n, .inl P)), (oB, .inl (cB, n, .inr (.inl V)))] sz) [(oS, .inr (1, [.ref oA, .ref oB, .int (nI h)])), (oA, .inl (cA, n, .inl P)), (oB, .inl (cB, n, .inr (.inl V)))]) (va_A [(oS, .inr (1, [.ref oA, .ref oB, .int (nI h)])), (oA, .inl (cA, n, .inl P)), (oB, .inl (cB, n, .inr (.inl V)))] sz)) 0 0 (va_A [(oS, .inr (1, [.ref oA, .ref oB, .int (nI h)])), (oA, .inl (cA, n, .inl P)), (oB, .inl (cB, n, .inr (.inl V)))] sz) := by
  refine Met.ofW (cc := cX0_rank) (maxL := 3) (ret := (some .int)) (by decide) rfl ?_
  intro p e s m args below meth c s₁ B hml hv
  obtain ⟨rfl, hsz, hP, hK, hD0⟩ := hv
  have hx := B.exec
  have hb := B.bytes
  have hr := B.returns
  have hts := atoms_spec (ws := wsX0_rank) B.pre
  have hown : s.vm.findClass RX0 = some m.cls := findClass_of_methodNamed B.named
  have hlocks := B.notSynchronized
  subst hsz
  have hD := hD0.self (sz := s.heap.size)
  generalize hAe : va_A [(oS, .inr (1, [.ref oA, .ref oB, .int (nI h)])), (oA, .inl (cA, n, .inl P)), (oB, .inl (cB, n, .inr (.inl V)))] s.heap.size = A at hD ⊢
  have hA : ∀ q : Nat, s.heap.size ≤ q → A q := fun q h => by rw [← hAe]; exact Or.inr h
  have hS : va_S A s.heap s.heap [] := va_S.rf
  have hP : va_P (dC, dI) vwCl [(oS, .inr (1, [.ref oA, .ref oB, .int (nI h)])), (oA, .inl (cA, n, .inl P)), (oB, .inl (cB, n, .inr (.inl V)))] s.heap := hP
  have hl := lv_entry ([.ref oS, .int p0]) (n := 3) (Nat.le_of_ble_eq_true rfl)
  rw [lg_entry_eq]
  generalize (lg_sl ([.ref oS, .int p0]) ++ List.replicate (3 - (lg_sl ([.ref oS, .int p0])).length) Slot.unset).toArray = ls at hl ⊢
  have hl : lv_has ls 3 [(0, .ref oS), (1, .int p0)] := hl
  refine W_name (fun Q hQ9 => ?_)
  refine lv_iconst (v := 0) hx hb dX0_rank_0 (by decide) ?_
  refine lv_istore_n (lv' := [(2, .int 0), (0, .ref oS), (1, .int p0)]) hx hb dX0_rank_1 rfl hl (by decide) rfl (fun ls hl => ?_)
  have loop : ∀ (k i : Nat) (ls : Array Slot) (H : Heap) (locs : List Loc), (i ≤ h) → (h + 1 ≤ i + k) → (∀ j, j < i → P j < p0) → lv_has ls 3 [(2, .int (nI i)), (0, .ref oS), (1, .int p0)] → va_P (dC, dI) vwCl [(oS, .inr (1, [.ref oA, .ref oB, .int (nI h)])), (oA, .inl (cA, n, .inl P)), (oB, .inl (cB, n, .inr (.inl V)))] H → va_D A [(oS, .inr (1, [.ref oA, .ref oB, .int (nI h)])), (oA, .inl (cA, n, .inl P)), (oB, .inl (cB, n, .inr (.inl V)))] → va_S A s.heap H locs → W p l e (headSpec wsX0_rank ({ frames := 0, cells := 0, slots := 0, locals := 0 })).room s m #[(Value.ref oS), (Value.int p0)] below meth c H locs 0 0 Q (F0 m 2 ls []) := by
    intro k
    induction k with
    | zero => intro i ls H locs h1 h2 h3; exact absurd h2 (by omega)
    | succ k ih =>
      intro i ls H locs h1 h2 h3 hl hP hD hS
      refine lv_iload_n hx hb dX0_rank_2 rfl (lv_at hl 0 rfl) ?_
      refine lv_aload_n hx hb dX0_rank_3 rfl (lv_at hl 1 rfl) ?_
      refine va_get (D := (dC, dI)) (ci := 1) (v := .int (nI h)) (C := RX0) (T := TX0) (N := 3) hx hb hts (by decide +kernel) hown hK hP 0 rfl rfl 2 (by decide) (hts (.fieldLink RX0 25 "RelativeFiles$Shelf" "held" "I") (by decide +kernel)) (fun _ h9 => h9) rfl dX0_rank_4 ?_
      refine lv_icmp_ge (tgt := 26) hx hb dX0_rank_7 (by decide) (fun c_1 => ?_) (fun c_1 => ?_)
      · -- taken at 7: (nI h) ≤ (nI i)
        have hi2 : i = h := by have := (nI_leI (a := h) (b := i) (by omega) (by omega)).mp c_1; omega
        refine lv_iload_n hx hb dX0_rank_26 rfl (lv_at hl 0 rfl) ?_
        subst hQ9
        have e9 : rk P p0 h = i := rk_eq h1 h3 (Or.inl hi2)
        rw [e9]
        exact W.iret (v := nI i) hx hb hr (fun t ht hW => ⟨⟨nI i, (), rfl, rfl, by rw [ht]; exact hP, va_K.moved hW.alike hK, hD⟩, hS.F ht⟩) hS.2.2 dX0_rank_27
      · -- not taken at 7: ¬ (nI h) ≤ (nI i)
        have hi2 : i < h := by rcases Nat.lt_or_ge i h with q | q; exact q; exact absurd (nI_le q (by omega)) c_1
        refine lv_aload_n hx hb dX0_rank_10 rfl (lv_at hl 1 rfl) ?_
        refine va_get (D := (dC, dI)) (ci := 1) (v := .ref oA) (C := RX0) (T := TX0) (N := 3) hx hb hts (by decide +kernel) hown hK hP 0 rfl rfl 0 (by decide) (hts (.fieldLink RX0 15 "RelativeFiles$Shelf" "places" "[I") (by decide +kernel)) (fun _ h9 => h9) rfl dX0_rank_11 ?_
        refine lv_iload_n hx hb dX0_rank_14 rfl (lv_at hl 0 rfl) ?_
        refine va_iald hx hb hK hP 1 0 rfl rfl (vp_in_nI (by omega) (by omega)) dX0_rank_15 ?_
        rw [show P ((nI i).toNatClampNeg) = P i from by rw [nI_clamp (by omega)]]
        refine lv_iload_n hx hb dX0_rank_16 rfl (lv_at hl 2 rfl) ?_
        refine lv_icmp_ge (tgt := 26) hx hb dX0_rank_17 (by decide) (fun c_2 => ?_) (fun c_2 => ?_)
        · -- taken at 17: p0 ≤ (P i)
          refine lv_iload_n hx hb dX0_rank_26 rfl (lv_at hl 0 rfl) ?_
          subst hQ9
          have e9 : rk P p0 h = i := rk_eq h1 h3 (Or.inr (fun z => by rw [Int32.lt_iff_toInt_lt] at z; rw [Int32.le_iff_toInt_le] at c_2; omega))
          rw [e9]
          exact W.iret (v := nI i) hx hb hr (fun t ht hW => ⟨⟨nI i, (), rfl, rfl, by rw [ht]; exact hP, va_K.moved hW.alike hK, hD⟩, hS.F ht⟩) hS.2.2 dX0_rank_27
        · -- not taken at 17: ¬ p0 ≤ (P i)
          have hP_lt : P i < p0 := by rw [Int32.lt_iff_toInt_lt]; rw [Int32.le_iff_toInt_le] at c_2; omega
          refine lv_iinc (v := (nI (i + 1))) (lv' := [(2, .int (nI (i + 1))), (0, .ref oS), (1, .int p0)]) hx hb dX0_rank_20 hl (k := 0) rfl ((nI_succ i).symm) (by decide) rfl (fun ls hl => ?_)
          refine lv_goto (tgt := 2) hx hb dX0_rank_23 (by decide) ?_
          exact ih (i + 1) ls _ _ (by omega) (by omega) (fun j hj => (Nat.lt_or_ge j i).elim (fun q => h3 j q) (fun q => (show j = i by omega) ▸ hP_lt)) (lv_sub hl [0, 1, 2] rfl) hP hD hS
  exact loop (h + 1) 0  ls _ _ (Nat.zero_le h) (by omega) (fun j hj => by omega) (by rw [nI_0]; exact hl) hP hD hS

set_option maxHeartbeats 1000000 in
set_option maxRecDepth 100000 in
theorem kX0_isAt (l : Launch) (dC : Nat → ClassId) (dI : Nat → Nat → Nat) (oS oA oB : Nat) (cA cB : ClassId) (n h : Nat) (P : Nat → Int32) (V : Nat → Int64) (i : Nat) (p1 : Int32) (sz : Nat) (hh : h ≤ n) (hn : n ≤ 512) (hi : i ≤ h) : Met l yX0_isAt wsX0_isAt ({ frames := 0, cells := 0, slots := 0, locals := 0 }) (va_Pc [.ref oS, .int (nI i), .int p1] (fun U => U.heap.size = sz ∧ va_P (dC, dI) vwCl [(oS, .inr (1, [.ref oA, .ref oB, .int (nI h)])), (oA, .inl (cA, n, .inl P)), (oB, .inl (cB, n, .inr (.inl V)))] U.heap ∧ va_K (dC, dI) vwCl [(cA, .int), (cB, .long)] U ∧ va_D (fun _ => True) [(oS, .inr (1, [.ref oA, .ref oB, .int (nI h)])), (oA, .inl (cA, n, .inl P)), (oB, .inl (cB, n, .inr (.inl V)))])) (va_Qi (fun (r : Int32) (_ : Unit) => ((i < h ∧ P i = p1) ∧ r = 1) ∨ (¬ (i < h ∧ P i = p1) ∧ r = 0)) (fun (_ : Unit) (t : State) => va_P (dC, dI) vwCl [(oS, .inr (1, [.ref oA, .ref oB, .int (nI h)])), (oA, .inl (cA, n, .inl P)), (oB, .inl (cB, n, .inr (.inl V)))] t.heap ∧ va_K (dC, dI) vwCl [(cA, .int), (cB, .long)] t ∧ va_D (va_A [(oS, .inr (1, [.ref oA, .ref oB, .int (nI h)])), (oA, .inl (cA, n, .inl P)), (oB, .inl (cB, n, .inr (.inl V)))] sz) [(oS, .inr (1, [.ref oA, .ref oB, .int (nI h)])), (oA, .inl (cA, n, .inl P)), (oB, .inl (cB, n, .inr (.inl V)))]) (va_A [(oS, .inr (1, [.ref oA, .ref oB, .int (nI h)])), (oA, .inl (cA, n, .inl P)), (oB, .inl (cB, n, .inr (.inl V)))] sz)) 0 0 (va_A [(oS, .inr (1, [.ref oA, .ref oB, .int (nI h)])), (oA, .inl (cA, n, .inl P)), (oB, .inl (cB, n, .inr (.inl V)))] sz) := by
  refine Met.ofW (cc := cX0_isAt) (maxL := 3) (ret := (some .boolean)) (by decide) rfl ?_
  intro p e s m args below meth c s₁ B hml hv
  obtain ⟨rfl, hsz, hP, hK, hD0⟩ := hv
  have hx := B.exec
  have hb := B.bytes
  have hr := B.returns
  have hts := atoms_spec (ws := wsX0_isAt) B.pre
  have hown : s.vm.findClass RX0 = some m.cls := findClass_of_methodNamed B.named
  have hlocks := B.notSynchronized
  subst hsz
  have hD := hD0.self (sz := s.heap.size)
  generalize hAe : va_A [(oS, .inr (1, [.ref oA, .ref oB, .int (nI h)])), (oA, .inl (cA, n, .inl P)), (oB, .inl (cB, n, .inr (.inl V)))] s.heap.size = A at hD ⊢
  have hA : ∀ q : Nat, s.heap.size ≤ q → A q := fun q h => by rw [← hAe]; exact Or.inr h
  have hS : va_S A s.heap s.heap [] := va_S.rf
  have hP : va_P (dC, dI) vwCl [(oS, .inr (1, [.ref oA, .ref oB, .int (nI h)])), (oA, .inl (cA, n, .inl P)), (oB, .inl (cB, n, .inr (.inl V)))] s.heap := hP
  have hl := lv_entry ([.ref oS, .int (nI i), .int p1]) (n := 3) (Nat.le_of_ble_eq_true rfl)
  rw [lg_entry_eq]
  generalize (lg_sl ([.ref oS, .int (nI i), .int p1]) ++ List.replicate (3 - (lg_sl ([.ref oS, .int (nI i), .int p1])).length) Slot.unset).toArray = ls at hl ⊢
  have hl : lv_has ls 3 [(0, .ref oS), (1, .int (nI i)), (2, .int p1)] := hl
  refine W_name (fun Q hQ9 => ?_)
  refine lv_iload_n hx hb dX0_isAt_0 rfl (lv_at hl 1 rfl) ?_
  refine lv_aload_n hx hb dX0_isAt_1 rfl (lv_at hl 0 rfl) ?_
  refine va_get (D := (dC, dI)) (ci := 1) (v := .int (nI h)) (C := RX0) (T := TX0) (N := 3) hx hb hts (by decide +kernel) hown hK hP 0 rfl rfl 2 (by decide) (hts (.fieldLink RX0 25 "RelativeFiles$Shelf" "held" "I") (by decide +kernel)) (fun _ h9 => h9) rfl dX0_isAt_2 ?_
  refine lv_icmp_ge (tgt := 22) hx hb dX0_isAt_5 (by decide) (fun c_1 => ?_) (fun c_1 => ?_)
  · -- taken at 5: (nI h) ≤ (nI i)
    have hi2 : ¬ i < h := by have := (nI_leI (a := h) (b := i) (by omega) (by omega)).mp c_1; omega
    refine lv_iconst (v := 0) hx hb dX0_isAt_22 (by decide) ?_
    subst hQ9
    exact W.zret (ty := .boolean) (v := 0) hx hb hr (by decide) (fun t ht hW => ⟨⟨0, (), rfl, Or.inr ⟨fun q => by omega, rfl⟩, by rw [ht]; exact hP, va_K.moved hW.alike hK, hD⟩, hS.F ht⟩) hS.2.2 dX0_isAt_23
  · -- not taken at 5: ¬ (nI h) ≤ (nI i)
    have hi2 : i < h := by rcases Nat.lt_or_ge i h with q | q; exact q; exact absurd (nI_le q (by omega)) c_1
    refine lv_aload_n hx hb dX0_isAt_8 rfl (lv_at hl 0 rfl) ?_
    refine va_get (D := (dC, dI)) (ci := 1) (v := .ref oA) (C := RX0) (T := TX0) (N := 3) hx hb hts (by decide +kernel) hown hK hP 0 rfl rfl 0 (by decide) (hts (.fieldLink RX0 15 "RelativeFiles$Shelf" "places" "[I") (by decide +kernel)) (fun _ h9 => h9) rfl dX0_isAt_9 ?_
    refine lv_iload_n hx hb dX0_isAt_12 rfl (lv_at hl 1 rfl) ?_
    refine va_iald hx hb hK hP 1 0 rfl rfl (vp_in_nI (by omega) (by omega)) dX0_isAt_13 ?_
    rw [show P ((nI i).toNatClampNeg) = P i from by rw [nI_clamp (by omega)]]
    refine lv_iload_n hx hb dX0_isAt_14 rfl (lv_at hl 2 rfl) ?_
    refine lv_icmp_ne (tgt := 22) hx hb dX0_isAt_15 (by decide) (fun c_2 => ?_) (fun c_2 => ?_)
    · -- taken at 15: ¬ (P i) = p1
      refine lv_iconst (v := 0) hx hb dX0_isAt_22 (by decide) ?_
      subst hQ9
      exact W.zret (ty := .boolean) (v := 0) hx hb hr (by decide) (fun t ht hW => ⟨⟨0, (), rfl, Or.inr ⟨fun q => c_2 q.2, rfl⟩, by rw [ht]; exact hP, va_K.moved hW.alike hK, hD⟩, hS.F ht⟩) hS.2.2 dX0_isAt_23
    · -- not taken at 15: (P i) = p1
      refine lv_iconst (v := 1) hx hb dX0_isAt_18 (by decide) ?_
      refine lv_goto (tgt := 23) hx hb dX0_isAt_19 (by decide) ?_
      subst hQ9
      exact W.zret (ty := .boolean) (v := 1) hx hb hr (by decide) (fun t ht hW => ⟨⟨1, (), rfl, Or.inl ⟨⟨hi2, c_2⟩, rfl⟩, by rw [ht]; exact hP, va_K.moved hW.alike hK, hD⟩, hS.F ht⟩) hS.2.2 dX0_isAt_23

set_option maxHeartbeats 1000000 in
set_option maxRecDepth 100000 in
theorem kX0_placeAt (l : Launch) (dC : Nat → ClassId) (dI : Nat → Nat → Nat) (oS oA oB : Nat) (cA cB : ClassId) (n h : Nat) (P : Nat → Int32) (V : Nat → Int64) (p0 : Int32) (sz : Nat) (hh : h ≤ n) (hn : n ≤ 512) : Met l yX0_placeAt wsX0_placeAt ({ frames := 0, cells := 0, slots := 0, locals := 0 }) (va_Pc [.ref oS, .int p0] (fun U => U.heap.size = sz ∧ va_P (dC, dI) vwCl [(oS, .inr (1, [.ref oA, .ref oB, .int (nI h)])), (oA, .inl (cA, n, .inl P)), (oB, .inl (cB, n, .inr (.inl V)))] U.heap ∧ va_K (dC, dI) vwCl [(cA, .int), (cB, .long)] U ∧ va_D (fun _ => True) [(oS, .inr (1, [.ref oA, .ref oB, .int (nI h)])), (oA, .inl (cA, n, .inl P)), (oB, .inl (cB, n, .inr (.inl V)))])) (va_Qi (fun (r : Int32) (_ : Unit) => r = pAt P h p0) (fun (_ : Unit) (t : State) => va_P (dC, dI) vwCl [(oS, .inr (1, [.ref oA, .ref oB, .int (nI h)])), (oA, .inl (cA, n, .inl P)), (oB, .inl (cB, n, .inr (.inl V)))] t.heap ∧ va_K (dC, dI) vwCl [(cA, .int), (cB, .long)] t ∧ va_D (va_A [(oS, .inr (1, [.ref oA, .ref oB, .int (nI h)])), (oA, .inl (cA, n, .inl P)), (oB, .inl (cB, n, .inr (.inl V)))] sz) [(oS, .inr (1, [.ref oA, .ref oB, .int (nI h)])), (oA, .inl (cA, n, .inl P)), (oB, .inl (cB, n, .inr (.inl V)))]) (va_A [(oS, .inr (1, [.ref oA, .ref oB, .int (nI h)])), (oA, .inl (cA, n, .inl P)), (oB, .inl (cB, n, .inr (.inl V)))] sz)) 0 0 (va_A [(oS, .inr (1, [.ref oA, .ref oB, .int (nI h)])), (oA, .inl (cA, n, .inl P)), (oB, .inl (cB, n, .inr (.inl V)))] sz) := by
  refine Met.ofW (cc := cX0_placeAt) (maxL := 2) (ret := (some .int)) (by decide) rfl ?_
  intro p e s m args below meth c s₁ B hml hv
  obtain ⟨rfl, hsz, hP, hK, hD0⟩ := hv
  have hx := B.exec
  have hb := B.bytes
  have hr := B.returns
  have hts := atoms_spec (ws := wsX0_placeAt) B.pre
  have hown : s.vm.findClass RX0 = some m.cls := findClass_of_methodNamed B.named
  have hlocks := B.notSynchronized
  subst hsz
  have hD := hD0.self (sz := s.heap.size)
  generalize hAe : va_A [(oS, .inr (1, [.ref oA, .ref oB, .int (nI h)])), (oA, .inl (cA, n, .inl P)), (oB, .inl (cB, n, .inr (.inl V)))] s.heap.size = A at hD ⊢
  have hA : ∀ q : Nat, s.heap.size ≤ q → A q := fun q h => by rw [← hAe]; exact Or.inr h
  have hS : va_S A s.heap s.heap [] := va_S.rf
  have hP : va_P (dC, dI) vwCl [(oS, .inr (1, [.ref oA, .ref oB, .int (nI h)])), (oA, .inl (cA, n, .inl P)), (oB, .inl (cB, n, .inr (.inl V)))] s.heap := hP
  have hl := lv_entry ([.ref oS, .int p0]) (n := 2) (Nat.le_of_ble_eq_true rfl)
  rw [lg_entry_eq]
  generalize (lg_sl ([.ref oS, .int p0]) ++ List.replicate (2 - (lg_sl ([.ref oS, .int p0])).length) Slot.unset).toArray = ls at hl ⊢
  have hl : lv_has ls 2 [(0, .ref oS), (1, .int p0)] := hl
  refine W_name (fun Q hQ9 => ?_)
  refine lv_iload_n hx hb dX0_placeAt_0 rfl (lv_at hl 1 rfl) ?_
  refine lv_if_lt (tgt := 21) hx hb dX0_placeAt_1 (by decide) (fun c_1 => ?_) (fun c_1 => ?_)
  · -- taken at 1: p0 < 0
    refine lv_iconst (v := 0) hx hb dX0_placeAt_21 (by decide) ?_
    subst hQ9
    have e9 : pAt P h p0 = 0 := by simp only [pAt, if_pos c_1]
    rw [e9]
    exact W.iret (v := 0) hx hb hr (fun t ht hW => ⟨⟨0, (), rfl, rfl, by rw [ht]; exact hP, va_K.moved hW.alike hK, hD⟩, hS.F ht⟩) hS.2.2 dX0_placeAt_22
  · -- not taken at 1: ¬ p0 < 0
    refine lv_iload_n hx hb dX0_placeAt_4 rfl (lv_at hl 1 rfl) ?_
    refine lv_aload_n hx hb dX0_placeAt_5 rfl (lv_at hl 0 rfl) ?_
    refine va_get (D := (dC, dI)) (ci := 1) (v := .int (nI h)) (C := RX0) (T := TX0) (N := 3) hx hb hts (by decide +kernel) hown hK hP 0 rfl rfl 2 (by decide) (hts (.fieldLink RX0 25 "RelativeFiles$Shelf" "held" "I") (by decide +kernel)) (fun _ h9 => h9) rfl dX0_placeAt_6 ?_
    refine lv_icmp_ge (tgt := 21) hx hb dX0_placeAt_9 (by decide) (fun c_2 => ?_) (fun c_2 => ?_)
    · -- taken at 9: (nI h) ≤ p0
      refine lv_iconst (v := 0) hx hb dX0_placeAt_21 (by decide) ?_
      subst hQ9
      have e9 : pAt P h p0 = 0 := by simp only [pAt, if_neg c_1, if_pos c_2]
      rw [e9]
      exact W.iret (v := 0) hx hb hr (fun t ht hW => ⟨⟨0, (), rfl, rfl, by rw [ht]; exact hP, va_K.moved hW.alike hK, hD⟩, hS.F ht⟩) hS.2.2 dX0_placeAt_22
    · -- not taken at 9: ¬ (nI h) ≤ p0
      refine lv_aload_n hx hb dX0_placeAt_12 rfl (lv_at hl 0 rfl) ?_
      refine va_get (D := (dC, dI)) (ci := 1) (v := .ref oA) (C := RX0) (T := TX0) (N := 3) hx hb hts (by decide +kernel) hown hK hP 0 rfl rfl 0 (by decide) (hts (.fieldLink RX0 15 "RelativeFiles$Shelf" "places" "[I") (by decide +kernel)) (fun _ h9 => h9) rfl dX0_placeAt_13 ?_
      refine lv_iload_n hx hb dX0_placeAt_16 rfl (lv_at hl 1 rfl) ?_
      refine va_iald hx hb hK hP 1 0 rfl rfl (vp_in_cl c_1 c_2 hh (by omega)) dX0_placeAt_17 ?_
      refine lv_goto (tgt := 22) hx hb dX0_placeAt_18 (by decide) ?_
      subst hQ9
      have e9 : pAt P h p0 = P (p0.toNatClampNeg) := by simp only [pAt, if_neg c_1, if_neg c_2]
      rw [e9]
      exact W.iret (v := P (p0.toNatClampNeg)) hx hb hr (fun t ht hW => ⟨⟨P (p0.toNatClampNeg), (), rfl, rfl, by rw [ht]; exact hP, va_K.moved hW.alike hK, hD⟩, hS.F ht⟩) hS.2.2 dX0_placeAt_22

set_option maxHeartbeats 1000000 in
set_option maxRecDepth 100000 in
theorem kX0_size (l : Launch) (dC : Nat → ClassId) (dI : Nat → Nat → Nat) (oS oA oB : Nat) (cA cB : ClassId) (n h : Nat) (P : Nat → Int32) (V : Nat → Int64) (sz : Nat) (hh : h ≤ n) (hn : n ≤ 512) : Met l yX0_size wsX0_size ({ frames := 0, cells := 0, slots := 0, locals := 0 }) (va_Pc [.ref oS] (fun U => U.heap.size = sz ∧ va_P (dC, dI) vwCl [(oS, .inr (1, [.ref oA, .ref oB, .int (nI h)])), (oA, .inl (cA, n, .inl P)), (oB, .inl (cB, n, .inr (.inl V)))] U.heap ∧ va_K (dC, dI) vwCl [(cA, .int), (cB, .long)] U ∧ va_D (fun _ => True) [(oS, .inr (1, [.ref oA, .ref oB, .int (nI h)])), (oA, .inl (cA, n, .inl P)), (oB, .inl (cB, n, .inr (.inl V)))])) (va_Qi (fun (r : Int32) (_ : Unit) => r = nI h) (fun (_ : Unit) (t : State) => va_P (dC, dI) vwCl [(oS, .inr (1, [.ref oA, .ref oB, .int (nI h)])), (oA, .inl (cA, n, .inl P)), (oB, .inl (cB, n, .inr (.inl V)))] t.heap ∧ va_K (dC, dI) vwCl [(cA, .int), (cB, .long)] t ∧ va_D (va_A [(oS, .inr (1, [.ref oA, .ref oB, .int (nI h)])), (oA, .inl (cA, n, .inl P)), (oB, .inl (cB, n, .inr (.inl V)))] sz) [(oS, .inr (1, [.ref oA, .ref oB, .int (nI h)])), (oA, .inl (cA, n, .inl P)), (oB, .inl (cB, n, .inr (.inl V)))]) (va_A [(oS, .inr (1, [.ref oA, .ref oB, .int (nI h)])), (oA, .inl (cA, n, .inl P)), (oB, .inl (cB, n, .inr (.inl V)))] sz)) 0 0 (va_A [(oS, .inr (1, [.ref oA, .ref oB, .int (nI h)])), (oA, .inl (cA, n, .inl P)), (oB, .inl (cB, n, .inr (.inl V)))] sz) := by
  refine Met.ofW (cc := cX0_size) (maxL := 1) (ret := (some .int)) (by decide) rfl ?_
  intro p e s m args below meth c s₁ B hml hv
  obtain ⟨rfl, hsz, hP, hK, hD0⟩ := hv
  have hx := B.exec
  have hb := B.bytes
  have hr := B.returns
  have hts := atoms_spec (ws := wsX0_size) B.pre
  have hown : s.vm.findClass RX0 = some m.cls := findClass_of_methodNamed B.named
  have hlocks := B.notSynchronized
  subst hsz
  have hD := hD0.self (sz := s.heap.size)
  generalize hAe : va_A [(oS, .inr (1, [.ref oA, .ref oB, .int (nI h)])), (oA, .inl (cA, n, .inl P)), (oB, .inl (cB, n, .inr (.inl V)))] s.heap.size = A at hD ⊢
  have hA : ∀ q : Nat, s.heap.size ≤ q → A q := fun q h => by rw [← hAe]; exact Or.inr h
  have hS : va_S A s.heap s.heap [] := va_S.rf
  have hP : va_P (dC, dI) vwCl [(oS, .inr (1, [.ref oA, .ref oB, .int (nI h)])), (oA, .inl (cA, n, .inl P)), (oB, .inl (cB, n, .inr (.inl V)))] s.heap := hP
  have hl := lv_entry ([.ref oS]) (n := 1) (Nat.le_of_ble_eq_true rfl)
  rw [lg_entry_eq]
  generalize (lg_sl ([.ref oS]) ++ List.replicate (1 - (lg_sl ([.ref oS])).length) Slot.unset).toArray = ls at hl ⊢
  have hl : lv_has ls 1 [(0, .ref oS)] := hl
  refine W_name (fun Q hQ9 => ?_)
  refine lv_aload_n hx hb dX0_size_0 rfl (lv_at hl 0 rfl) ?_
  refine va_get (D := (dC, dI)) (ci := 1) (v := .int (nI h)) (C := RX0) (T := TX0) (N := 3) hx hb hts (by decide +kernel) hown hK hP 0 rfl rfl 2 (by decide) (hts (.fieldLink RX0 25 "RelativeFiles$Shelf" "held" "I") (by decide +kernel)) (fun _ h9 => h9) rfl dX0_size_1 ?_
  subst hQ9
  exact W.iret (v := nI h) hx hb hr (fun t ht hW => ⟨⟨nI h, (), rfl, rfl, by rw [ht]; exact hP, va_K.moved hW.alike hK, hD⟩, hS.F ht⟩) hS.2.2 dX0_size_4

set_option maxHeartbeats 1000000 in
set_option maxRecDepth 100000 in
theorem kX0_clear (l : Launch) (dC : Nat → ClassId) (dI : Nat → Nat → Nat) (oS oA oB : Nat) (cA cB : ClassId) (n h : Nat) (P : Nat → Int32) (V : Nat → Int64) (sz : Nat) (hh : h ≤ n) (hn : n ≤ 512) : Met l yX0_clear wsX0_clear ({ frames := 0, cells := 0, slots := 0, locals := 0 }) (va_Pc [.ref oS] (fun U => U.heap.size = sz ∧ va_P (dC, dI) vwCl [(oS, .inr (1, [.ref oA, .ref oB, .int (nI h)])), (oA, .inl (cA, n, .inl P)), (oB, .inl (cB, n, .inr (.inl V)))] U.heap ∧ va_K (dC, dI) vwCl [(cA, .int), (cB, .long)] U ∧ va_D (fun _ => True) [(oS, .inr (1, [.ref oA, .ref oB, .int (nI h)])), (oA, .inl (cA, n, .inl P)), (oB, .inl (cB, n, .inr (.inl V)))])) (va_Qv (fun (_ : Unit) => True) (fun (_ : Unit) (t : State) => va_P (dC, dI) vwCl [(oS, .inr (1, [.ref oA, .ref oB, .int (nI 0)])), (oA, .inl (cA, n, .inl P)), (oB, .inl (cB, n, .inr (.inl V)))] t.heap ∧ va_K (dC, dI) vwCl [(cA, .int), (cB, .long)] t ∧ va_D (va_A [(oS, .inr (1, [.ref oA, .ref oB, .int (nI h)])), (oA, .inl (cA, n, .inl P)), (oB, .inl (cB, n, .inr (.inl V)))] sz) [(oS, .inr (1, [.ref oA, .ref oB, .int (nI 0)])), (oA, .inl (cA, n, .inl P)), (oB, .inl (cB, n, .inr (.inl V)))]) (va_A [(oS, .inr (1, [.ref oA, .ref oB, .int (nI h)])), (oA, .inl (cA, n, .inl P)), (oB, .inl (cB, n, .inr (.inl V)))] sz)) 0 0 (va_A [(oS, .inr (1, [.ref oA, .ref oB, .int (nI h)])), (oA, .inl (cA, n, .inl P)), (oB, .inl (cB, n, .inr (.inl V)))] sz) := by
  refine Met.ofW (cc := cX0_clear) (maxL := 1) (ret := none) (by decide) rfl ?_
  intro p e s m args below meth c s₁ B hml hv
  obtain ⟨rfl, hsz, hP, hK, hD0⟩ := hv
  have hx := B.exec
  have hb := B.bytes
  have hr := B.returns
  have hts := atoms_spec (ws := wsX0_clear) B.pre
  have hown : s.vm.findClass RX0 = some m.cls := findClass_of_methodNamed B.named
  have hlocks := B.notSynchronized
  subst hsz
  have hD := hD0.self (sz := s.heap.size)
  generalize hAe : va_A [(oS, .inr (1, [.ref oA, .ref oB, .int (nI h)])), (oA, .inl (cA, n, .inl P)), (oB, .inl (cB, n, .inr (.inl V)))] s.heap.size = A at hD ⊢
  have hA : ∀ q : Nat, s.heap.size ≤ q → A q := fun q h => by rw [← hAe]; exact Or.inr h
  have hS : va_S A s.heap s.heap [] := va_S.rf
  have hP : va_P (dC, dI) vwCl [(oS, .inr (1, [.ref oA, .ref oB, .int (nI h)])), (oA, .inl (cA, n, .inl P)), (oB, .inl (cB, n, .inr (.inl V)))] s.heap := hP
  have hl := lv_entry ([.ref oS]) (n := 1) (Nat.le_of_ble_eq_true rfl)
  rw [lg_entry_eq]
  generalize (lg_sl ([.ref oS]) ++ List.replicate (1 - (lg_sl ([.ref oS])).length) Slot.unset).toArray = ls at hl ⊢
  have hl : lv_has ls 1 [(0, .ref oS)] := hl
  refine W_name (fun Q hQ9 => ?_)
  refine lv_aload_n hx hb dX0_clear_0 rfl (lv_at hl 0 rfl) ?_
  refine lv_iconst (v := 0) hx hb dX0_clear_1 (by decide) ?_
  refine va_put (D := (dC, dI)) (ci := 1) (v := .int 0) (ty := .int) (C := RX0) (T := TX0) (N := 3) hx hb hts (by decide +kernel) tyX0 tyX0_ok nmX0 hown hK hP hD hS 0 rfl rfl 2 (by decide) (hts (.fieldLink RX0 25 "RelativeFiles$Shelf" "held" "I") (by decide +kernel)) (fun _ h9 => h9) rfl (by decide +kernel) rfl rfl (Nat.le_of_ble_eq_true rfl) dX0_clear_2 (fun H locs hP hD hS => ?_)
  have hP : va_P (dC, dI) vwCl [(oS, .inr (1, [.ref oA, .ref oB, .int 0])), (oA, .inl (cA, n, .inl P)), (oB, .inl (cB, n, .inr (.inl V)))] H := hP
  have hD : va_D A [(oS, .inr (1, [.ref oA, .ref oB, .int 0])), (oA, .inl (cA, n, .inl P)), (oB, .inl (cB, n, .inr (.inl V)))] := hD
  subst hQ9
  exact W.vret hx hb hr (fun t ht hW => ⟨⟨(), rfl, trivial, by rw [ht]; exact hP, va_K.moved hW.alike hK, hD⟩, hS.F ht⟩) hS.2.2 dX0_clear_5

set_option maxHeartbeats 1000000 in
set_option maxRecDepth 100000 in
theorem kX0_has (l : Launch) (dC : Nat → ClassId) (dI : Nat → Nat → Nat) (oS oA oB : Nat) (cA cB : ClassId) (n h : Nat) (P : Nat → Int32) (V : Nat → Int64) (p0 : Int32) (sz : Nat) (hh : h ≤ n) (hn : n ≤ 512) : Met l yX0_has wsX0_has ({ frames := 1, cells := 0, slots := 0, locals := 22 }) (va_Pc [.ref oS, .int p0] (fun U => U.heap.size = sz ∧ va_P (dC, dI) vwCl [(oS, .inr (1, [.ref oA, .ref oB, .int (nI h)])), (oA, .inl (cA, n, .inl P)), (oB, .inl (cB, n, .inr (.inl V)))] U.heap ∧ va_K (dC, dI) vwCl [(cA, .int), (cB, .long)] U ∧ va_D (fun _ => True) [(oS, .inr (1, [.ref oA, .ref oB, .int (nI h)])), (oA, .inl (cA, n, .inl P)), (oB, .inl (cB, n, .inr (.inl V)))])) (va_Qi (fun (r : Int32) (_ : Unit) => (hasS P h p0 ∧ r = 1) ∨ (¬ (hasS P h p0) ∧ r = 0)) (fun (_ : Unit) (t : State) => va_P (dC, dI) vwCl [(oS, .inr (1, [.ref oA, .ref oB, .int (nI h)])), (oA, .inl (cA, n, .inl P)), (oB, .inl (cB, n, .inr (.inl V)))] t.heap ∧ va_K (dC, dI) vwCl [(cA, .int), (cB, .long)] t ∧ va_D (va_A [(oS, .inr (1, [.ref oA, .ref oB, .int (nI h)])), (oA, .inl (cA, n, .inl P)), (oB, .inl (cB, n, .inr (.inl V)))] sz) [(oS, .inr (1, [.ref oA, .ref oB, .int (nI h)])), (oA, .inl (cA, n, .inl P)), (oB, .inl (cB, n, .inr (.inl V)))]) (va_A [(oS, .inr (1, [.ref oA, .ref oB, .int (nI h)])), (oA, .inl (cA, n, .inl P)), (oB, .inl (cB, n, .inr (.inl V)))] sz)) 0 0 (va_A [(oS, .inr (1, [.ref oA, .ref oB, .int (nI h)])), (oA, .inl (cA, n, .inl P)), (oB, .inl (cB, n, .inr (.inl V)))] sz) := by
  refine Met.ofW (cc := cX0_has) (maxL := 2) (ret := (some .boolean)) (by decide) rfl ?_
  intro p e s m args below meth c s₁ B hml hv
  obtain ⟨rfl, hsz, hP, hK, hD0⟩ := hv
  have hx := B.exec
  have hb := B.bytes
  have hr := B.returns
  have hts := atoms_spec (ws := wsX0_has) B.pre
  have hown : s.vm.findClass RX0 = some m.cls := findClass_of_methodNamed B.named
  have hlocks := B.notSynchronized
  subst hsz
  have hD := hD0.self (sz := s.heap.size)
  generalize hAe : va_A [(oS, .inr (1, [.ref oA, .ref oB, .int (nI h)])), (oA, .inl (cA, n, .inl P)), (oB, .inl (cB, n, .inr (.inl V)))] s.heap.size = A at hD ⊢
  have hA : ∀ q : Nat, s.heap.size ≤ q → A q := fun q h => by rw [← hAe]; exact Or.inr h
  have hS : va_S A s.heap s.heap [] := va_S.rf
  have hP : va_P (dC, dI) vwCl [(oS, .inr (1, [.ref oA, .ref oB, .int (nI h)])), (oA, .inl (cA, n, .inl P)), (oB, .inl (cB, n, .inr (.inl V)))] s.heap := hP
  have hl := lv_entry ([.ref oS, .int p0]) (n := 2) (Nat.le_of_ble_eq_true rfl)
  rw [lg_entry_eq]
  generalize (lg_sl ([.ref oS, .int p0]) ++ List.replicate (2 - (lg_sl ([.ref oS, .int p0])).length) Slot.unset).toArray = ls at hl ⊢
  have hl : lv_has ls 2 [(0, .ref oS), (1, .int p0)] := hl
  refine W_name (fun Q hQ9 => ?_)
  refine lv_aload_n hx hb dX0_has_0 rfl (lv_at hl 0 rfl) ?_
  refine lv_aload_n hx hb dX0_has_1 rfl (lv_at hl 0 rfl) ?_
  refine lv_iload_n hx hb dX0_has_2 rfl (lv_at hl 1 rfl) ?_
  have hPc := hP.sub (ws' := [(oS, .inr (1, [.ref oA, .ref oB, .int (nI h)])), (oA, .inl (cA, n, .inl P)), (oB, .inl (cB, n, .inr (.inl V)))]) [0, 1, 2] rfl
  have hDc := hD.sub (ws' := [(oS, .inr (1, [.ref oA, .ref oB, .int (nI h)])), (oA, .inl (cA, n, .inl P)), (oB, .inl (cB, n, .inr (.inl V)))]) [0, 1, 2] (by decide) rfl
  have hKc := hK.sub (tys' := [(cA, .int), (cB, .long)]) [0, 1] rfl
  have hFc := va_free (wc := [(oS, .inr (1, [.ref oA, .ref oB, .int (nI h)])), (oA, .inl (cA, n, .inl P)), (oB, .inl (cB, n, .inr (.inl V)))]) hD hS hA [0, 1, 2] rfl
  refine va_calli (va_runV (As := [.int p0]) (rest := [.ref oS]) ⟨hx, hb, hml, hown, hts⟩ (kX0_rank l dC dI oS oA oB cA cB n h P V p0 s.heap.size hh hn) (cwV 1 hts gX0_has_X0_rank rfl rfl rfl (by decide +kernel) ⟨Nat.le_of_ble_eq_true rfl, Nat.le_of_ble_eq_true rfl⟩) ⟨fun a U g mk q => by obtain ⟨q0, q1, qP, qK, qD⟩ := q; exact ⟨q0, q1, qP, va_K.moved (u := U) (U := U.calling g mk a) (Vm.Alike.refl U.vm) qK, qD⟩, va_recv hKc hPc (ci := 1) (q0 := 0) rfl rfl, fun U hU hW => ⟨rfl, by rw [hU], by rw [hU]; exact hPc, va_K.moved hW.alike hKc, hDc.weaken (fun _ _ _ _ => trivial)⟩⟩ rfl rfl hl.1 rfl (lv_room (Nat.le_of_ble_eq_true rfl)) dX0_has_3 ⟨Nat.le_of_ble_eq_true rfl, Nat.le_of_ble_eq_true rfl⟩) hS (fun q _ h => hFc q h) hFc (fun r_1 u t H1 locs ht hvm hw hB hz1 hk1 hS => ?_)
  obtain ⟨hP1, hK1, hD1⟩ := hB
  rw [ht] at hP1
  have hK1 := va_K.moved hvm.symm hK1
  try dsimp only at hw
  obtain ⟨hP, hD⟩ := va_join (wr := []) (w1 := [(oS, .inr (1, [.ref oA, .ref oB, .int (nI h)])), (oA, .inl (cA, n, .inl P)), (oB, .inl (cB, n, .inr (.inl V)))]) hP hD [0, 1, 2] [] rfl rfl (by decide) (by decide) hk1 hFc hP1 hD1
  generalize H1 = H at hP hS ⊢
  have hP : va_P (dC, dI) vwCl [(oS, .inr (1, [.ref oA, .ref oB, .int (nI h)])), (oA, .inl (cA, n, .inl P)), (oB, .inl (cB, n, .inr (.inl V)))] H := hP.sub [0, 1, 2] rfl
  have hD : va_D A [(oS, .inr (1, [.ref oA, .ref oB, .int (nI h)])), (oA, .inl (cA, n, .inl P)), (oB, .inl (cB, n, .inr (.inl V)))] := hD.sub [0, 1, 2] (by decide) rfl
  have hK : va_K (dC, dI) vwCl [(cA, .int), (cB, .long)] s := hK
  subst hw
  refine lv_iload_n hx hb dX0_has_6 rfl (lv_at hl 1 rfl) ?_
  have hPc := hP.sub (ws' := [(oS, .inr (1, [.ref oA, .ref oB, .int (nI h)])), (oA, .inl (cA, n, .inl P)), (oB, .inl (cB, n, .inr (.inl V)))]) [0, 1, 2] rfl
  have hDc := hD.sub (ws' := [(oS, .inr (1, [.ref oA, .ref oB, .int (nI h)])), (oA, .inl (cA, n, .inl P)), (oB, .inl (cB, n, .inr (.inl V)))]) [0, 1, 2] (by decide) rfl
  have hKc := hK.sub (tys' := [(cA, .int), (cB, .long)]) [0, 1] rfl
  have hFc := va_free (wc := [(oS, .inr (1, [.ref oA, .ref oB, .int (nI h)])), (oA, .inl (cA, n, .inl P)), (oB, .inl (cB, n, .inr (.inl V)))]) hD hS hA [0, 1, 2] rfl
  refine va_calli (va_runV (As := [.int (nI (rk P p0 h)), .int p0]) (rest := []) ⟨hx, hb, hml, hown, hts⟩ (kX0_isAt l dC dI oS oA oB cA cB n h P V (rk P p0 h) p0 H.size hh hn (by first | omega | exact rk_le _ _ _)) (cwV 2 hts gX0_has_X0_isAt rfl rfl rfl (by decide +kernel) ⟨Nat.le_of_ble_eq_true rfl, Nat.le_of_ble_eq_true rfl⟩) ⟨fun a U g mk q => by obtain ⟨q0, q1, qP, qK, qD⟩ := q; exact ⟨q0, q1, qP, va_K.moved (u := U) (U := U.calling g mk a) (Vm.Alike.refl U.vm) qK, qD⟩, va_recv hKc hPc (ci := 1) (q0 := 0) rfl rfl, fun U hU hW => ⟨rfl, by rw [hU], by rw [hU]; exact hPc, va_K.moved hW.alike hKc, hDc.weaken (fun _ _ _ _ => trivial)⟩⟩ rfl rfl hl.1 rfl (lv_room (Nat.le_of_ble_eq_true rfl)) dX0_has_7 ⟨Nat.le_of_ble_eq_true rfl, Nat.le_of_ble_eq_true rfl⟩) hS (fun q _ h => hFc q h) hFc (fun r_2 u t H1 locs ht hvm hw hB hz1 hk1 hS => ?_)
  obtain ⟨hP1, hK1, hD1⟩ := hB
  rw [ht] at hP1
  have hK1 := va_K.moved hvm.symm hK1
  try dsimp only at hw
  obtain ⟨hP, hD⟩ := va_join (wr := []) (w1 := [(oS, .inr (1, [.ref oA, .ref oB, .int (nI h)])), (oA, .inl (cA, n, .inl P)), (oB, .inl (cB, n, .inr (.inl V)))]) hP hD [0, 1, 2] [] rfl rfl (by decide) (by decide) hk1 hFc hP1 hD1
  generalize H1 = H at hP hS ⊢
  have hP : va_P (dC, dI) vwCl [(oS, .inr (1, [.ref oA, .ref oB, .int (nI h)])), (oA, .inl (cA, n, .inl P)), (oB, .inl (cB, n, .inr (.inl V)))] H := hP.sub [0, 1, 2] rfl
  have hD : va_D A [(oS, .inr (1, [.ref oA, .ref oB, .int (nI h)])), (oA, .inl (cA, n, .inl P)), (oB, .inl (cB, n, .inr (.inl V)))] := hD.sub [0, 1, 2] (by decide) rfl
  have hK : va_K (dC, dI) vwCl [(cA, .int), (cB, .long)] s := hK
  rcases hw with ⟨b_3, hw⟩ | ⟨b_3, hw⟩
  · -- (rk P p0 h) < h ∧ P (rk P p0 h) = p0
    subst hw
    subst hQ9
    exact W.zret (ty := .boolean) (v := 1) hx hb hr (by decide) (fun t ht hW => ⟨⟨1, (), rfl, Or.inl ⟨b_3, rfl⟩, by rw [ht]; exact hP, va_K.moved hW.alike hK, hD⟩, hS.F ht⟩) hS.2.2 dX0_has_10
  · -- ¬ ((rk P p0 h) < h ∧ P (rk P p0 h) = p0)
    subst hw
    subst hQ9
    exact W.zret (ty := .boolean) (v := 0) hx hb hr (by decide) (fun t ht hW => ⟨⟨0, (), rfl, Or.inr ⟨b_3, rfl⟩, by rw [ht]; exact hP, va_K.moved hW.alike hK, hD⟩, hS.F ht⟩) hS.2.2 dX0_has_10

set_option maxHeartbeats 1000000 in
set_option maxRecDepth 100000 in
theorem kX0_recordOf (l : Launch) (dC : Nat → ClassId) (dI : Nat → Nat → Nat) (oS oA oB : Nat) (cA cB : ClassId) (n h : Nat) (P : Nat → Int32) (V : Nat → Int64) (p0 : Int32) (sz : Nat) (hh : h ≤ n) (hn : n ≤ 512) : Met l yX0_recordOf wsX0_recordOf ({ frames := 1, cells := 0, slots := 0, locals := 22 }) (va_Pc [.ref oS, .int p0] (fun U => U.heap.size = sz ∧ va_P (dC, dI) vwCl [(oS, .inr (1, [.ref oA, .ref oB, .int (nI h)])), (oA, .inl (cA, n, .inl P)), (oB, .inl (cB, n, .inr (.inl V)))] U.heap ∧ va_K (dC, dI) vwCl [(cA, .int), (cB, .long)] U ∧ va_D (fun _ => True) [(oS, .inr (1, [.ref oA, .ref oB, .int (nI h)])), (oA, .inl (cA, n, .inl P)), (oB, .inl (cB, n, .inr (.inl V)))])) (va_Ql (fun (r : Int64) (_ : Unit) => r = fRec P V h p0) (fun (_ : Unit) (t : State) => va_P (dC, dI) vwCl [(oS, .inr (1, [.ref oA, .ref oB, .int (nI h)])), (oA, .inl (cA, n, .inl P)), (oB, .inl (cB, n, .inr (.inl V)))] t.heap ∧ va_K (dC, dI) vwCl [(cA, .int), (cB, .long)] t ∧ va_D (va_A [(oS, .inr (1, [.ref oA, .ref oB, .int (nI h)])), (oA, .inl (cA, n, .inl P)), (oB, .inl (cB, n, .inr (.inl V)))] sz) [(oS, .inr (1, [.ref oA, .ref oB, .int (nI h)])), (oA, .inl (cA, n, .inl P)), (oB, .inl (cB, n, .inr (.inl V)))]) (va_A [(oS, .inr (1, [.ref oA, .ref oB, .int (nI h)])), (oA, .inl (cA, n, .inl P)), (oB, .inl (cB, n, .inr (.inl V)))] sz)) 0 0 (va_A [(oS, .inr (1, [.ref oA, .ref oB, .int (nI h)])), (oA, .inl (cA, n, .inl P)), (oB, .inl (cB, n, .inr (.inl V)))] sz) := by
  refine Met.ofW (cc := cX0_recordOf) (maxL := 3) (ret := (some .long)) (by decide) rfl ?_
  intro p e s m args below meth c s₁ B hml hv
  obtain ⟨rfl, hsz, hP, hK, hD0⟩ := hv
  have hx := B.exec
  have hb := B.bytes
  have hr := B.returns
  have hts := atoms_spec (ws := wsX0_recordOf) B.pre
  have hown : s.vm.findClass RX0 = some m.cls := findClass_of_methodNamed B.named
  have hlocks := B.notSynchronized
  subst hsz
  have hD := hD0.self (sz := s.heap.size)
  generalize hAe : va_A [(oS, .inr (1, [.ref oA, .ref oB, .int (nI h)])), (oA, .inl (cA, n, .inl P)), (oB, .inl (cB, n, .inr (.inl V)))] s.heap.size = A at hD ⊢
  have hA : ∀ q : Nat, s.heap.size ≤ q → A q := fun q h => by rw [← hAe]; exact Or.inr h
  have hS : va_S A s.heap s.heap [] := va_S.rf
  have hP : va_P (dC, dI) vwCl [(oS, .inr (1, [.ref oA, .ref oB, .int (nI h)])), (oA, .inl (cA, n, .inl P)), (oB, .inl (cB, n, .inr (.inl V)))] s.heap := hP
  have hl := lv_entry ([.ref oS, .int p0]) (n := 3) (Nat.le_of_ble_eq_true rfl)
  rw [lg_entry_eq]
  generalize (lg_sl ([.ref oS, .int p0]) ++ List.replicate (3 - (lg_sl ([.ref oS, .int p0])).length) Slot.unset).toArray = ls at hl ⊢
  have hl : lv_has ls 3 [(0, .ref oS), (1, .int p0)] := hl
  refine W_name (fun Q hQ9 => ?_)
  refine lv_aload_n hx hb dX0_recordOf_0 rfl (lv_at hl 0 rfl) ?_
  refine lv_iload_n hx hb dX0_recordOf_1 rfl (lv_at hl 1 rfl) ?_
  have hPc := hP.sub (ws' := [(oS, .inr (1, [.ref oA, .ref oB, .int (nI h)])), (oA, .inl (cA, n, .inl P)), (oB, .inl (cB, n, .inr (.inl V)))]) [0, 1, 2] rfl
  have hDc := hD.sub (ws' := [(oS, .inr (1, [.ref oA, .ref oB, .int (nI h)])), (oA, .inl (cA, n, .inl P)), (oB, .inl (cB, n, .inr (.inl V)))]) [0, 1, 2] (by decide) rfl
  have hKc := hK.sub (tys' := [(cA, .int), (cB, .long)]) [0, 1] rfl
  have hFc := va_free (wc := [(oS, .inr (1, [.ref oA, .ref oB, .int (nI h)])), (oA, .inl (cA, n, .inl P)), (oB, .inl (cB, n, .inr (.inl V)))]) hD hS hA [0, 1, 2] rfl
  refine va_calli (va_runV (As := [.int p0]) (rest := []) ⟨hx, hb, hml, hown, hts⟩ (kX0_rank l dC dI oS oA oB cA cB n h P V p0 s.heap.size hh hn) (cwV 1 hts gX0_recordOf_X0_rank rfl rfl rfl (by decide +kernel) ⟨Nat.le_of_ble_eq_true rfl, Nat.le_of_ble_eq_true rfl⟩) ⟨fun a U g mk q => by obtain ⟨q0, q1, qP, qK, qD⟩ := q; exact ⟨q0, q1, qP, va_K.moved (u := U) (U := U.calling g mk a) (Vm.Alike.refl U.vm) qK, qD⟩, va_recv hKc hPc (ci := 1) (q0 := 0) rfl rfl, fun U hU hW => ⟨rfl, by rw [hU], by rw [hU]; exact hPc, va_K.moved hW.alike hKc, hDc.weaken (fun _ _ _ _ => trivial)⟩⟩ rfl rfl hl.1 rfl (lv_room (Nat.le_of_ble_eq_true rfl)) dX0_recordOf_2 ⟨Nat.le_of_ble_eq_true rfl, Nat.le_of_ble_eq_true rfl⟩) hS (fun q _ h => hFc q h) hFc (fun r_1 u t H1 locs ht hvm hw hB hz1 hk1 hS => ?_)
  obtain ⟨hP1, hK1, hD1⟩ := hB
  rw [ht] at hP1
  have hK1 := va_K.moved hvm.symm hK1
  try dsimp only at hw
  obtain ⟨hP, hD⟩ := va_join (wr := []) (w1 := [(oS, .inr (1, [.ref oA, .ref oB, .int (nI h)])), (oA, .inl (cA, n, .inl P)), (oB, .inl (cB, n, .inr (.inl V)))]) hP hD [0, 1, 2] [] rfl rfl (by decide) (by decide) hk1 hFc hP1 hD1
  generalize H1 = H at hP hS ⊢
  have hP : va_P (dC, dI) vwCl [(oS, .inr (1, [.ref oA, .ref oB, .int (nI h)])), (oA, .inl (cA, n, .inl P)), (oB, .inl (cB, n, .inr (.inl V)))] H := hP.sub [0, 1, 2] rfl
  have hD : va_D A [(oS, .inr (1, [.ref oA, .ref oB, .int (nI h)])), (oA, .inl (cA, n, .inl P)), (oB, .inl (cB, n, .inr (.inl V)))] := hD.sub [0, 1, 2] (by decide) rfl
  have hK : va_K (dC, dI) vwCl [(cA, .int), (cB, .long)] s := hK
  subst hw
  refine lv_istore_n (lv' := [(2, .int (nI (rk P p0 h))), (0, .ref oS), (1, .int p0)]) hx hb dX0_recordOf_5 rfl hl (by decide) rfl (fun ls hl => ?_)
  refine lv_aload_n hx hb dX0_recordOf_6 rfl (lv_at hl 1 rfl) ?_
  refine lv_iload_n hx hb dX0_recordOf_7 rfl (lv_at hl 0 rfl) ?_
  refine lv_iload_n hx hb dX0_recordOf_8 rfl (lv_at hl 2 rfl) ?_
  have hPc := hP.sub (ws' := [(oS, .inr (1, [.ref oA, .ref oB, .int (nI h)])), (oA, .inl (cA, n, .inl P)), (oB, .inl (cB, n, .inr (.inl V)))]) [0, 1, 2] rfl
  have hDc := hD.sub (ws' := [(oS, .inr (1, [.ref oA, .ref oB, .int (nI h)])), (oA, .inl (cA, n, .inl P)), (oB, .inl (cB, n, .inr (.inl V)))]) [0, 1, 2] (by decide) rfl
  have hKc := hK.sub (tys' := [(cA, .int), (cB, .long)]) [0, 1] rfl
  have hFc := va_free (wc := [(oS, .inr (1, [.ref oA, .ref oB, .int (nI h)])), (oA, .inl (cA, n, .inl P)), (oB, .inl (cB, n, .inr (.inl V)))]) hD hS hA [0, 1, 2] rfl
  refine va_calli (va_runV (As := [.int (nI (rk P p0 h)), .int p0]) (rest := []) ⟨hx, hb, hml, hown, hts⟩ (kX0_isAt l dC dI oS oA oB cA cB n h P V (rk P p0 h) p0 H.size hh hn (by first | omega | exact rk_le _ _ _)) (cwV 2 hts gX0_recordOf_X0_isAt rfl rfl rfl (by decide +kernel) ⟨Nat.le_of_ble_eq_true rfl, Nat.le_of_ble_eq_true rfl⟩) ⟨fun a U g mk q => by obtain ⟨q0, q1, qP, qK, qD⟩ := q; exact ⟨q0, q1, qP, va_K.moved (u := U) (U := U.calling g mk a) (Vm.Alike.refl U.vm) qK, qD⟩, va_recv hKc hPc (ci := 1) (q0 := 0) rfl rfl, fun U hU hW => ⟨rfl, by rw [hU], by rw [hU]; exact hPc, va_K.moved hW.alike hKc, hDc.weaken (fun _ _ _ _ => trivial)⟩⟩ rfl rfl hl.1 rfl (lv_room (Nat.le_of_ble_eq_true rfl)) dX0_recordOf_9 ⟨Nat.le_of_ble_eq_true rfl, Nat.le_of_ble_eq_true rfl⟩) hS (fun q _ h => hFc q h) hFc (fun r_2 u t H1 locs ht hvm hw hB hz1 hk1 hS => ?_)
  obtain ⟨hP1, hK1, hD1⟩ := hB
  rw [ht] at hP1
  have hK1 := va_K.moved hvm.symm hK1
  try dsimp only at hw
  obtain ⟨hP, hD⟩ := va_join (wr := []) (w1 := [(oS, .inr (1, [.ref oA, .ref oB, .int (nI h)])), (oA, .inl (cA, n, .inl P)), (oB, .inl (cB, n, .inr (.inl V)))]) hP hD [0, 1, 2] [] rfl rfl (by decide) (by decide) hk1 hFc hP1 hD1
  generalize H1 = H at hP hS ⊢
  have hP : va_P (dC, dI) vwCl [(oS, .inr (1, [.ref oA, .ref oB, .int (nI h)])), (oA, .inl (cA, n, .inl P)), (oB, .inl (cB, n, .inr (.inl V)))] H := hP.sub [0, 1, 2] rfl
  have hD : va_D A [(oS, .inr (1, [.ref oA, .ref oB, .int (nI h)])), (oA, .inl (cA, n, .inl P)), (oB, .inl (cB, n, .inr (.inl V)))] := hD.sub [0, 1, 2] (by decide) rfl
  have hK : va_K (dC, dI) vwCl [(cA, .int), (cB, .long)] s := hK
  rcases hw with ⟨b_3, hw⟩ | ⟨b_3, hw⟩
  · -- (rk P p0 h) < h ∧ P (rk P p0 h) = p0
    subst hw
    refine lv_if_eq (tgt := 24) hx hb dX0_recordOf_12 (by decide) (fun c_4 => ?_) (fun c_4 => ?_)
    · -- taken at 12: 1 = 0
      exact absurd c_4 (by decide)
    · -- not taken at 12: ¬ 1 = 0
      refine lv_aload_n hx hb dX0_recordOf_15 rfl (lv_at hl 1 rfl) ?_
      refine va_get (D := (dC, dI)) (ci := 1) (v := .ref oB) (C := RX0) (T := TX0) (N := 3) hx hb hts (by decide +kernel) hown hK hP 0 rfl rfl 1 (by decide) (hts (.fieldLink RX0 21 "RelativeFiles$Shelf" "values" "[J") (by decide +kernel)) (fun _ h9 => h9) rfl dX0_recordOf_16 ?_
      refine lv_iload_n hx hb dX0_recordOf_19 rfl (lv_at hl 0 rfl) ?_
      refine va_lald hx hb hK hP 2 1 rfl rfl (vp_in_nI (by have := b_3.1; omega) (by omega)) dX0_recordOf_20 ?_
      rw [show V ((nI (rk P p0 h)).toNatClampNeg) = V (rk P p0 h) from by rw [nI_clamp (by have := rk_le P p0 h; omega)]]
      refine lv_goto (tgt := 25) hx hb dX0_recordOf_21 (by decide) ?_
      subst hQ9
      have e9 : fRec P V h p0 = V (rk P p0 h) := by simp only [fRec, if_pos b_3]
      rw [e9]
      exact W.lret (v := V (rk P p0 h)) hx hb hr (fun t ht hW => ⟨⟨V (rk P p0 h), (), rfl, rfl, by rw [ht]; exact hP, va_K.moved hW.alike hK, hD⟩, hS.F ht⟩) hS.2.2 dX0_recordOf_25
  · -- ¬ ((rk P p0 h) < h ∧ P (rk P p0 h) = p0)
    subst hw
    refine lv_if_eq (tgt := 24) hx hb dX0_recordOf_12 (by decide) (fun c_5 => ?_) (fun c_5 => ?_)
    · -- taken at 12: 0 = 0
      refine lv_lconst (v := 0) hx hb dX0_recordOf_24 (by decide) ?_
      subst hQ9
      have e9 : fRec P V h p0 = 0 := by simp only [fRec, if_neg b_3]
      rw [e9]
      exact W.lret (v := 0) hx hb hr (fun t ht hW => ⟨⟨0, (), rfl, rfl, by rw [ht]; exact hP, va_K.moved hW.alike hK, hD⟩, hS.F ht⟩) hS.2.2 dX0_recordOf_25
    · -- not taken at 12: ¬ 0 = 0
      exact absurd c_5 (by decide)

set_option maxHeartbeats 1000000 in
set_option maxRecDepth 100000 in
theorem kX0_least (l : Launch) (dC : Nat → ClassId) (dI : Nat → Nat → Nat) (oS oA oB : Nat) (cA cB : ClassId) (n h : Nat) (P : Nat → Int32) (V : Nat → Int64) (sz : Nat) (hh : h ≤ n) (hn : n ≤ 512) : Met l yX0_least wsX0_least ({ frames := 1, cells := 0, slots := 0, locals := 21 }) (va_Pc [.ref oS] (fun U => U.heap.size = sz ∧ va_P (dC, dI) vwCl [(oS, .inr (1, [.ref oA, .ref oB, .int (nI h)])), (oA, .inl (cA, n, .inl P)), (oB, .inl (cB, n, .inr (.inl V)))] U.heap ∧ va_K (dC, dI) vwCl [(cA, .int), (cB, .long)] U ∧ va_D (fun _ => True) [(oS, .inr (1, [.ref oA, .ref oB, .int (nI h)])), (oA, .inl (cA, n, .inl P)), (oB, .inl (cB, n, .inr (.inl V)))])) (va_Qi (fun (r : Int32) (_ : Unit) => r = fLe P h) (fun (_ : Unit) (t : State) => va_P (dC, dI) vwCl [(oS, .inr (1, [.ref oA, .ref oB, .int (nI h)])), (oA, .inl (cA, n, .inl P)), (oB, .inl (cB, n, .inr (.inl V)))] t.heap ∧ va_K (dC, dI) vwCl [(cA, .int), (cB, .long)] t ∧ va_D (va_A [(oS, .inr (1, [.ref oA, .ref oB, .int (nI h)])), (oA, .inl (cA, n, .inl P)), (oB, .inl (cB, n, .inr (.inl V)))] sz) [(oS, .inr (1, [.ref oA, .ref oB, .int (nI h)])), (oA, .inl (cA, n, .inl P)), (oB, .inl (cB, n, .inr (.inl V)))]) (va_A [(oS, .inr (1, [.ref oA, .ref oB, .int (nI h)])), (oA, .inl (cA, n, .inl P)), (oB, .inl (cB, n, .inr (.inl V)))] sz)) 0 0 (va_A [(oS, .inr (1, [.ref oA, .ref oB, .int (nI h)])), (oA, .inl (cA, n, .inl P)), (oB, .inl (cB, n, .inr (.inl V)))] sz) := by
  refine Met.ofW (cc := cX0_least) (maxL := 1) (ret := (some .int)) (by decide) rfl ?_
  intro p e s m args below meth c s₁ B hml hv
  obtain ⟨rfl, hsz, hP, hK, hD0⟩ := hv
  have hx := B.exec
  have hb := B.bytes
  have hr := B.returns
  have hts := atoms_spec (ws := wsX0_least) B.pre
  have hown : s.vm.findClass RX0 = some m.cls := findClass_of_methodNamed B.named
  have hlocks := B.notSynchronized
  subst hsz
  have hD := hD0.self (sz := s.heap.size)
  generalize hAe : va_A [(oS, .inr (1, [.ref oA, .ref oB, .int (nI h)])), (oA, .inl (cA, n, .inl P)), (oB, .inl (cB, n, .inr (.inl V)))] s.heap.size = A at hD ⊢
  have hA : ∀ q : Nat, s.heap.size ≤ q → A q := fun q h => by rw [← hAe]; exact Or.inr h
  have hS : va_S A s.heap s.heap [] := va_S.rf
  have hP : va_P (dC, dI) vwCl [(oS, .inr (1, [.ref oA, .ref oB, .int (nI h)])), (oA, .inl (cA, n, .inl P)), (oB, .inl (cB, n, .inr (.inl V)))] s.heap := hP
  have hl := lv_entry ([.ref oS]) (n := 1) (Nat.le_of_ble_eq_true rfl)
  rw [lg_entry_eq]
  generalize (lg_sl ([.ref oS]) ++ List.replicate (1 - (lg_sl ([.ref oS])).length) Slot.unset).toArray = ls at hl ⊢
  have hl : lv_has ls 1 [(0, .ref oS)] := hl
  refine W_name (fun Q hQ9 => ?_)
  refine lv_aload_n hx hb dX0_least_0 rfl (lv_at hl 0 rfl) ?_
  refine lv_iconst (v := 0) hx hb dX0_least_1 (by decide) ?_
  have hPc := hP.sub (ws' := [(oS, .inr (1, [.ref oA, .ref oB, .int (nI h)])), (oA, .inl (cA, n, .inl P)), (oB, .inl (cB, n, .inr (.inl V)))]) [0, 1, 2] rfl
  have hDc := hD.sub (ws' := [(oS, .inr (1, [.ref oA, .ref oB, .int (nI h)])), (oA, .inl (cA, n, .inl P)), (oB, .inl (cB, n, .inr (.inl V)))]) [0, 1, 2] (by decide) rfl
  have hKc := hK.sub (tys' := [(cA, .int), (cB, .long)]) [0, 1] rfl
  have hFc := va_free (wc := [(oS, .inr (1, [.ref oA, .ref oB, .int (nI h)])), (oA, .inl (cA, n, .inl P)), (oB, .inl (cB, n, .inr (.inl V)))]) hD hS hA [0, 1, 2] rfl
  refine va_calli (va_runV (As := [.int 0]) (rest := []) ⟨hx, hb, hml, hown, hts⟩ (kX0_placeAt l dC dI oS oA oB cA cB n h P V 0 s.heap.size hh hn) (cwV 1 hts gX0_least_X0_placeAt rfl rfl rfl (by decide +kernel) ⟨Nat.le_of_ble_eq_true rfl, Nat.le_of_ble_eq_true rfl⟩) ⟨fun a U g mk q => by obtain ⟨q0, q1, qP, qK, qD⟩ := q; exact ⟨q0, q1, qP, va_K.moved (u := U) (U := U.calling g mk a) (Vm.Alike.refl U.vm) qK, qD⟩, va_recv hKc hPc (ci := 1) (q0 := 0) rfl rfl, fun U hU hW => ⟨rfl, by rw [hU], by rw [hU]; exact hPc, va_K.moved hW.alike hKc, hDc.weaken (fun _ _ _ _ => trivial)⟩⟩ rfl rfl hl.1 rfl (lv_room (Nat.le_of_ble_eq_true rfl)) dX0_least_2 ⟨Nat.le_of_ble_eq_true rfl, Nat.le_of_ble_eq_true rfl⟩) hS (fun q _ h => hFc q h) hFc (fun r_1 u t H1 locs ht hvm hw hB hz1 hk1 hS => ?_)
  obtain ⟨hP1, hK1, hD1⟩ := hB
  rw [ht] at hP1
  have hK1 := va_K.moved hvm.symm hK1
  try dsimp only at hw
  obtain ⟨hP, hD⟩ := va_join (wr := []) (w1 := [(oS, .inr (1, [.ref oA, .ref oB, .int (nI h)])), (oA, .inl (cA, n, .inl P)), (oB, .inl (cB, n, .inr (.inl V)))]) hP hD [0, 1, 2] [] rfl rfl (by decide) (by decide) hk1 hFc hP1 hD1
  generalize H1 = H at hP hS ⊢
  have hP : va_P (dC, dI) vwCl [(oS, .inr (1, [.ref oA, .ref oB, .int (nI h)])), (oA, .inl (cA, n, .inl P)), (oB, .inl (cB, n, .inr (.inl V)))] H := hP.sub [0, 1, 2] rfl
  have hD : va_D A [(oS, .inr (1, [.ref oA, .ref oB, .int (nI h)])), (oA, .inl (cA, n, .inl P)), (oB, .inl (cB, n, .inr (.inl V)))] := hD.sub [0, 1, 2] (by decide) rfl
  have hK : va_K (dC, dI) vwCl [(cA, .int), (cB, .long)] s := hK
  subst hw
  subst hQ9
  have e9 : pAt P h 0 = fLe P h := pAt_nI P (i := 0) (by omega) (by omega)
  exact W.iret (v := pAt P h 0) hx hb hr (fun t ht hW => ⟨⟨pAt P h 0, (), rfl, e9, by rw [ht]; exact hP, va_K.moved hW.alike hK, hD⟩, hS.F ht⟩) hS.2.2 dX0_least_5

set_option maxHeartbeats 1000000 in
set_option maxRecDepth 100000 in
theorem kX0_greatest (l : Launch) (dC : Nat → ClassId) (dI : Nat → Nat → Nat) (oS oA oB : Nat) (cA cB : ClassId) (n h : Nat) (P : Nat → Int32) (V : Nat → Int64) (sz : Nat) (hh : h ≤ n) (hn : n ≤ 512) : Met l yX0_greatest wsX0_greatest ({ frames := 1, cells := 0, slots := 0, locals := 21 }) (va_Pc [.ref oS] (fun U => U.heap.size = sz ∧ va_P (dC, dI) vwCl [(oS, .inr (1, [.ref oA, .ref oB, .int (nI h)])), (oA, .inl (cA, n, .inl P)), (oB, .inl (cB, n, .inr (.inl V)))] U.heap ∧ va_K (dC, dI) vwCl [(cA, .int), (cB, .long)] U ∧ va_D (fun _ => True) [(oS, .inr (1, [.ref oA, .ref oB, .int (nI h)])), (oA, .inl (cA, n, .inl P)), (oB, .inl (cB, n, .inr (.inl V)))])) (va_Qi (fun (r : Int32) (_ : Unit) => r = fGr P h) (fun (_ : Unit) (t : State) => va_P (dC, dI) vwCl [(oS, .inr (1, [.ref oA, .ref oB, .int (nI h)])), (oA, .inl (cA, n, .inl P)), (oB, .inl (cB, n, .inr (.inl V)))] t.heap ∧ va_K (dC, dI) vwCl [(cA, .int), (cB, .long)] t ∧ va_D (va_A [(oS, .inr (1, [.ref oA, .ref oB, .int (nI h)])), (oA, .inl (cA, n, .inl P)), (oB, .inl (cB, n, .inr (.inl V)))] sz) [(oS, .inr (1, [.ref oA, .ref oB, .int (nI h)])), (oA, .inl (cA, n, .inl P)), (oB, .inl (cB, n, .inr (.inl V)))]) (va_A [(oS, .inr (1, [.ref oA, .ref oB, .int (nI h)])), (oA, .inl (cA, n, .inl P)), (oB, .inl (cB, n, .inr (.inl V)))] sz)) 0 0 (va_A [(oS, .inr (1, [.ref oA, .ref oB, .int (nI h)])), (oA, .inl (cA, n, .inl P)), (oB, .inl (cB, n, .inr (.inl V)))] sz) := by
  refine Met.ofW (cc := cX0_greatest) (maxL := 1) (ret := (some .int)) (by decide) rfl ?_
  intro p e s m args below meth c s₁ B hml hv
  obtain ⟨rfl, hsz, hP, hK, hD0⟩ := hv
  have hx := B.exec
  have hb := B.bytes
  have hr := B.returns
  have hts := atoms_spec (ws := wsX0_greatest) B.pre
  have hown : s.vm.findClass RX0 = some m.cls := findClass_of_methodNamed B.named
  have hlocks := B.notSynchronized
  subst hsz
  have hD := hD0.self (sz := s.heap.size)
  generalize hAe : va_A [(oS, .inr (1, [.ref oA, .ref oB, .int (nI h)])), (oA, .inl (cA, n, .inl P)), (oB, .inl (cB, n, .inr (.inl V)))] s.heap.size = A at hD ⊢
  have hA : ∀ q : Nat, s.heap.size ≤ q → A q := fun q h => by rw [← hAe]; exact Or.inr h
  have hS : va_S A s.heap s.heap [] := va_S.rf
  have hP : va_P (dC, dI) vwCl [(oS, .inr (1, [.ref oA, .ref oB, .int (nI h)])), (oA, .inl (cA, n, .inl P)), (oB, .inl (cB, n, .inr (.inl V)))] s.heap := hP
  have hl := lv_entry ([.ref oS]) (n := 1) (Nat.le_of_ble_eq_true rfl)
  rw [lg_entry_eq]
  generalize (lg_sl ([.ref oS]) ++ List.replicate (1 - (lg_sl ([.ref oS])).length) Slot.unset).toArray = ls at hl ⊢
  have hl : lv_has ls 1 [(0, .ref oS)] := hl
  refine W_name (fun Q hQ9 => ?_)
  refine lv_aload_n hx hb dX0_greatest_0 rfl (lv_at hl 0 rfl) ?_
  refine lv_aload_n hx hb dX0_greatest_1 rfl (lv_at hl 0 rfl) ?_
  refine va_get (D := (dC, dI)) (ci := 1) (v := .int (nI h)) (C := RX0) (T := TX0) (N := 3) hx hb hts (by decide +kernel) hown hK hP 0 rfl rfl 2 (by decide) (hts (.fieldLink RX0 25 "RelativeFiles$Shelf" "held" "I") (by decide +kernel)) (fun _ h9 => h9) rfl dX0_greatest_2 ?_
  refine lv_iconst (v := 1) hx hb dX0_greatest_5 (by decide) ?_
  refine lv_isub hx hb dX0_greatest_6 ?_
  have hPc := hP.sub (ws' := [(oS, .inr (1, [.ref oA, .ref oB, .int (nI h)])), (oA, .inl (cA, n, .inl P)), (oB, .inl (cB, n, .inr (.inl V)))]) [0, 1, 2] rfl
  have hDc := hD.sub (ws' := [(oS, .inr (1, [.ref oA, .ref oB, .int (nI h)])), (oA, .inl (cA, n, .inl P)), (oB, .inl (cB, n, .inr (.inl V)))]) [0, 1, 2] (by decide) rfl
  have hKc := hK.sub (tys' := [(cA, .int), (cB, .long)]) [0, 1] rfl
  have hFc := va_free (wc := [(oS, .inr (1, [.ref oA, .ref oB, .int (nI h)])), (oA, .inl (cA, n, .inl P)), (oB, .inl (cB, n, .inr (.inl V)))]) hD hS hA [0, 1, 2] rfl
  refine va_calli (va_runV (As := [.int ((nI h) - 1)]) (rest := []) ⟨hx, hb, hml, hown, hts⟩ (kX0_placeAt l dC dI oS oA oB cA cB n h P V ((nI h) - 1) s.heap.size hh hn) (cwV 1 hts gX0_greatest_X0_placeAt rfl rfl rfl (by decide +kernel) ⟨Nat.le_of_ble_eq_true rfl, Nat.le_of_ble_eq_true rfl⟩) ⟨fun a U g mk q => by obtain ⟨q0, q1, qP, qK, qD⟩ := q; exact ⟨q0, q1, qP, va_K.moved (u := U) (U := U.calling g mk a) (Vm.Alike.refl U.vm) qK, qD⟩, va_recv hKc hPc (ci := 1) (q0 := 0) rfl rfl, fun U hU hW => ⟨rfl, by rw [hU], by rw [hU]; exact hPc, va_K.moved hW.alike hKc, hDc.weaken (fun _ _ _ _ => trivial)⟩⟩ rfl rfl hl.1 rfl (lv_room (Nat.le_of_ble_eq_true rfl)) dX0_greatest_7 ⟨Nat.le_of_ble_eq_true rfl, Nat.le_of_ble_eq_true rfl⟩) hS (fun q _ h => hFc q h) hFc (fun r_1 u t H1 locs ht hvm hw hB hz1 hk1 hS => ?_)
  obtain ⟨hP1, hK1, hD1⟩ := hB
  rw [ht] at hP1
  have hK1 := va_K.moved hvm.symm hK1
  try dsimp only at hw
  obtain ⟨hP, hD⟩ := va_join (wr := []) (w1 := [(oS, .inr (1, [.ref oA, .ref oB, .int (nI h)])), (oA, .inl (cA, n, .inl P)), (oB, .inl (cB, n, .inr (.inl V)))]) hP hD [0, 1, 2] [] rfl rfl (by decide) (by decide) hk1 hFc hP1 hD1
  generalize H1 = H at hP hS ⊢
  have hP : va_P (dC, dI) vwCl [(oS, .inr (1, [.ref oA, .ref oB, .int (nI h)])), (oA, .inl (cA, n, .inl P)), (oB, .inl (cB, n, .inr (.inl V)))] H := hP.sub [0, 1, 2] rfl
  have hD : va_D A [(oS, .inr (1, [.ref oA, .ref oB, .int (nI h)])), (oA, .inl (cA, n, .inl P)), (oB, .inl (cB, n, .inr (.inl V)))] := hD.sub [0, 1, 2] (by decide) rfl
  have hK : va_K (dC, dI) vwCl [(cA, .int), (cB, .long)] s := hK
  subst hw
  subst hQ9
  have e9 : pAt P h (nI h - 1) = fGr P h := pAt_pred P (by omega) (Nat.le_refl h)
  exact W.iret (v := pAt P h ((nI h) - 1)) hx hb hr (fun t ht hW => ⟨⟨pAt P h ((nI h) - 1), (), rfl, e9, by rw [ht]; exact hP, va_K.moved hW.alike hK, hD⟩, hS.F ht⟩) hS.2.2 dX0_greatest_10

set_option maxHeartbeats 1000000 in
set_option maxRecDepth 100000 in
theorem kX0_firstAbove (l : Launch) (dC : Nat → ClassId) (dI : Nat → Nat → Nat) (oS oA oB : Nat) (cA cB : ClassId) (n h : Nat) (P : Nat → Int32) (V : Nat → Int64) (p0 : Int32) (sz : Nat) (hh : h ≤ n) (hn : n ≤ 512) : Met l yX0_firstAbove wsX0_firstAbove ({ frames := 1, cells := 0, slots := 0, locals := 22 }) (va_Pc [.ref oS, .int p0] (fun U => U.heap.size = sz ∧ va_P (dC, dI) vwCl [(oS, .inr (1, [.ref oA, .ref oB, .int (nI h)])), (oA, .inl (cA, n, .inl P)), (oB, .inl (cB, n, .inr (.inl V)))] U.heap ∧ va_K (dC, dI) vwCl [(cA, .int), (cB, .long)] U ∧ va_D (fun _ => True) [(oS, .inr (1, [.ref oA, .ref oB, .int (nI h)])), (oA, .inl (cA, n, .inl P)), (oB, .inl (cB, n, .inr (.inl V)))])) (va_Qi (fun (r : Int32) (_ : Unit) => r = fFA P h p0) (fun (_ : Unit) (t : State) => va_P (dC, dI) vwCl [(oS, .inr (1, [.ref oA, .ref oB, .int (nI h)])), (oA, .inl (cA, n, .inl P)), (oB, .inl (cB, n, .inr (.inl V)))] t.heap ∧ va_K (dC, dI) vwCl [(cA, .int), (cB, .long)] t ∧ va_D (va_A [(oS, .inr (1, [.ref oA, .ref oB, .int (nI h)])), (oA, .inl (cA, n, .inl P)), (oB, .inl (cB, n, .inr (.inl V)))] sz) [(oS, .inr (1, [.ref oA, .ref oB, .int (nI h)])), (oA, .inl (cA, n, .inl P)), (oB, .inl (cB, n, .inr (.inl V)))]) (va_A [(oS, .inr (1, [.ref oA, .ref oB, .int (nI h)])), (oA, .inl (cA, n, .inl P)), (oB, .inl (cB, n, .inr (.inl V)))] sz)) 0 0 (va_A [(oS, .inr (1, [.ref oA, .ref oB, .int (nI h)])), (oA, .inl (cA, n, .inl P)), (oB, .inl (cB, n, .inr (.inl V)))] sz) := by
  refine Met.ofW (cc := cX0_firstAbove) (maxL := 3) (ret := (some .int)) (by decide) rfl ?_
  intro p e s m args below meth c s₁ B hml hv
  obtain ⟨rfl, hsz, hP, hK, hD0⟩ := hv
  have hx := B.exec
  have hb := B.bytes
  have hr := B.returns
  have hts := atoms_spec (ws := wsX0_firstAbove) B.pre
  have hown : s.vm.findClass RX0 = some m.cls := findClass_of_methodNamed B.named
  have hlocks := B.notSynchronized
  subst hsz
  have hD := hD0.self (sz := s.heap.size)
  generalize hAe : va_A [(oS, .inr (1, [.ref oA, .ref oB, .int (nI h)])), (oA, .inl (cA, n, .inl P)), (oB, .inl (cB, n, .inr (.inl V)))] s.heap.size = A at hD ⊢
  have hA : ∀ q : Nat, s.heap.size ≤ q → A q := fun q h => by rw [← hAe]; exact Or.inr h
  have hS : va_S A s.heap s.heap [] := va_S.rf
  have hP : va_P (dC, dI) vwCl [(oS, .inr (1, [.ref oA, .ref oB, .int (nI h)])), (oA, .inl (cA, n, .inl P)), (oB, .inl (cB, n, .inr (.inl V)))] s.heap := hP
  have hl := lv_entry ([.ref oS, .int p0]) (n := 3) (Nat.le_of_ble_eq_true rfl)
  rw [lg_entry_eq]
  generalize (lg_sl ([.ref oS, .int p0]) ++ List.replicate (3 - (lg_sl ([.ref oS, .int p0])).length) Slot.unset).toArray = ls at hl ⊢
  have hl : lv_has ls 3 [(0, .ref oS), (1, .int p0)] := hl
  refine W_name (fun Q hQ9 => ?_)
  refine lv_aload_n hx hb dX0_firstAbove_0 rfl (lv_at hl 0 rfl) ?_
  refine lv_iload_n hx hb dX0_firstAbove_1 rfl (lv_at hl 1 rfl) ?_
  have hPc := hP.sub (ws' := [(oS, .inr (1, [.ref oA, .ref oB, .int (nI h)])), (oA, .inl (cA, n, .inl P)), (oB, .inl (cB, n, .inr (.inl V)))]) [0, 1, 2] rfl
  have hDc := hD.sub (ws' := [(oS, .inr (1, [.ref oA, .ref oB, .int (nI h)])), (oA, .inl (cA, n, .inl P)), (oB, .inl (cB, n, .inr (.inl V)))]) [0, 1, 2] (by decide) rfl
  have hKc := hK.sub (tys' := [(cA, .int), (cB, .long)]) [0, 1] rfl
  have hFc := va_free (wc := [(oS, .inr (1, [.ref oA, .ref oB, .int (nI h)])), (oA, .inl (cA, n, .inl P)), (oB, .inl (cB, n, .inr (.inl V)))]) hD hS hA [0, 1, 2] rfl
  refine va_calli (va_runV (As := [.int p0]) (rest := []) ⟨hx, hb, hml, hown, hts⟩ (kX0_rank l dC dI oS oA oB cA cB n h P V p0 s.heap.size hh hn) (cwV 1 hts gX0_firstAbove_X0_rank rfl rfl rfl (by decide +kernel) ⟨Nat.le_of_ble_eq_true rfl, Nat.le_of_ble_eq_true rfl⟩) ⟨fun a U g mk q => by obtain ⟨q0, q1, qP, qK, qD⟩ := q; exact ⟨q0, q1, qP, va_K.moved (u := U) (U := U.calling g mk a) (Vm.Alike.refl U.vm) qK, qD⟩, va_recv hKc hPc (ci := 1) (q0 := 0) rfl rfl, fun U hU hW => ⟨rfl, by rw [hU], by rw [hU]; exact hPc, va_K.moved hW.alike hKc, hDc.weaken (fun _ _ _ _ => trivial)⟩⟩ rfl rfl hl.1 rfl (lv_room (Nat.le_of_ble_eq_true rfl)) dX0_firstAbove_2 ⟨Nat.le_of_ble_eq_true rfl, Nat.le_of_ble_eq_true rfl⟩) hS (fun q _ h => hFc q h) hFc (fun r_1 u t H1 locs ht hvm hw hB hz1 hk1 hS => ?_)
  obtain ⟨hP1, hK1, hD1⟩ := hB
  rw [ht] at hP1
  have hK1 := va_K.moved hvm.symm hK1
  try dsimp only at hw
  obtain ⟨hP, hD⟩ := va_join (wr := []) (w1 := [(oS, .inr (1, [.ref oA, .ref oB, .int (nI h)])), (oA, .inl (cA, n, .inl P)), (oB, .inl (cB, n, .inr (.inl V)))]) hP hD [0, 1, 2] [] rfl rfl (by decide) (by decide) hk1 hFc hP1 hD1
  generalize H1 = H at hP hS ⊢
  have hP : va_P (dC, dI) vwCl [(oS, .inr (1, [.ref oA, .ref oB, .int (nI h)])), (oA, .inl (cA, n, .inl P)), (oB, .inl (cB, n, .inr (.inl V)))] H := hP.sub [0, 1, 2] rfl
  have hD : va_D A [(oS, .inr (1, [.ref oA, .ref oB, .int (nI h)])), (oA, .inl (cA, n, .inl P)), (oB, .inl (cB, n, .inr (.inl V)))] := hD.sub [0, 1, 2] (by decide) rfl
  have hK : va_K (dC, dI) vwCl [(cA, .int), (cB, .long)] s := hK
  subst hw
  refine lv_istore_n (lv' := [(2, .int (nI (rk P p0 h))), (0, .ref oS), (1, .int p0)]) hx hb dX0_firstAbove_5 rfl hl (by decide) rfl (fun ls hl => ?_)
  refine lv_aload_n hx hb dX0_firstAbove_6 rfl (lv_at hl 1 rfl) ?_
  refine lv_aload_n hx hb dX0_firstAbove_7 rfl (lv_at hl 1 rfl) ?_
  refine lv_iload_n hx hb dX0_firstAbove_8 rfl (lv_at hl 0 rfl) ?_
  refine lv_iload_n hx hb dX0_firstAbove_9 rfl (lv_at hl 2 rfl) ?_
  have hPc := hP.sub (ws' := [(oS, .inr (1, [.ref oA, .ref oB, .int (nI h)])), (oA, .inl (cA, n, .inl P)), (oB, .inl (cB, n, .inr (.inl V)))]) [0, 1, 2] rfl
  have hDc := hD.sub (ws' := [(oS, .inr (1, [.ref oA, .ref oB, .int (nI h)])), (oA, .inl (cA, n, .inl P)), (oB, .inl (cB, n, .inr (.inl V)))]) [0, 1, 2] (by decide) rfl
  have hKc := hK.sub (tys' := [(cA, .int), (cB, .long)]) [0, 1] rfl
  have hFc := va_free (wc := [(oS, .inr (1, [.ref oA, .ref oB, .int (nI h)])), (oA, .inl (cA, n, .inl P)), (oB, .inl (cB, n, .inr (.inl V)))]) hD hS hA [0, 1, 2] rfl
  refine va_calli (va_runV (As := [.int (nI (rk P p0 h)), .int p0]) (rest := [.ref oS]) ⟨hx, hb, hml, hown, hts⟩ (kX0_isAt l dC dI oS oA oB cA cB n h P V (rk P p0 h) p0 H.size hh hn (by first | omega | exact rk_le _ _ _)) (cwV 2 hts gX0_firstAbove_X0_isAt rfl rfl rfl (by decide +kernel) ⟨Nat.le_of_ble_eq_true rfl, Nat.le_of_ble_eq_true rfl⟩) ⟨fun a U g mk q => by obtain ⟨q0, q1, qP, qK, qD⟩ := q; exact ⟨q0, q1, qP, va_K.moved (u := U) (U := U.calling g mk a) (Vm.Alike.refl U.vm) qK, qD⟩, va_recv hKc hPc (ci := 1) (q0 := 0) rfl rfl, fun U hU hW => ⟨rfl, by rw [hU], by rw [hU]; exact hPc, va_K.moved hW.alike hKc, hDc.weaken (fun _ _ _ _ => trivial)⟩⟩ rfl rfl hl.1 rfl (lv_room (Nat.le_of_ble_eq_true rfl)) dX0_firstAbove_10 ⟨Nat.le_of_ble_eq_true rfl, Nat.le_of_ble_eq_true rfl⟩) hS (fun q _ h => hFc q h) hFc (fun r_2 u t H1 locs ht hvm hw hB hz1 hk1 hS => ?_)
  obtain ⟨hP1, hK1, hD1⟩ := hB
  rw [ht] at hP1
  have hK1 := va_K.moved hvm.symm hK1
  try dsimp only at hw
  obtain ⟨hP, hD⟩ := va_join (wr := []) (w1 := [(oS, .inr (1, [.ref oA, .ref oB, .int (nI h)])), (oA, .inl (cA, n, .inl P)), (oB, .inl (cB, n, .inr (.inl V)))]) hP hD [0, 1, 2] [] rfl rfl (by decide) (by decide) hk1 hFc hP1 hD1
  generalize H1 = H at hP hS ⊢
  have hP : va_P (dC, dI) vwCl [(oS, .inr (1, [.ref oA, .ref oB, .int (nI h)])), (oA, .inl (cA, n, .inl P)), (oB, .inl (cB, n, .inr (.inl V)))] H := hP.sub [0, 1, 2] rfl
  have hD : va_D A [(oS, .inr (1, [.ref oA, .ref oB, .int (nI h)])), (oA, .inl (cA, n, .inl P)), (oB, .inl (cB, n, .inr (.inl V)))] := hD.sub [0, 1, 2] (by decide) rfl
  have hK : va_K (dC, dI) vwCl [(cA, .int), (cB, .long)] s := hK
  rcases hw with ⟨b_3, hw⟩ | ⟨b_3, hw⟩
  · -- (rk P p0 h) < h ∧ P (rk P p0 h) = p0
    subst hw
    refine lv_if_eq (tgt := 22) hx hb dX0_firstAbove_13 (by decide) (fun c_4 => ?_) (fun c_4 => ?_)
    · -- taken at 13: 1 = 0
      exact absurd c_4 (by decide)
    · -- not taken at 13: ¬ 1 = 0
      refine lv_iload_n hx hb dX0_firstAbove_16 rfl (lv_at hl 0 rfl) ?_
      refine lv_iconst (v := 1) hx hb dX0_firstAbove_17 (by decide) ?_
      refine lv_iadd hx hb dX0_firstAbove_18 ?_
      rw [show (nI (rk P p0 h)) + 1 = nI (rk P p0 h + 1) from (nI_succ _).symm]
      refine lv_goto (tgt := 23) hx hb dX0_firstAbove_19 (by decide) ?_
      have hPc := hP.sub (ws' := [(oS, .inr (1, [.ref oA, .ref oB, .int (nI h)])), (oA, .inl (cA, n, .inl P)), (oB, .inl (cB, n, .inr (.inl V)))]) [0, 1, 2] rfl
      have hDc := hD.sub (ws' := [(oS, .inr (1, [.ref oA, .ref oB, .int (nI h)])), (oA, .inl (cA, n, .inl P)), (oB, .inl (cB, n, .inr (.inl V)))]) [0, 1, 2] (by decide) rfl
      have hKc := hK.sub (tys' := [(cA, .int), (cB, .long)]) [0, 1] rfl
      have hFc := va_free (wc := [(oS, .inr (1, [.ref oA, .ref oB, .int (nI h)])), (oA, .inl (cA, n, .inl P)), (oB, .inl (cB, n, .inr (.inl V)))]) hD hS hA [0, 1, 2] rfl
      refine va_calli (va_runV (As := [.int (nI (rk P p0 h + 1))]) (rest := []) ⟨hx, hb, hml, hown, hts⟩ (kX0_placeAt l dC dI oS oA oB cA cB n h P V (nI (rk P p0 h + 1)) H.size hh hn) (cwV 1 hts gX0_firstAbove_X0_placeAt rfl rfl rfl (by decide +kernel) ⟨Nat.le_of_ble_eq_true rfl, Nat.le_of_ble_eq_true rfl⟩) ⟨fun a U g mk q => by obtain ⟨q0, q1, qP, qK, qD⟩ := q; exact ⟨q0, q1, qP, va_K.moved (u := U) (U := U.calling g mk a) (Vm.Alike.refl U.vm) qK, qD⟩, va_recv hKc hPc (ci := 1) (q0 := 0) rfl rfl, fun U hU hW => ⟨rfl, by rw [hU], by rw [hU]; exact hPc, va_K.moved hW.alike hKc, hDc.weaken (fun _ _ _ _ => trivial)⟩⟩ rfl rfl hl.1 rfl (lv_room (Nat.le_of_ble_eq_true rfl)) dX0_firstAbove_23 ⟨Nat.le_of_ble_eq_true rfl, Nat.le_of_ble_eq_true rfl⟩) hS (fun q _ h => hFc q h) hFc (fun r_5 u t H1 locs ht hvm hw hB hz1 hk1 hS => ?_)
      obtain ⟨hP1, hK1, hD1⟩ := hB
      rw [ht] at hP1
      have hK1 := va_K.moved hvm.symm hK1
      try dsimp only at hw
      obtain ⟨hP, hD⟩ := va_join (wr := []) (w1 := [(oS, .inr (1, [.ref oA, .ref oB, .int (nI h)])), (oA, .inl (cA, n, .inl P)), (oB, .inl (cB, n, .inr (.inl V)))]) hP hD [0, 1, 2] [] rfl rfl (by decide) (by decide) hk1 hFc hP1 hD1
      generalize H1 = H at hP hS ⊢
      have hP : va_P (dC, dI) vwCl [(oS, .inr (1, [.ref oA, .ref oB, .int (nI h)])), (oA, .inl (cA, n, .inl P)), (oB, .inl (cB, n, .inr (.inl V)))] H := hP.sub [0, 1, 2] rfl
      have hD : va_D A [(oS, .inr (1, [.ref oA, .ref oB, .int (nI h)])), (oA, .inl (cA, n, .inl P)), (oB, .inl (cB, n, .inr (.inl V)))] := hD.sub [0, 1, 2] (by decide) rfl
      have hK : va_K (dC, dI) vwCl [(cA, .int), (cB, .long)] s := hK
      subst hw
      subst hQ9
      have hk := rk_le P p0 h
      have e9 : fFA P h p0 = pAt P h (nI (rk P p0 h + 1)) := by simp only [fFA, if_pos b_3]; exact (pAt_nI P (by omega) (by omega)).symm
      rw [e9]
      exact W.iret (v := pAt P h (nI (rk P p0 h + 1))) hx hb hr (fun t ht hW => ⟨⟨pAt P h (nI (rk P p0 h + 1)), (), rfl, rfl, by rw [ht]; exact hP, va_K.moved hW.alike hK, hD⟩, hS.F ht⟩) hS.2.2 dX0_firstAbove_26
  · -- ¬ ((rk P p0 h) < h ∧ P (rk P p0 h) = p0)
    subst hw
    refine lv_if_eq (tgt := 22) hx hb dX0_firstAbove_13 (by decide) (fun c_6 => ?_) (fun c_6 => ?_)
    · -- taken at 13: 0 = 0
      refine lv_iload_n hx hb dX0_firstAbove_22 rfl (lv_at hl 0 rfl) ?_
      have hPc := hP.sub (ws' := [(oS, .inr (1, [.ref oA, .ref oB, .int (nI h)])), (oA, .inl (cA, n, .inl P)), (oB, .inl (cB, n, .inr (.inl V)))]) [0, 1, 2] rfl
      have hDc := hD.sub (ws' := [(oS, .inr (1, [.ref oA, .ref oB, .int (nI h)])), (oA, .inl (cA, n, .inl P)), (oB, .inl (cB, n, .inr (.inl V)))]) [0, 1, 2] (by decide) rfl
      have hKc := hK.sub (tys' := [(cA, .int), (cB, .long)]) [0, 1] rfl
      have hFc := va_free (wc := [(oS, .inr (1, [.ref oA, .ref oB, .int (nI h)])), (oA, .inl (cA, n, .inl P)), (oB, .inl (cB, n, .inr (.inl V)))]) hD hS hA [0, 1, 2] rfl
      refine va_calli (va_runV (As := [.int (nI (rk P p0 h))]) (rest := []) ⟨hx, hb, hml, hown, hts⟩ (kX0_placeAt l dC dI oS oA oB cA cB n h P V (nI (rk P p0 h)) H.size hh hn) (cwV 1 hts gX0_firstAbove_X0_placeAt rfl rfl rfl (by decide +kernel) ⟨Nat.le_of_ble_eq_true rfl, Nat.le_of_ble_eq_true rfl⟩) ⟨fun a U g mk q => by obtain ⟨q0, q1, qP, qK, qD⟩ := q; exact ⟨q0, q1, qP, va_K.moved (u := U) (U := U.calling g mk a) (Vm.Alike.refl U.vm) qK, qD⟩, va_recv hKc hPc (ci := 1) (q0 := 0) rfl rfl, fun U hU hW => ⟨rfl, by rw [hU], by rw [hU]; exact hPc, va_K.moved hW.alike hKc, hDc.weaken (fun _ _ _ _ => trivial)⟩⟩ rfl rfl hl.1 rfl (lv_room (Nat.le_of_ble_eq_true rfl)) dX0_firstAbove_23 ⟨Nat.le_of_ble_eq_true rfl, Nat.le_of_ble_eq_true rfl⟩) hS (fun q _ h => hFc q h) hFc (fun r_7 u t H1 locs ht hvm hw hB hz1 hk1 hS => ?_)
      obtain ⟨hP1, hK1, hD1⟩ := hB
      rw [ht] at hP1
      have hK1 := va_K.moved hvm.symm hK1
      try dsimp only at hw
      obtain ⟨hP, hD⟩ := va_join (wr := []) (w1 := [(oS, .inr (1, [.ref oA, .ref oB, .int (nI h)])), (oA, .inl (cA, n, .inl P)), (oB, .inl (cB, n, .inr (.inl V)))]) hP hD [0, 1, 2] [] rfl rfl (by decide) (by decide) hk1 hFc hP1 hD1
      generalize H1 = H at hP hS ⊢
      have hP : va_P (dC, dI) vwCl [(oS, .inr (1, [.ref oA, .ref oB, .int (nI h)])), (oA, .inl (cA, n, .inl P)), (oB, .inl (cB, n, .inr (.inl V)))] H := hP.sub [0, 1, 2] rfl
      have hD : va_D A [(oS, .inr (1, [.ref oA, .ref oB, .int (nI h)])), (oA, .inl (cA, n, .inl P)), (oB, .inl (cB, n, .inr (.inl V)))] := hD.sub [0, 1, 2] (by decide) rfl
      have hK : va_K (dC, dI) vwCl [(cA, .int), (cB, .long)] s := hK
      subst hw
      subst hQ9
      have hk := rk_le P p0 h
      have e9 : fFA P h p0 = pAt P h (nI (rk P p0 h)) := by simp only [fFA, if_neg b_3]; exact (pAt_nI P (by omega) (by omega)).symm
      rw [e9]
      exact W.iret (v := pAt P h (nI (rk P p0 h))) hx hb hr (fun t ht hW => ⟨⟨pAt P h (nI (rk P p0 h)), (), rfl, rfl, by rw [ht]; exact hP, va_K.moved hW.alike hK, hD⟩, hS.F ht⟩) hS.2.2 dX0_firstAbove_26
    · -- not taken at 13: ¬ 0 = 0
      exact absurd c_6 (by decide)

set_option maxHeartbeats 1000000 in
set_option maxRecDepth 100000 in
theorem kX0_lastBelow (l : Launch) (dC : Nat → ClassId) (dI : Nat → Nat → Nat) (oS oA oB : Nat) (cA cB : ClassId) (n h : Nat) (P : Nat → Int32) (V : Nat → Int64) (p0 : Int32) (sz : Nat) (hh : h ≤ n) (hn : n ≤ 512) : Met l yX0_lastBelow wsX0_lastBelow ({ frames := 1, cells := 0, slots := 0, locals := 22 }) (va_Pc [.ref oS, .int p0] (fun U => U.heap.size = sz ∧ va_P (dC, dI) vwCl [(oS, .inr (1, [.ref oA, .ref oB, .int (nI h)])), (oA, .inl (cA, n, .inl P)), (oB, .inl (cB, n, .inr (.inl V)))] U.heap ∧ va_K (dC, dI) vwCl [(cA, .int), (cB, .long)] U ∧ va_D (fun _ => True) [(oS, .inr (1, [.ref oA, .ref oB, .int (nI h)])), (oA, .inl (cA, n, .inl P)), (oB, .inl (cB, n, .inr (.inl V)))])) (va_Qi (fun (r : Int32) (_ : Unit) => r = fLB P h p0) (fun (_ : Unit) (t : State) => va_P (dC, dI) vwCl [(oS, .inr (1, [.ref oA, .ref oB, .int (nI h)])), (oA, .inl (cA, n, .inl P)), (oB, .inl (cB, n, .inr (.inl V)))] t.heap ∧ va_K (dC, dI) vwCl [(cA, .int), (cB, .long)] t ∧ va_D (va_A [(oS, .inr (1, [.ref oA, .ref oB, .int (nI h)])), (oA, .inl (cA, n, .inl P)), (oB, .inl (cB, n, .inr (.inl V)))] sz) [(oS, .inr (1, [.ref oA, .ref oB, .int (nI h)])), (oA, .inl (cA, n, .inl P)), (oB, .inl (cB, n, .inr (.inl V)))]) (va_A [(oS, .inr (1, [.ref oA, .ref oB, .int (nI h)])), (oA, .inl (cA, n, .inl P)), (oB, .inl (cB, n, .inr (.inl V)))] sz)) 0 0 (va_A [(oS, .inr (1, [.ref oA, .ref oB, .int (nI h)])), (oA, .inl (cA, n, .inl P)), (oB, .inl (cB, n, .inr (.inl V)))] sz) := by
  refine Met.ofW (cc := cX0_lastBelow) (maxL := 2) (ret := (some .int)) (by decide) rfl ?_
  intro p e s m args below meth c s₁ B hml hv
  obtain ⟨rfl, hsz, hP, hK, hD0⟩ := hv
  have hx := B.exec
  have hb := B.bytes
  have hr := B.returns
  have hts := atoms_spec (ws := wsX0_lastBelow) B.pre
  have hown : s.vm.findClass RX0 = some m.cls := findClass_of_methodNamed B.named
  have hlocks := B.notSynchronized
  subst hsz
  have hD := hD0.self (sz := s.heap.size)
  generalize hAe : va_A [(oS, .inr (1, [.ref oA, .ref oB, .int (nI h)])), (oA, .inl (cA, n, .inl P)), (oB, .inl (cB, n, .inr (.inl V)))] s.heap.size = A at hD ⊢
  have hA : ∀ q : Nat, s.heap.size ≤ q → A q := fun q h => by rw [← hAe]; exact Or.inr h
  have hS : va_S A s.heap s.heap [] := va_S.rf
  have hP : va_P (dC, dI) vwCl [(oS, .inr (1, [.ref oA, .ref oB, .int (nI h)])), (oA, .inl (cA, n, .inl P)), (oB, .inl (cB, n, .inr (.inl V)))] s.heap := hP
  have hl := lv_entry ([.ref oS, .int p0]) (n := 2) (Nat.le_of_ble_eq_true rfl)
  rw [lg_entry_eq]
  generalize (lg_sl ([.ref oS, .int p0]) ++ List.replicate (2 - (lg_sl ([.ref oS, .int p0])).length) Slot.unset).toArray = ls at hl ⊢
  have hl : lv_has ls 2 [(0, .ref oS), (1, .int p0)] := hl
  refine W_name (fun Q hQ9 => ?_)
  refine lv_aload_n hx hb dX0_lastBelow_0 rfl (lv_at hl 0 rfl) ?_
  refine lv_aload_n hx hb dX0_lastBelow_1 rfl (lv_at hl 0 rfl) ?_
  refine lv_iload_n hx hb dX0_lastBelow_2 rfl (lv_at hl 1 rfl) ?_
  have hPc := hP.sub (ws' := [(oS, .inr (1, [.ref oA, .ref oB, .int (nI h)])), (oA, .inl (cA, n, .inl P)), (oB, .inl (cB, n, .inr (.inl V)))]) [0, 1, 2] rfl
  have hDc := hD.sub (ws' := [(oS, .inr (1, [.ref oA, .ref oB, .int (nI h)])), (oA, .inl (cA, n, .inl P)), (oB, .inl (cB, n, .inr (.inl V)))]) [0, 1, 2] (by decide) rfl
  have hKc := hK.sub (tys' := [(cA, .int), (cB, .long)]) [0, 1] rfl
  have hFc := va_free (wc := [(oS, .inr (1, [.ref oA, .ref oB, .int (nI h)])), (oA, .inl (cA, n, .inl P)), (oB, .inl (cB, n, .inr (.inl V)))]) hD hS hA [0, 1, 2] rfl
  refine va_calli (va_runV (As := [.int p0]) (rest := [.ref oS]) ⟨hx, hb, hml, hown, hts⟩ (kX0_rank l dC dI oS oA oB cA cB n h P V p0 s.heap.size hh hn) (cwV 1 hts gX0_lastBelow_X0_rank rfl rfl rfl (by decide +kernel) ⟨Nat.le_of_ble_eq_true rfl, Nat.le_of_ble_eq_true rfl⟩) ⟨fun a U g mk q => by obtain ⟨q0, q1, qP, qK, qD⟩ := q; exact ⟨q0, q1, qP, va_K.moved (u := U) (U := U.calling g mk a) (Vm.Alike.refl U.vm) qK, qD⟩, va_recv hKc hPc (ci := 1) (q0 := 0) rfl rfl, fun U hU hW => ⟨rfl, by rw [hU], by rw [hU]; exact hPc, va_K.moved hW.alike hKc, hDc.weaken (fun _ _ _ _ => trivial)⟩⟩ rfl rfl hl.1 rfl (lv_room (Nat.le_of_ble_eq_true rfl)) dX0_lastBelow_3 ⟨Nat.le_of_ble_eq_true rfl, Nat.le_of_ble_eq_true rfl⟩) hS (fun q _ h => hFc q h) hFc (fun r_1 u t H1 locs ht hvm hw hB hz1 hk1 hS => ?_)
  obtain ⟨hP1, hK1, hD1⟩ := hB
  rw [ht] at hP1
  have hK1 := va_K.moved hvm.symm hK1
  try dsimp only at hw
  obtain ⟨hP, hD⟩ := va_join (wr := []) (w1 := [(oS, .inr (1, [.ref oA, .ref oB, .int (nI h)])), (oA, .inl (cA, n, .inl P)), (oB, .inl (cB, n, .inr (.inl V)))]) hP hD [0, 1, 2] [] rfl rfl (by decide) (by decide) hk1 hFc hP1 hD1
  generalize H1 = H at hP hS ⊢
  have hP : va_P (dC, dI) vwCl [(oS, .inr (1, [.ref oA, .ref oB, .int (nI h)])), (oA, .inl (cA, n, .inl P)), (oB, .inl (cB, n, .inr (.inl V)))] H := hP.sub [0, 1, 2] rfl
  have hD : va_D A [(oS, .inr (1, [.ref oA, .ref oB, .int (nI h)])), (oA, .inl (cA, n, .inl P)), (oB, .inl (cB, n, .inr (.inl V)))] := hD.sub [0, 1, 2] (by decide) rfl
  have hK : va_K (dC, dI) vwCl [(cA, .int), (cB, .long)] s := hK
  subst hw
  refine lv_iconst (v := 1) hx hb dX0_lastBelow_6 (by decide) ?_
  refine lv_isub hx hb dX0_lastBelow_7 ?_
  have hPc := hP.sub (ws' := [(oS, .inr (1, [.ref oA, .ref oB, .int (nI h)])), (oA, .inl (cA, n, .inl P)), (oB, .inl (cB, n, .inr (.inl V)))]) [0, 1, 2] rfl
  have hDc := hD.sub (ws' := [(oS, .inr (1, [.ref oA, .ref oB, .int (nI h)])), (oA, .inl (cA, n, .inl P)), (oB, .inl (cB, n, .inr (.inl V)))]) [0, 1, 2] (by decide) rfl
  have hKc := hK.sub (tys' := [(cA, .int), (cB, .long)]) [0, 1] rfl
  have hFc := va_free (wc := [(oS, .inr (1, [.ref oA, .ref oB, .int (nI h)])), (oA, .inl (cA, n, .inl P)), (oB, .inl (cB, n, .inr (.inl V)))]) hD hS hA [0, 1, 2] rfl
  refine va_calli (va_runV (As := [.int ((nI (rk P p0 h)) - 1)]) (rest := []) ⟨hx, hb, hml, hown, hts⟩ (kX0_placeAt l dC dI oS oA oB cA cB n h P V ((nI (rk P p0 h)) - 1) H.size hh hn) (cwV 1 hts gX0_lastBelow_X0_placeAt rfl rfl rfl (by decide +kernel) ⟨Nat.le_of_ble_eq_true rfl, Nat.le_of_ble_eq_true rfl⟩) ⟨fun a U g mk q => by obtain ⟨q0, q1, qP, qK, qD⟩ := q; exact ⟨q0, q1, qP, va_K.moved (u := U) (U := U.calling g mk a) (Vm.Alike.refl U.vm) qK, qD⟩, va_recv hKc hPc (ci := 1) (q0 := 0) rfl rfl, fun U hU hW => ⟨rfl, by rw [hU], by rw [hU]; exact hPc, va_K.moved hW.alike hKc, hDc.weaken (fun _ _ _ _ => trivial)⟩⟩ rfl rfl hl.1 rfl (lv_room (Nat.le_of_ble_eq_true rfl)) dX0_lastBelow_8 ⟨Nat.le_of_ble_eq_true rfl, Nat.le_of_ble_eq_true rfl⟩) hS (fun q _ h => hFc q h) hFc (fun r_2 u t H1 locs ht hvm hw hB hz1 hk1 hS => ?_)
  obtain ⟨hP1, hK1, hD1⟩ := hB
  rw [ht] at hP1
  have hK1 := va_K.moved hvm.symm hK1
  try dsimp only at hw
  obtain ⟨hP, hD⟩ := va_join (wr := []) (w1 := [(oS, .inr (1, [.ref oA, .ref oB, .int (nI h)])), (oA, .inl (cA, n, .inl P)), (oB, .inl (cB, n, .inr (.inl V)))]) hP hD [0, 1, 2] [] rfl rfl (by decide) (by decide) hk1 hFc hP1 hD1
  generalize H1 = H at hP hS ⊢
  have hP : va_P (dC, dI) vwCl [(oS, .inr (1, [.ref oA, .ref oB, .int (nI h)])), (oA, .inl (cA, n, .inl P)), (oB, .inl (cB, n, .inr (.inl V)))] H := hP.sub [0, 1, 2] rfl
  have hD : va_D A [(oS, .inr (1, [.ref oA, .ref oB, .int (nI h)])), (oA, .inl (cA, n, .inl P)), (oB, .inl (cB, n, .inr (.inl V)))] := hD.sub [0, 1, 2] (by decide) rfl
  have hK : va_K (dC, dI) vwCl [(cA, .int), (cB, .long)] s := hK
  subst hw
  subst hQ9
  have hk := rk_le P p0 h
  have e9 : pAt P h ((nI (rk P p0 h)) - 1) = fLB P h p0 := pAt_pred P (by omega) hk
  exact W.iret (v := pAt P h ((nI (rk P p0 h)) - 1)) hx hb hr (fun t ht hW => ⟨⟨pAt P h ((nI (rk P p0 h)) - 1), (), rfl, e9, by rw [ht]; exact hP, va_K.moved hW.alike hK, hD⟩, hS.F ht⟩) hS.2.2 dX0_lastBelow_11

set_option maxHeartbeats 1000000 in
set_option maxRecDepth 100000 in
theorem kX0_add (l : Launch) (dC : Nat → ClassId) (dI : Nat → Nat → Nat) (oS oA oB : Nat) (cA cB : ClassId) (n h : Nat) (P : Nat → Int32) (V : Nat → Int64) (p0 : Int32) (p1 : Int64) (sz : Nat) (hh : h ≤ n) (hn : n ≤ 512) (hlt : h < n) : Met l yX0_add wsX0_add ({ frames := 1, cells := 0, slots := 0, locals := 22 }) (va_Pc [.ref oS, .int p0, .long p1] (fun U => U.heap.size = sz ∧ va_P (dC, dI) vwCl [(oS, .inr (1, [.ref oA, .ref oB, .int (nI h)])), (oA, .inl (cA, n, .inl P)), (oB, .inl (cB, n, .inr (.inl V)))] U.heap ∧ va_K (dC, dI) vwCl [(cA, .int), (cB, .long)] U ∧ va_D (fun _ => True) [(oS, .inr (1, [.ref oA, .ref oB, .int (nI h)])), (oA, .inl (cA, n, .inl P)), (oB, .inl (cB, n, .inr (.inl V)))])) (va_Qi (fun (r : Int32) (_ : Unit) => r = 1) (fun (_ : Unit) (t : State) => va_P (dC, dI) vwCl [(oS, .inr (1, [.ref oA, .ref oB, .int (nI (h + 1))])), (oA, .inl (cA, n, .inl (insA P (rk P p0 h) p0 h))), (oB, .inl (cB, n, .inr (.inl (insA V (rk P p0 h) p1 h))))] t.heap ∧ va_K (dC, dI) vwCl [(cA, .int), (cB, .long)] t ∧ va_D (va_A [(oS, .inr (1, [.ref oA, .ref oB, .int (nI h)])), (oA, .inl (cA, n, .inl P)), (oB, .inl (cB, n, .inr (.inl V)))] sz) [(oS, .inr (1, [.ref oA, .ref oB, .int (nI (h + 1))])), (oA, .inl (cA, n, .inl (insA P (rk P p0 h) p0 h))), (oB, .inl (cB, n, .inr (.inl (insA V (rk P p0 h) p1 h))))]) (va_A [(oS, .inr (1, [.ref oA, .ref oB, .int (nI h)])), (oA, .inl (cA, n, .inl P)), (oB, .inl (cB, n, .inr (.inl V)))] sz)) 0 0 (va_A [(oS, .inr (1, [.ref oA, .ref oB, .int (nI h)])), (oA, .inl (cA, n, .inl P)), (oB, .inl (cB, n, .inr (.inl V)))] sz) := by
  refine Met.ofW (cc := cX0_add) (maxL := 6) (ret := (some .boolean)) (by decide) rfl ?_
  intro p e s m args below meth c s₁ B hml hv
  obtain ⟨rfl, hsz, hP, hK, hD0⟩ := hv
  have hx := B.exec
  have hb := B.bytes
  have hr := B.returns
  have hts := atoms_spec (ws := wsX0_add) B.pre
  have hown : s.vm.findClass RX0 = some m.cls := findClass_of_methodNamed B.named
  have hlocks := B.notSynchronized
  subst hsz
  have hD := hD0.self (sz := s.heap.size)
  generalize hAe : va_A [(oS, .inr (1, [.ref oA, .ref oB, .int (nI h)])), (oA, .inl (cA, n, .inl P)), (oB, .inl (cB, n, .inr (.inl V)))] s.heap.size = A at hD ⊢
  have hA : ∀ q : Nat, s.heap.size ≤ q → A q := fun q h => by rw [← hAe]; exact Or.inr h
  have hS : va_S A s.heap s.heap [] := va_S.rf
  have hP : va_P (dC, dI) vwCl [(oS, .inr (1, [.ref oA, .ref oB, .int (nI h)])), (oA, .inl (cA, n, .inl P)), (oB, .inl (cB, n, .inr (.inl V)))] s.heap := hP
  have hl := lv_entry ([.ref oS, .int p0, .long p1]) (n := 6) (Nat.le_of_ble_eq_true rfl)
  rw [lg_entry_eq]
  generalize (lg_sl ([.ref oS, .int p0, .long p1]) ++ List.replicate (6 - (lg_sl ([.ref oS, .int p0, .long p1])).length) Slot.unset).toArray = ls at hl ⊢
  have hl : lv_has ls 6 [(0, .ref oS), (1, .int p0), (2, .long p1)] := hl
  refine W_name (fun Q hQ9 => ?_)
  refine lv_aload_n hx hb dX0_add_0 rfl (lv_at hl 0 rfl) ?_
  refine va_get (D := (dC, dI)) (ci := 1) (v := .int (nI h)) (C := RX0) (T := TX0) (N := 3) hx hb hts (by decide +kernel) hown hK hP 0 rfl rfl 2 (by decide) (hts (.fieldLink RX0 25 "RelativeFiles$Shelf" "held" "I") (by decide +kernel)) (fun _ h9 => h9) rfl dX0_add_1 ?_
  refine lv_aload_n hx hb dX0_add_4 rfl (lv_at hl 0 rfl) ?_
  refine va_get (D := (dC, dI)) (ci := 1) (v := .ref oA) (C := RX0) (T := TX0) (N := 3) hx hb hts (by decide +kernel) hown hK hP 0 rfl rfl 0 (by decide) (hts (.fieldLink RX0 15 "RelativeFiles$Shelf" "places" "[I") (by decide +kernel)) (fun _ h9 => h9) rfl dX0_add_5 ?_
  refine va_alen (v := nI n) hx hb hK hP 1 0 rfl rfl rfl dX0_add_8 ?_
  refine lv_icmp_lt (tgt := 14) hx hb dX0_add_9 (by decide) (fun c_1 => ?_) (fun c_1 => ?_)
  · -- taken at 9: (nI h) < (nI n)
    refine lv_aload_n hx hb dX0_add_14 rfl (lv_at hl 0 rfl) ?_
    refine lv_iload_n hx hb dX0_add_15 rfl (lv_at hl 1 rfl) ?_
    have hPc := hP.sub (ws' := [(oS, .inr (1, [.ref oA, .ref oB, .int (nI h)])), (oA, .inl (cA, n, .inl P)), (oB, .inl (cB, n, .inr (.inl V)))]) [0, 1, 2] rfl
    have hDc := hD.sub (ws' := [(oS, .inr (1, [.ref oA, .ref oB, .int (nI h)])), (oA, .inl (cA, n, .inl P)), (oB, .inl (cB, n, .inr (.inl V)))]) [0, 1, 2] (by decide) rfl
    have hKc := hK.sub (tys' := [(cA, .int), (cB, .long)]) [0, 1] rfl
    have hFc := va_free (wc := [(oS, .inr (1, [.ref oA, .ref oB, .int (nI h)])), (oA, .inl (cA, n, .inl P)), (oB, .inl (cB, n, .inr (.inl V)))]) hD hS hA [0, 1, 2] rfl
    refine va_calli (va_runV (As := [.int p0]) (rest := []) ⟨hx, hb, hml, hown, hts⟩ (kX0_rank l dC dI oS oA oB cA cB n h P V p0 s.heap.size hh hn) (cwV 1 hts gX0_add_X0_rank rfl rfl rfl (by decide +kernel) ⟨Nat.le_of_ble_eq_true rfl, Nat.le_of_ble_eq_true rfl⟩) ⟨fun a U g mk q => by obtain ⟨q0, q1, qP, qK, qD⟩ := q; exact ⟨q0, q1, qP, va_K.moved (u := U) (U := U.calling g mk a) (Vm.Alike.refl U.vm) qK, qD⟩, va_recv hKc hPc (ci := 1) (q0 := 0) rfl rfl, fun U hU hW => ⟨rfl, by rw [hU], by rw [hU]; exact hPc, va_K.moved hW.alike hKc, hDc.weaken (fun _ _ _ _ => trivial)⟩⟩ rfl rfl hl.1 rfl (lv_room (Nat.le_of_ble_eq_true rfl)) dX0_add_16 ⟨Nat.le_of_ble_eq_true rfl, Nat.le_of_ble_eq_true rfl⟩) hS (fun q _ h => hFc q h) hFc (fun r_2 u t H1 locs ht hvm hw hB hz1 hk1 hS => ?_)
    obtain ⟨hP1, hK1, hD1⟩ := hB
    rw [ht] at hP1
    have hK1 := va_K.moved hvm.symm hK1
    try dsimp only at hw
    obtain ⟨hP, hD⟩ := va_join (wr := []) (w1 := [(oS, .inr (1, [.ref oA, .ref oB, .int (nI h)])), (oA, .inl (cA, n, .inl P)), (oB, .inl (cB, n, .inr (.inl V)))]) hP hD [0, 1, 2] [] rfl rfl (by decide) (by decide) hk1 hFc hP1 hD1
    generalize H1 = H at hP hS ⊢
    have hP : va_P (dC, dI) vwCl [(oS, .inr (1, [.ref oA, .ref oB, .int (nI h)])), (oA, .inl (cA, n, .inl P)), (oB, .inl (cB, n, .inr (.inl V)))] H := hP.sub [0, 1, 2] rfl
    have hD : va_D A [(oS, .inr (1, [.ref oA, .ref oB, .int (nI h)])), (oA, .inl (cA, n, .inl P)), (oB, .inl (cB, n, .inr (.inl V)))] := hD.sub [0, 1, 2] (by decide) rfl
    have hK : va_K (dC, dI) vwCl [(cA, .int), (cB, .long)] s := hK
    subst hw
    refine lv_istore (lv' := [(4, .int (nI (rk P p0 h))), (0, .ref oS), (1, .int p0), (2, .long p1)]) hx hb dX0_add_19 hl (by decide) rfl (fun ls hl => ?_)
    refine lv_aload_n hx hb dX0_add_21 rfl (lv_at hl 1 rfl) ?_
    refine va_get (D := (dC, dI)) (ci := 1) (v := .int (nI h)) (C := RX0) (T := TX0) (N := 3) hx hb hts (by decide +kernel) hown hK hP 0 rfl rfl 2 (by decide) (hts (.fieldLink RX0 25 "RelativeFiles$Shelf" "held" "I") (by decide +kernel)) (fun _ h9 => h9) rfl dX0_add_22 ?_
    refine lv_istore (lv' := [(5, .int (nI h)), (4, .int (nI (rk P p0 h))), (0, .ref oS), (1, .int p0), (2, .long p1)]) hx hb dX0_add_25 hl (by decide) rfl (fun ls hl => ?_)
    have hk9 := rk_le P p0 h
    have loop : ∀ (k i : Nat) (ls : Array Slot) (H : Heap) (locs : List Loc), (rk P p0 h ≤ i) → (i + 1 ≤ k) → (i ≤ h) → lv_has ls 6 [(5, .int (nI i)), (4, .int (nI (rk P p0 h))), (0, .ref oS), (1, .int p0), (2, .long p1)] → va_P (dC, dI) vwCl [(oS, .inr (1, [.ref oA, .ref oB, .int (nI h)])), (oA, .inl (cA, n, .inl (shU P i h))), (oB, .inl (cB, n, .inr (.inl (shU V i h))))] H → va_D A [(oS, .inr (1, [.ref oA, .ref oB, .int (nI h)])), (oA, .inl (cA, n, .inl (shU P i h))), (oB, .inl (cB, n, .inr (.inl (shU V i h))))] → va_S A s.heap H locs → W p l e (headSpec wsX0_add ({ frames := 1, cells := 0, slots := 0, locals := 22 })).room s m #[(Value.ref oS), (Value.int p0), (Value.long p1)] below meth c H locs 0 0 Q (F0 m 27 ls []) := by
      intro k
      induction k with
      | zero => intro i ls H locs h1 h2 h3; exact absurd h2 (by omega)
      | succ k ih =>
        intro i ls H locs h1 h2 h3 hl hP hD hS
        refine lv_iload hx hb dX0_add_27 (lv_at hl 0 rfl) ?_
        refine lv_iload hx hb dX0_add_29 (lv_at hl 1 rfl) ?_
        refine lv_icmp_le (tgt := 72) hx hb dX0_add_31 (by decide) (fun c_3 => ?_) (fun c_3 => ?_)
        · -- taken at 31: (nI i) ≤ (nI (rk P p0 h))
          have e8 : rk P p0 h = i := by have := (nI_leI (by omega) (by omega)).mp c_3; omega
          refine lv_aload_n hx hb dX0_add_72 rfl (lv_at hl 2 rfl) ?_
          refine va_get (D := (dC, dI)) (ci := 1) (v := .ref oA) (C := RX0) (T := TX0) (N := 3) hx hb hts (by decide +kernel) hown hK hP 0 rfl rfl 0 (by decide) (hts (.fieldLink RX0 15 "RelativeFiles$Shelf" "places" "[I") (by decide +kernel)) (fun _ h9 => h9) rfl dX0_add_73 ?_
          refine lv_iload hx hb dX0_add_76 (lv_at hl 1 rfl) ?_
          refine lv_iload_n hx hb dX0_add_78 rfl (lv_at hl 3 rfl) ?_
          refine va_iast hx hb hK hP hD hS 1 0 rfl rfl (vp_in_nI (by omega) (by omega)) dX0_add_79 (fun H locs hP hD hS => ?_)
          have hP : va_P (dC, dI) vwCl [(oS, .inr (1, [.ref oA, .ref oB, .int (nI h)])), (oA, .inl (cA, n, .inl (upd (shU P i h) (nI (rk P p0 h)).toNatClampNeg p0))), (oB, .inl (cB, n, .inr (.inl (shU V i h))))] H := hP
          have hD : va_D A [(oS, .inr (1, [.ref oA, .ref oB, .int (nI h)])), (oA, .inl (cA, n, .inl (upd (shU P i h) (nI (rk P p0 h)).toNatClampNeg p0))), (oB, .inl (cB, n, .inr (.inl (shU V i h))))] := hD
          rw [show upd (shU P i h) (nI (rk P p0 h)).toNatClampNeg p0 = insA P (rk P p0 h) p0 h from by rw [nI_clamp (by omega)]; have e := shU_ins P (i := rk P p0 h) (h := h) p0; rw [e8] at e ⊢; exact e] at hP hD
          refine lv_aload_n hx hb dX0_add_80 rfl (lv_at hl 2 rfl) ?_
          refine va_get (D := (dC, dI)) (ci := 1) (v := .ref oB) (C := RX0) (T := TX0) (N := 3) hx hb hts (by decide +kernel) hown hK hP 0 rfl rfl 1 (by decide) (hts (.fieldLink RX0 21 "RelativeFiles$Shelf" "values" "[J") (by decide +kernel)) (fun _ h9 => h9) rfl dX0_add_81 ?_
          refine lv_iload hx hb dX0_add_84 (lv_at hl 1 rfl) ?_
          refine lv_lload_n hx hb dX0_add_86 rfl (lv_at hl 4 rfl) ?_
          refine va_last hx hb hK hP hD hS 2 1 rfl rfl (vp_in_nI (by omega) (by omega)) dX0_add_87 (fun H locs hP hD hS => ?_)
          have hP : va_P (dC, dI) vwCl [(oS, .inr (1, [.ref oA, .ref oB, .int (nI h)])), (oA, .inl (cA, n, .inl (insA P (rk P p0 h) p0 h))), (oB, .inl (cB, n, .inr (.inl (vp_updL (shU V i h) (nI (rk P p0 h)).toNatClampNeg p1))))] H := hP
          have hD : va_D A [(oS, .inr (1, [.ref oA, .ref oB, .int (nI h)])), (oA, .inl (cA, n, .inl (insA P (rk P p0 h) p0 h))), (oB, .inl (cB, n, .inr (.inl (vp_updL (shU V i h) (nI (rk P p0 h)).toNatClampNeg p1))))] := hD
          rw [show vp_updL (shU V i h) (nI (rk P p0 h)).toNatClampNeg p1 = insA V (rk P p0 h) p1 h from by rw [nI_clamp (by omega)]; have e := shU_insL V (i := rk P p0 h) (h := h) p1; rw [e8] at e ⊢; exact e] at hP hD
          refine lv_aload_n hx hb dX0_add_88 rfl (lv_at hl 2 rfl) ?_
          refine lv_dup hx hb dX0_add_89 rfl ?_
          refine va_get (D := (dC, dI)) (ci := 1) (v := .int (nI h)) (C := RX0) (T := TX0) (N := 3) hx hb hts (by decide +kernel) hown hK hP 0 rfl rfl 2 (by decide) (hts (.fieldLink RX0 25 "RelativeFiles$Shelf" "held" "I") (by decide +kernel)) (fun _ h9 => h9) rfl dX0_add_90 ?_
          refine lv_iconst (v := 1) hx hb dX0_add_93 (by decide) ?_
          refine lv_iadd hx hb dX0_add_94 ?_
          rw [show (nI h) + 1 = nI (h + 1) from (nI_succ h).symm]
          refine va_put (D := (dC, dI)) (ci := 1) (v := .int (nI (h + 1))) (ty := .int) (C := RX0) (T := TX0) (N := 3) hx hb hts (by decide +kernel) tyX0 tyX0_ok nmX0 hown hK hP hD hS 0 rfl rfl 2 (by decide) (hts (.fieldLink RX0 25 "RelativeFiles$Shelf" "held" "I") (by decide +kernel)) (fun _ h9 => h9) rfl (by decide +kernel) rfl rfl (Nat.le_of_ble_eq_true rfl) dX0_add_95 (fun H locs hP hD hS => ?_)
          have hP : va_P (dC, dI) vwCl [(oS, .inr (1, [.ref oA, .ref oB, .int (nI (h + 1))])), (oA, .inl (cA, n, .inl (insA P (rk P p0 h) p0 h))), (oB, .inl (cB, n, .inr (.inl (insA V (rk P p0 h) p1 h))))] H := hP
          have hD : va_D A [(oS, .inr (1, [.ref oA, .ref oB, .int (nI (h + 1))])), (oA, .inl (cA, n, .inl (insA P (rk P p0 h) p0 h))), (oB, .inl (cB, n, .inr (.inl (insA V (rk P p0 h) p1 h))))] := hD
          refine lv_iconst (v := 1) hx hb dX0_add_98 (by decide) ?_
          subst hQ9
          exact W.zret (ty := .boolean) (v := 1) hx hb hr (by decide) (fun t ht hW => ⟨⟨1, (), rfl, rfl, by rw [ht]; exact hP, va_K.moved hW.alike hK, hD⟩, hS.F ht⟩) hS.2.2 dX0_add_99
        · -- not taken at 31: ¬ (nI i) ≤ (nI (rk P p0 h))
          obtain ⟨i, rfl⟩ : ∃ i9, i = i9 + 1 := by rcases i with _ | i9; exact absurd (nI_le (Nat.zero_le _) (by omega)) c_3; exact ⟨i9, rfl⟩
          have e7 : rk P p0 h ≤ i := by rcases Nat.lt_or_ge i (rk P p0 h) with q | q; exact absurd (nI_le q (by omega)) c_3; exact q
          refine lv_aload_n hx hb dX0_add_34 rfl (lv_at hl 2 rfl) ?_
          refine va_get (D := (dC, dI)) (ci := 1) (v := .ref oA) (C := RX0) (T := TX0) (N := 3) hx hb hts (by decide +kernel) hown hK hP 0 rfl rfl 0 (by decide) (hts (.fieldLink RX0 15 "RelativeFiles$Shelf" "places" "[I") (by decide +kernel)) (fun _ h9 => h9) rfl dX0_add_35 ?_
          refine lv_iload hx hb dX0_add_38 (lv_at hl 0 rfl) ?_
          refine lv_aload_n hx hb dX0_add_40 rfl (lv_at hl 2 rfl) ?_
          refine va_get (D := (dC, dI)) (ci := 1) (v := .ref oA) (C := RX0) (T := TX0) (N := 3) hx hb hts (by decide +kernel) hown hK hP 0 rfl rfl 0 (by decide) (hts (.fieldLink RX0 15 "RelativeFiles$Shelf" "places" "[I") (by decide +kernel)) (fun _ h9 => h9) rfl dX0_add_41 ?_
          refine lv_iload hx hb dX0_add_44 (lv_at hl 0 rfl) ?_
          refine lv_iconst (v := 1) hx hb dX0_add_46 (by decide) ?_
          refine lv_isub hx hb dX0_add_47 ?_
          rw [show (nI (i + 1)) - 1 = nI i from nI_pred i]
          refine va_iald hx hb hK hP 1 0 rfl rfl (vp_in_nI (by omega) (by omega)) dX0_add_48 ?_
          rw [show (shU P (i + 1) h) ((nI i).toNatClampNeg) = shU P (i + 1) h i from by rw [nI_clamp (by omega)]]
          refine va_iast hx hb hK hP hD hS 1 0 rfl rfl (vp_in_nI (by omega) (by omega)) dX0_add_49 (fun H locs hP hD hS => ?_)
          have hP : va_P (dC, dI) vwCl [(oS, .inr (1, [.ref oA, .ref oB, .int (nI h)])), (oA, .inl (cA, n, .inl (upd (shU P (i + 1) h) (nI (i + 1)).toNatClampNeg (shU P (i + 1) h i)))), (oB, .inl (cB, n, .inr (.inl (shU V (i + 1) h))))] H := hP
          have hD : va_D A [(oS, .inr (1, [.ref oA, .ref oB, .int (nI h)])), (oA, .inl (cA, n, .inl (upd (shU P (i + 1) h) (nI (i + 1)).toNatClampNeg (shU P (i + 1) h i)))), (oB, .inl (cB, n, .inr (.inl (shU V (i + 1) h))))] := hD
          rw [show upd (shU P (i + 1) h) (nI (i + 1)).toNatClampNeg (shU P (i + 1) h i) = shU P i h from by rw [nI_clamp (by omega)]; exact shU_step P (by omega)] at hP hD
          refine lv_aload_n hx hb dX0_add_50 rfl (lv_at hl 2 rfl) ?_
          refine va_get (D := (dC, dI)) (ci := 1) (v := .ref oB) (C := RX0) (T := TX0) (N := 3) hx hb hts (by decide +kernel) hown hK hP 0 rfl rfl 1 (by decide) (hts (.fieldLink RX0 21 "RelativeFiles$Shelf" "values" "[J") (by decide +kernel)) (fun _ h9 => h9) rfl dX0_add_51 ?_
          refine lv_iload hx hb dX0_add_54 (lv_at hl 0 rfl) ?_
          refine lv_aload_n hx hb dX0_add_56 rfl (lv_at hl 2 rfl) ?_
          refine va_get (D := (dC, dI)) (ci := 1) (v := .ref oB) (C := RX0) (T := TX0) (N := 3) hx hb hts (by decide +kernel) hown hK hP 0 rfl rfl 1 (by decide) (hts (.fieldLink RX0 21 "RelativeFiles$Shelf" "values" "[J") (by decide +kernel)) (fun _ h9 => h9) rfl dX0_add_57 ?_
          refine lv_iload hx hb dX0_add_60 (lv_at hl 0 rfl) ?_
          refine lv_iconst (v := 1) hx hb dX0_add_62 (by decide) ?_
          refine lv_isub hx hb dX0_add_63 ?_
          rw [show (nI (i + 1)) - 1 = nI i from nI_pred i]
          refine va_lald hx hb hK hP 2 1 rfl rfl (vp_in_nI (by omega) (by omega)) dX0_add_64 ?_
          rw [show (shU V (i + 1) h) ((nI i).toNatClampNeg) = shU V (i + 1) h i from by rw [nI_clamp (by omega)]]
          refine va_last hx hb hK hP hD hS 2 1 rfl rfl (vp_in_nI (by omega) (by omega)) dX0_add_65 (fun H locs hP hD hS => ?_)
          have hP : va_P (dC, dI) vwCl [(oS, .inr (1, [.ref oA, .ref oB, .int (nI h)])), (oA, .inl (cA, n, .inl (shU P i h))), (oB, .inl (cB, n, .inr (.inl (vp_updL (shU V (i + 1) h) (nI (i + 1)).toNatClampNeg (shU V (i + 1) h i)))))] H := hP
          have hD : va_D A [(oS, .inr (1, [.ref oA, .ref oB, .int (nI h)])), (oA, .inl (cA, n, .inl (shU P i h))), (oB, .inl (cB, n, .inr (.inl (vp_updL (shU V (i + 1) h) (nI (i + 1)).toNatClampNeg (shU V (i + 1) h i)))))] := hD
          rw [show vp_updL (shU V (i + 1) h) (nI (i + 1)).toNatClampNeg (shU V (i + 1) h i) = shU V i h from by rw [nI_clamp (by omega)]; exact shU_stepL V (by omega)] at hP hD
          refine lv_iinc (v := (nI i)) (lv' := [(5, .int (nI i)), (4, .int (nI (rk P p0 h))), (0, .ref oS), (1, .int p0), (2, .long p1)]) hx hb dX0_add_66 hl (k := 0) rfl (by rw [show Int32.ofInt (-1) = -1 from by decide]; exact pk_m1 i) (by decide) rfl (fun ls hl => ?_)
          refine lv_goto (tgt := 27) hx hb dX0_add_69 (by decide) ?_
          exact ih i ls _ _ (by omega) (by omega) (by omega) (lv_sub hl [0, 1, 2, 3, 4] rfl) hP hD hS
    exact loop (h + 1) h  ls _ _ (by omega) (Nat.le_refl _) (Nat.le_refl h) hl (by rw [shU_top, shU_top]; exact hP) (by rw [shU_top, shU_top]; exact hD) hS
  · -- not taken at 9: ¬ (nI h) < (nI n)
    exact absurd (nI_lt hlt (by omega)) c_1

set_option maxHeartbeats 1000000 in
set_option maxRecDepth 100000 in
theorem kX0_replace (l : Launch) (dC : Nat → ClassId) (dI : Nat → Nat → Nat) (oS oA oB : Nat) (cA cB : ClassId) (n h : Nat) (P : Nat → Int32) (V : Nat → Int64) (p0 : Int32) (p1 : Int64) (sz : Nat) (hh : h ≤ n) (hn : n ≤ 512) (hq : hasS P h p0) : Met l yX0_replace wsX0_replace ({ frames := 1, cells := 0, slots := 0, locals := 22 }) (va_Pc [.ref oS, .int p0, .long p1] (fun U => U.heap.size = sz ∧ va_P (dC, dI) vwCl [(oS, .inr (1, [.ref oA, .ref oB, .int (nI h)])), (oA, .inl (cA, n, .inl P)), (oB, .inl (cB, n, .inr (.inl V)))] U.heap ∧ va_K (dC, dI) vwCl [(cA, .int), (cB, .long)] U ∧ va_D (fun _ => True) [(oS, .inr (1, [.ref oA, .ref oB, .int (nI h)])), (oA, .inl (cA, n, .inl P)), (oB, .inl (cB, n, .inr (.inl V)))])) (va_Qv (fun (_ : Unit) => True) (fun (_ : Unit) (t : State) => va_P (dC, dI) vwCl [(oS, .inr (1, [.ref oA, .ref oB, .int (nI h)])), (oA, .inl (cA, n, .inl P)), (oB, .inl (cB, n, .inr (.inl (vp_updL V (rk P p0 h) p1))))] t.heap ∧ va_K (dC, dI) vwCl [(cA, .int), (cB, .long)] t ∧ va_D (va_A [(oS, .inr (1, [.ref oA, .ref oB, .int (nI h)])), (oA, .inl (cA, n, .inl P)), (oB, .inl (cB, n, .inr (.inl V)))] sz) [(oS, .inr (1, [.ref oA, .ref oB, .int (nI h)])), (oA, .inl (cA, n, .inl P)), (oB, .inl (cB, n, .inr (.inl (vp_updL V (rk P p0 h) p1))))]) (va_A [(oS, .inr (1, [.ref oA, .ref oB, .int (nI h)])), (oA, .inl (cA, n, .inl P)), (oB, .inl (cB, n, .inr (.inl V)))] sz)) 0 0 (va_A [(oS, .inr (1, [.ref oA, .ref oB, .int (nI h)])), (oA, .inl (cA, n, .inl P)), (oB, .inl (cB, n, .inr (.inl V)))] sz) := by
  refine Met.ofW (cc := cX0_replace) (maxL := 5) (ret := none) (by decide) rfl ?_
  intro p e s m args below meth c s₁ B hml hv
  obtain ⟨rfl, hsz, hP, hK, hD0⟩ := hv
  have hx := B.exec
  have hb := B.bytes
  have hr := B.returns
  have hts := atoms_spec (ws := wsX0_replace) B.pre
  have hown : s.vm.findClass RX0 = some m.cls := findClass_of_methodNamed B.named
  have hlocks := B.notSynchronized
  subst hsz
  have hD := hD0.self (sz := s.heap.size)
  generalize hAe : va_A [(oS, .inr (1, [.ref oA, .ref oB, .int (nI h)])), (oA, .inl (cA, n, .inl P)), (oB, .inl (cB, n, .inr (.inl V)))] s.heap.size = A at hD ⊢
  have hA : ∀ q : Nat, s.heap.size ≤ q → A q := fun q h => by rw [← hAe]; exact Or.inr h
  have hS : va_S A s.heap s.heap [] := va_S.rf
  have hP : va_P (dC, dI) vwCl [(oS, .inr (1, [.ref oA, .ref oB, .int (nI h)])), (oA, .inl (cA, n, .inl P)), (oB, .inl (cB, n, .inr (.inl V)))] s.heap := hP
  have hl := lv_entry ([.ref oS, .int p0, .long p1]) (n := 5) (Nat.le_of_ble_eq_true rfl)
  rw [lg_entry_eq]
  generalize (lg_sl ([.ref oS, .int p0, .long p1]) ++ List.replicate (5 - (lg_sl ([.ref oS, .int p0, .long p1])).length) Slot.unset).toArray = ls at hl ⊢
  have hl : lv_has ls 5 [(0, .ref oS), (1, .int p0), (2, .long p1)] := hl
  refine W_name (fun Q hQ9 => ?_)
  refine lv_aload_n hx hb dX0_replace_0 rfl (lv_at hl 0 rfl) ?_
  refine lv_iload_n hx hb dX0_replace_1 rfl (lv_at hl 1 rfl) ?_
  have hPc := hP.sub (ws' := [(oS, .inr (1, [.ref oA, .ref oB, .int (nI h)])), (oA, .inl (cA, n, .inl P)), (oB, .inl (cB, n, .inr (.inl V)))]) [0, 1, 2] rfl
  have hDc := hD.sub (ws' := [(oS, .inr (1, [.ref oA, .ref oB, .int (nI h)])), (oA, .inl (cA, n, .inl P)), (oB, .inl (cB, n, .inr (.inl V)))]) [0, 1, 2] (by decide) rfl
  have hKc := hK.sub (tys' := [(cA, .int), (cB, .long)]) [0, 1] rfl
  have hFc := va_free (wc := [(oS, .inr (1, [.ref oA, .ref oB, .int (nI h)])), (oA, .inl (cA, n, .inl P)), (oB, .inl (cB, n, .inr (.inl V)))]) hD hS hA [0, 1, 2] rfl
  refine va_calli (va_runV (As := [.int p0]) (rest := []) ⟨hx, hb, hml, hown, hts⟩ (kX0_rank l dC dI oS oA oB cA cB n h P V p0 s.heap.size hh hn) (cwV 1 hts gX0_replace_X0_rank rfl rfl rfl (by decide +kernel) ⟨Nat.le_of_ble_eq_true rfl, Nat.le_of_ble_eq_true rfl⟩) ⟨fun a U g mk q => by obtain ⟨q0, q1, qP, qK, qD⟩ := q; exact ⟨q0, q1, qP, va_K.moved (u := U) (U := U.calling g mk a) (Vm.Alike.refl U.vm) qK, qD⟩, va_recv hKc hPc (ci := 1) (q0 := 0) rfl rfl, fun U hU hW => ⟨rfl, by rw [hU], by rw [hU]; exact hPc, va_K.moved hW.alike hKc, hDc.weaken (fun _ _ _ _ => trivial)⟩⟩ rfl rfl hl.1 rfl (lv_room (Nat.le_of_ble_eq_true rfl)) dX0_replace_2 ⟨Nat.le_of_ble_eq_true rfl, Nat.le_of_ble_eq_true rfl⟩) hS (fun q _ h => hFc q h) hFc (fun r_1 u t H1 locs ht hvm hw hB hz1 hk1 hS => ?_)
  obtain ⟨hP1, hK1, hD1⟩ := hB
  rw [ht] at hP1
  have hK1 := va_K.moved hvm.symm hK1
  try dsimp only at hw
  obtain ⟨hP, hD⟩ := va_join (wr := []) (w1 := [(oS, .inr (1, [.ref oA, .ref oB, .int (nI h)])), (oA, .inl (cA, n, .inl P)), (oB, .inl (cB, n, .inr (.inl V)))]) hP hD [0, 1, 2] [] rfl rfl (by decide) (by decide) hk1 hFc hP1 hD1
  generalize H1 = H at hP hS ⊢
  have hP : va_P (dC, dI) vwCl [(oS, .inr (1, [.ref oA, .ref oB, .int (nI h)])), (oA, .inl (cA, n, .inl P)), (oB, .inl (cB, n, .inr (.inl V)))] H := hP.sub [0, 1, 2] rfl
  have hD : va_D A [(oS, .inr (1, [.ref oA, .ref oB, .int (nI h)])), (oA, .inl (cA, n, .inl P)), (oB, .inl (cB, n, .inr (.inl V)))] := hD.sub [0, 1, 2] (by decide) rfl
  have hK : va_K (dC, dI) vwCl [(cA, .int), (cB, .long)] s := hK
  subst hw
  refine lv_istore (lv' := [(4, .int (nI (rk P p0 h))), (0, .ref oS), (1, .int p0), (2, .long p1)]) hx hb dX0_replace_5 hl (by decide) rfl (fun ls hl => ?_)
  refine lv_aload_n hx hb dX0_replace_7 rfl (lv_at hl 1 rfl) ?_
  refine lv_iload hx hb dX0_replace_8 (lv_at hl 0 rfl) ?_
  refine lv_iload_n hx hb dX0_replace_10 rfl (lv_at hl 2 rfl) ?_
  have hPc := hP.sub (ws' := [(oS, .inr (1, [.ref oA, .ref oB, .int (nI h)])), (oA, .inl (cA, n, .inl P)), (oB, .inl (cB, n, .inr (.inl V)))]) [0, 1, 2] rfl
  have hDc := hD.sub (ws' := [(oS, .inr (1, [.ref oA, .ref oB, .int (nI h)])), (oA, .inl (cA, n, .inl P)), (oB, .inl (cB, n, .inr (.inl V)))]) [0, 1, 2] (by decide) rfl
  have hKc := hK.sub (tys' := [(cA, .int), (cB, .long)]) [0, 1] rfl
  have hFc := va_free (wc := [(oS, .inr (1, [.ref oA, .ref oB, .int (nI h)])), (oA, .inl (cA, n, .inl P)), (oB, .inl (cB, n, .inr (.inl V)))]) hD hS hA [0, 1, 2] rfl
  refine va_calli (va_runV (As := [.int (nI (rk P p0 h)), .int p0]) (rest := []) ⟨hx, hb, hml, hown, hts⟩ (kX0_isAt l dC dI oS oA oB cA cB n h P V (rk P p0 h) p0 H.size hh hn (by first | omega | exact rk_le _ _ _)) (cwV 2 hts gX0_replace_X0_isAt rfl rfl rfl (by decide +kernel) ⟨Nat.le_of_ble_eq_true rfl, Nat.le_of_ble_eq_true rfl⟩) ⟨fun a U g mk q => by obtain ⟨q0, q1, qP, qK, qD⟩ := q; exact ⟨q0, q1, qP, va_K.moved (u := U) (U := U.calling g mk a) (Vm.Alike.refl U.vm) qK, qD⟩, va_recv hKc hPc (ci := 1) (q0 := 0) rfl rfl, fun U hU hW => ⟨rfl, by rw [hU], by rw [hU]; exact hPc, va_K.moved hW.alike hKc, hDc.weaken (fun _ _ _ _ => trivial)⟩⟩ rfl rfl hl.1 rfl (lv_room (Nat.le_of_ble_eq_true rfl)) dX0_replace_11 ⟨Nat.le_of_ble_eq_true rfl, Nat.le_of_ble_eq_true rfl⟩) hS (fun q _ h => hFc q h) hFc (fun r_2 u t H1 locs ht hvm hw hB hz1 hk1 hS => ?_)
  obtain ⟨hP1, hK1, hD1⟩ := hB
  rw [ht] at hP1
  have hK1 := va_K.moved hvm.symm hK1
  try dsimp only at hw
  obtain ⟨hP, hD⟩ := va_join (wr := []) (w1 := [(oS, .inr (1, [.ref oA, .ref oB, .int (nI h)])), (oA, .inl (cA, n, .inl P)), (oB, .inl (cB, n, .inr (.inl V)))]) hP hD [0, 1, 2] [] rfl rfl (by decide) (by decide) hk1 hFc hP1 hD1
  generalize H1 = H at hP hS ⊢
  have hP : va_P (dC, dI) vwCl [(oS, .inr (1, [.ref oA, .ref oB, .int (nI h)])), (oA, .inl (cA, n, .inl P)), (oB, .inl (cB, n, .inr (.inl V)))] H := hP.sub [0, 1, 2] rfl
  have hD : va_D A [(oS, .inr (1, [.ref oA, .ref oB, .int (nI h)])), (oA, .inl (cA, n, .inl P)), (oB, .inl (cB, n, .inr (.inl V)))] := hD.sub [0, 1, 2] (by decide) rfl
  have hK : va_K (dC, dI) vwCl [(cA, .int), (cB, .long)] s := hK
  rcases hw with ⟨b_3, hw⟩ | ⟨b_3, hw⟩
  · -- (rk P p0 h) < h ∧ P (rk P p0 h) = p0
    subst hw
    refine lv_if_eq (tgt := 25) hx hb dX0_replace_14 (by decide) (fun c_4 => ?_) (fun c_4 => ?_)
    · -- taken at 14: 1 = 0
      exact absurd c_4 (by decide)
    · -- not taken at 14: ¬ 1 = 0
      refine lv_aload_n hx hb dX0_replace_17 rfl (lv_at hl 1 rfl) ?_
      refine va_get (D := (dC, dI)) (ci := 1) (v := .ref oB) (C := RX0) (T := TX0) (N := 3) hx hb hts (by decide +kernel) hown hK hP 0 rfl rfl 1 (by decide) (hts (.fieldLink RX0 21 "RelativeFiles$Shelf" "values" "[J") (by decide +kernel)) (fun _ h9 => h9) rfl dX0_replace_18 ?_
      refine lv_iload hx hb dX0_replace_21 (lv_at hl 0 rfl) ?_
      refine lv_lload_n hx hb dX0_replace_23 rfl (lv_at hl 3 rfl) ?_
      refine va_last hx hb hK hP hD hS 2 1 rfl rfl (vp_in_nI (by have := hq.1; omega) (by omega)) dX0_replace_24 (fun H locs hP hD hS => ?_)
      have hP : va_P (dC, dI) vwCl [(oS, .inr (1, [.ref oA, .ref oB, .int (nI h)])), (oA, .inl (cA, n, .inl P)), (oB, .inl (cB, n, .inr (.inl (vp_updL V (nI (rk P p0 h)).toNatClampNeg p1))))] H := hP
      have hD : va_D A [(oS, .inr (1, [.ref oA, .ref oB, .int (nI h)])), (oA, .inl (cA, n, .inl P)), (oB, .inl (cB, n, .inr (.inl (vp_updL V (nI (rk P p0 h)).toNatClampNeg p1))))] := hD
      rw [show vp_updL V (nI (rk P p0 h)).toNatClampNeg p1 = vp_updL V (rk P p0 h) p1 from by rw [nI_clamp (by have := rk_le P p0 h; omega)]] at hP hD
      subst hQ9
      exact W.vret hx hb hr (fun t ht hW => ⟨⟨(), rfl, trivial, by rw [ht]; exact hP, va_K.moved hW.alike hK, hD⟩, hS.F ht⟩) hS.2.2 dX0_replace_25
  · -- ¬ ((rk P p0 h) < h ∧ P (rk P p0 h) = p0)
    subst hw
    exact absurd hq b_3

set_option maxHeartbeats 1000000 in
set_option maxRecDepth 100000 in
theorem kX0_drop (l : Launch) (dC : Nat → ClassId) (dI : Nat → Nat → Nat) (oS oA oB : Nat) (cA cB : ClassId) (n h : Nat) (P : Nat → Int32) (V : Nat → Int64) (p0 : Int32) (sz : Nat) (hh : h ≤ n) (hn : n ≤ 512) (hq : hasS P h p0) : Met l yX0_drop wsX0_drop ({ frames := 1, cells := 0, slots := 0, locals := 22 }) (va_Pc [.ref oS, .int p0] (fun U => U.heap.size = sz ∧ va_P (dC, dI) vwCl [(oS, .inr (1, [.ref oA, .ref oB, .int (nI h)])), (oA, .inl (cA, n, .inl P)), (oB, .inl (cB, n, .inr (.inl V)))] U.heap ∧ va_K (dC, dI) vwCl [(cA, .int), (cB, .long)] U ∧ va_D (fun _ => True) [(oS, .inr (1, [.ref oA, .ref oB, .int (nI h)])), (oA, .inl (cA, n, .inl P)), (oB, .inl (cB, n, .inr (.inl V)))])) (va_Qv (fun (_ : Unit) => True) (fun (_ : Unit) (t : State) => va_P (dC, dI) vwCl [(oS, .inr (1, [.ref oA, .ref oB, .int (nI (h - 1))])), (oA, .inl (cA, n, .inl (delA P (rk P p0 h) (h - 1)))), (oB, .inl (cB, n, .inr (.inl (delA V (rk P p0 h) (h - 1)))))] t.heap ∧ va_K (dC, dI) vwCl [(cA, .int), (cB, .long)] t ∧ va_D (va_A [(oS, .inr (1, [.ref oA, .ref oB, .int (nI h)])), (oA, .inl (cA, n, .inl P)), (oB, .inl (cB, n, .inr (.inl V)))] sz) [(oS, .inr (1, [.ref oA, .ref oB, .int (nI (h - 1))])), (oA, .inl (cA, n, .inl (delA P (rk P p0 h) (h - 1)))), (oB, .inl (cB, n, .inr (.inl (delA V (rk P p0 h) (h - 1)))))]) (va_A [(oS, .inr (1, [.ref oA, .ref oB, .int (nI h)])), (oA, .inl (cA, n, .inl P)), (oB, .inl (cB, n, .inr (.inl V)))] sz)) 0 0 (va_A [(oS, .inr (1, [.ref oA, .ref oB, .int (nI h)])), (oA, .inl (cA, n, .inl P)), (oB, .inl (cB, n, .inr (.inl V)))] sz) := by
  refine Met.ofW (cc := cX0_drop) (maxL := 4) (ret := none) (by decide) rfl ?_
  intro p e s m args below meth c s₁ B hml hv
  obtain ⟨rfl, hsz, hP, hK, hD0⟩ := hv
  have hx := B.exec
  have hb := B.bytes
  have hr := B.returns
  have hts := atoms_spec (ws := wsX0_drop) B.pre
  have hown : s.vm.findClass RX0 = some m.cls := findClass_of_methodNamed B.named
  have hlocks := B.notSynchronized
  subst hsz
  have hD := hD0.self (sz := s.heap.size)
  generalize hAe : va_A [(oS, .inr (1, [.ref oA, .ref oB, .int (nI h)])), (oA, .inl (cA, n, .inl P)), (oB, .inl (cB, n, .inr (.inl V)))] s.heap.size = A at hD ⊢
  have hA : ∀ q : Nat, s.heap.size ≤ q → A q := fun q h => by rw [← hAe]; exact Or.inr h
  have hS : va_S A s.heap s.heap [] := va_S.rf
  have hP : va_P (dC, dI) vwCl [(oS, .inr (1, [.ref oA, .ref oB, .int (nI h)])), (oA, .inl (cA, n, .inl P)), (oB, .inl (cB, n, .inr (.inl V)))] s.heap := hP
  have hl := lv_entry ([.ref oS, .int p0]) (n := 4) (Nat.le_of_ble_eq_true rfl)
  rw [lg_entry_eq]
  generalize (lg_sl ([.ref oS, .int p0]) ++ List.replicate (4 - (lg_sl ([.ref oS, .int p0])).length) Slot.unset).toArray = ls at hl ⊢
  have hl : lv_has ls 4 [(0, .ref oS), (1, .int p0)] := hl
  refine W_name (fun Q hQ9 => ?_)
  refine lv_aload_n hx hb dX0_drop_0 rfl (lv_at hl 0 rfl) ?_
  refine lv_iload_n hx hb dX0_drop_1 rfl (lv_at hl 1 rfl) ?_
  have hPc := hP.sub (ws' := [(oS, .inr (1, [.ref oA, .ref oB, .int (nI h)])), (oA, .inl (cA, n, .inl P)), (oB, .inl (cB, n, .inr (.inl V)))]) [0, 1, 2] rfl
  have hDc := hD.sub (ws' := [(oS, .inr (1, [.ref oA, .ref oB, .int (nI h)])), (oA, .inl (cA, n, .inl P)), (oB, .inl (cB, n, .inr (.inl V)))]) [0, 1, 2] (by decide) rfl
  have hKc := hK.sub (tys' := [(cA, .int), (cB, .long)]) [0, 1] rfl
  have hFc := va_free (wc := [(oS, .inr (1, [.ref oA, .ref oB, .int (nI h)])), (oA, .inl (cA, n, .inl P)), (oB, .inl (cB, n, .inr (.inl V)))]) hD hS hA [0, 1, 2] rfl
  refine va_calli (va_runV (As := [.int p0]) (rest := []) ⟨hx, hb, hml, hown, hts⟩ (kX0_rank l dC dI oS oA oB cA cB n h P V p0 s.heap.size hh hn) (cwV 1 hts gX0_drop_X0_rank rfl rfl rfl (by decide +kernel) ⟨Nat.le_of_ble_eq_true rfl, Nat.le_of_ble_eq_true rfl⟩) ⟨fun a U g mk q => by obtain ⟨q0, q1, qP, qK, qD⟩ := q; exact ⟨q0, q1, qP, va_K.moved (u := U) (U := U.calling g mk a) (Vm.Alike.refl U.vm) qK, qD⟩, va_recv hKc hPc (ci := 1) (q0 := 0) rfl rfl, fun U hU hW => ⟨rfl, by rw [hU], by rw [hU]; exact hPc, va_K.moved hW.alike hKc, hDc.weaken (fun _ _ _ _ => trivial)⟩⟩ rfl rfl hl.1 rfl (lv_room (Nat.le_of_ble_eq_true rfl)) dX0_drop_2 ⟨Nat.le_of_ble_eq_true rfl, Nat.le_of_ble_eq_true rfl⟩) hS (fun q _ h => hFc q h) hFc (fun r_1 u t H1 locs ht hvm hw hB hz1 hk1 hS => ?_)
  obtain ⟨hP1, hK1, hD1⟩ := hB
  rw [ht] at hP1
  have hK1 := va_K.moved hvm.symm hK1
  try dsimp only at hw
  obtain ⟨hP, hD⟩ := va_join (wr := []) (w1 := [(oS, .inr (1, [.ref oA, .ref oB, .int (nI h)])), (oA, .inl (cA, n, .inl P)), (oB, .inl (cB, n, .inr (.inl V)))]) hP hD [0, 1, 2] [] rfl rfl (by decide) (by decide) hk1 hFc hP1 hD1
  generalize H1 = H at hP hS ⊢
  have hP : va_P (dC, dI) vwCl [(oS, .inr (1, [.ref oA, .ref oB, .int (nI h)])), (oA, .inl (cA, n, .inl P)), (oB, .inl (cB, n, .inr (.inl V)))] H := hP.sub [0, 1, 2] rfl
  have hD : va_D A [(oS, .inr (1, [.ref oA, .ref oB, .int (nI h)])), (oA, .inl (cA, n, .inl P)), (oB, .inl (cB, n, .inr (.inl V)))] := hD.sub [0, 1, 2] (by decide) rfl
  have hK : va_K (dC, dI) vwCl [(cA, .int), (cB, .long)] s := hK
  subst hw
  refine lv_istore_n (lv' := [(2, .int (nI (rk P p0 h))), (0, .ref oS), (1, .int p0)]) hx hb dX0_drop_5 rfl hl (by decide) rfl (fun ls hl => ?_)
  refine lv_aload_n hx hb dX0_drop_6 rfl (lv_at hl 1 rfl) ?_
  refine lv_iload_n hx hb dX0_drop_7 rfl (lv_at hl 0 rfl) ?_
  refine lv_iload_n hx hb dX0_drop_8 rfl (lv_at hl 2 rfl) ?_
  have hPc := hP.sub (ws' := [(oS, .inr (1, [.ref oA, .ref oB, .int (nI h)])), (oA, .inl (cA, n, .inl P)), (oB, .inl (cB, n, .inr (.inl V)))]) [0, 1, 2] rfl
  have hDc := hD.sub (ws' := [(oS, .inr (1, [.ref oA, .ref oB, .int (nI h)])), (oA, .inl (cA, n, .inl P)), (oB, .inl (cB, n, .inr (.inl V)))]) [0, 1, 2] (by decide) rfl
  have hKc := hK.sub (tys' := [(cA, .int), (cB, .long)]) [0, 1] rfl
  have hFc := va_free (wc := [(oS, .inr (1, [.ref oA, .ref oB, .int (nI h)])), (oA, .inl (cA, n, .inl P)), (oB, .inl (cB, n, .inr (.inl V)))]) hD hS hA [0, 1, 2] rfl
  refine va_calli (va_runV (As := [.int (nI (rk P p0 h)), .int p0]) (rest := []) ⟨hx, hb, hml, hown, hts⟩ (kX0_isAt l dC dI oS oA oB cA cB n h P V (rk P p0 h) p0 H.size hh hn (by first | omega | exact rk_le _ _ _)) (cwV 2 hts gX0_drop_X0_isAt rfl rfl rfl (by decide +kernel) ⟨Nat.le_of_ble_eq_true rfl, Nat.le_of_ble_eq_true rfl⟩) ⟨fun a U g mk q => by obtain ⟨q0, q1, qP, qK, qD⟩ := q; exact ⟨q0, q1, qP, va_K.moved (u := U) (U := U.calling g mk a) (Vm.Alike.refl U.vm) qK, qD⟩, va_recv hKc hPc (ci := 1) (q0 := 0) rfl rfl, fun U hU hW => ⟨rfl, by rw [hU], by rw [hU]; exact hPc, va_K.moved hW.alike hKc, hDc.weaken (fun _ _ _ _ => trivial)⟩⟩ rfl rfl hl.1 rfl (lv_room (Nat.le_of_ble_eq_true rfl)) dX0_drop_9 ⟨Nat.le_of_ble_eq_true rfl, Nat.le_of_ble_eq_true rfl⟩) hS (fun q _ h => hFc q h) hFc (fun r_2 u t H1 locs ht hvm hw hB hz1 hk1 hS => ?_)
  obtain ⟨hP1, hK1, hD1⟩ := hB
  rw [ht] at hP1
  have hK1 := va_K.moved hvm.symm hK1
  try dsimp only at hw
  obtain ⟨hP, hD⟩ := va_join (wr := []) (w1 := [(oS, .inr (1, [.ref oA, .ref oB, .int (nI h)])), (oA, .inl (cA, n, .inl P)), (oB, .inl (cB, n, .inr (.inl V)))]) hP hD [0, 1, 2] [] rfl rfl (by decide) (by decide) hk1 hFc hP1 hD1
  generalize H1 = H at hP hS ⊢
  have hP : va_P (dC, dI) vwCl [(oS, .inr (1, [.ref oA, .ref oB, .int (nI h)])), (oA, .inl (cA, n, .inl P)), (oB, .inl (cB, n, .inr (.inl V)))] H := hP.sub [0, 1, 2] rfl
  have hD : va_D A [(oS, .inr (1, [.ref oA, .ref oB, .int (nI h)])), (oA, .inl (cA, n, .inl P)), (oB, .inl (cB, n, .inr (.inl V)))] := hD.sub [0, 1, 2] (by decide) rfl
  have hK : va_K (dC, dI) vwCl [(cA, .int), (cB, .long)] s := hK
  rcases hw with ⟨b_3, hw⟩ | ⟨b_3, hw⟩
  · -- (rk P p0 h) < h ∧ P (rk P p0 h) = p0
    subst hw
    refine lv_if_ne (tgt := 16) hx hb dX0_drop_12 (by decide) (fun c_4 => ?_) (fun c_4 => ?_)
    · -- taken at 12: ¬ 1 = 0
      refine lv_aload_n hx hb dX0_drop_16 rfl (lv_at hl 1 rfl) ?_
      refine lv_dup hx hb dX0_drop_17 rfl ?_
      refine va_get (D := (dC, dI)) (ci := 1) (v := .int (nI h)) (C := RX0) (T := TX0) (N := 3) hx hb hts (by decide +kernel) hown hK hP 0 rfl rfl 2 (by decide) (hts (.fieldLink RX0 25 "RelativeFiles$Shelf" "held" "I") (by decide +kernel)) (fun _ h9 => h9) rfl dX0_drop_18 ?_
      refine lv_iconst (v := 1) hx hb dX0_drop_21 (by decide) ?_
      refine lv_isub hx hb dX0_drop_22 ?_
      rw [show (nI h) - 1 = nI (h - 1) from by have := hq.1; rw [← nI_pred (h - 1), Nat.sub_add_cancel (by omega)]]
      refine va_put (D := (dC, dI)) (ci := 1) (v := .int (nI (h - 1))) (ty := .int) (C := RX0) (T := TX0) (N := 3) hx hb hts (by decide +kernel) tyX0 tyX0_ok nmX0 hown hK hP hD hS 0 rfl rfl 2 (by decide) (hts (.fieldLink RX0 25 "RelativeFiles$Shelf" "held" "I") (by decide +kernel)) (fun _ h9 => h9) rfl (by decide +kernel) rfl rfl (Nat.le_of_ble_eq_true rfl) dX0_drop_23 (fun H locs hP hD hS => ?_)
      have hP : va_P (dC, dI) vwCl [(oS, .inr (1, [.ref oA, .ref oB, .int (nI (h - 1))])), (oA, .inl (cA, n, .inl P)), (oB, .inl (cB, n, .inr (.inl V)))] H := hP
      have hD : va_D A [(oS, .inr (1, [.ref oA, .ref oB, .int (nI (h - 1))])), (oA, .inl (cA, n, .inl P)), (oB, .inl (cB, n, .inr (.inl V)))] := hD
      refine lv_iload_n hx hb dX0_drop_26 rfl (lv_at hl 0 rfl) ?_
      refine lv_istore_n (lv' := [(3, .int (nI (rk P p0 h))), (2, .int (nI (rk P p0 h))), (0, .ref oS), (1, .int p0)]) hx hb dX0_drop_27 rfl hl (by decide) rfl (fun ls hl => ?_)
      have hq1 := hq.1
      have loop : ∀ (k i : Nat) (ls : Array Slot) (H : Heap) (locs : List Loc), (rk P p0 h ≤ i) → (h ≤ i + k) → (i ≤ h - 1) → lv_has ls 4 [(3, .int (nI i)), (2, .int (nI (rk P p0 h))), (0, .ref oS), (1, .int p0)] → va_P (dC, dI) vwCl [(oS, .inr (1, [.ref oA, .ref oB, .int (nI (h - 1))])), (oA, .inl (cA, n, .inl (delA P (rk P p0 h) i))), (oB, .inl (cB, n, .inr (.inl (delA V (rk P p0 h) i))))] H → va_D A [(oS, .inr (1, [.ref oA, .ref oB, .int (nI (h - 1))])), (oA, .inl (cA, n, .inl (delA P (rk P p0 h) i))), (oB, .inl (cB, n, .inr (.inl (delA V (rk P p0 h) i))))] → va_S A s.heap H locs → W p l e (headSpec wsX0_drop ({ frames := 1, cells := 0, slots := 0, locals := 22 })).room s m #[(Value.ref oS), (Value.int p0)] below meth c H locs 0 0 Q (F0 m 28 ls []) := by
        intro k
        induction k with
        | zero => intro i ls H locs h1 h2 h3; exact absurd h2 (by omega)
        | succ k ih =>
          intro i ls H locs h1 h2 h3 hl hP hD hS
          refine lv_iload_n hx hb dX0_drop_28 rfl (lv_at hl 0 rfl) ?_
          refine lv_aload_n hx hb dX0_drop_29 rfl (lv_at hl 2 rfl) ?_
          refine va_get (D := (dC, dI)) (ci := 1) (v := .int (nI (h - 1))) (C := RX0) (T := TX0) (N := 3) hx hb hts (by decide +kernel) hown hK hP 0 rfl rfl 2 (by decide) (hts (.fieldLink RX0 25 "RelativeFiles$Shelf" "held" "I") (by decide +kernel)) (fun _ h9 => h9) rfl dX0_drop_30 ?_
          refine lv_icmp_ge (tgt := 70) hx hb dX0_drop_33 (by decide) (fun c_5 => ?_) (fun c_5 => ?_)
          · -- taken at 33: (nI (h - 1)) ≤ (nI i)
            have hi2 : i = h - 1 := by have := (nI_leI (by omega) (by omega)).mp c_5; omega
            subst hQ9
            subst hi2
            exact W.vret hx hb hr (fun t ht hW => ⟨⟨(), rfl, trivial, by rw [ht]; exact hP, va_K.moved hW.alike hK, hD⟩, hS.F ht⟩) hS.2.2 dX0_drop_70
          · -- not taken at 33: ¬ (nI (h - 1)) ≤ (nI i)
            have hi2 : i < h - 1 := by rcases Nat.lt_or_ge i (h - 1) with q | q; exact q; exact absurd (nI_le q (by omega)) c_5
            refine lv_aload_n hx hb dX0_drop_36 rfl (lv_at hl 2 rfl) ?_
            refine va_get (D := (dC, dI)) (ci := 1) (v := .ref oA) (C := RX0) (T := TX0) (N := 3) hx hb hts (by decide +kernel) hown hK hP 0 rfl rfl 0 (by decide) (hts (.fieldLink RX0 15 "RelativeFiles$Shelf" "places" "[I") (by decide +kernel)) (fun _ h9 => h9) rfl dX0_drop_37 ?_
            refine lv_iload_n hx hb dX0_drop_40 rfl (lv_at hl 0 rfl) ?_
            refine lv_aload_n hx hb dX0_drop_41 rfl (lv_at hl 2 rfl) ?_
            refine va_get (D := (dC, dI)) (ci := 1) (v := .ref oA) (C := RX0) (T := TX0) (N := 3) hx hb hts (by decide +kernel) hown hK hP 0 rfl rfl 0 (by decide) (hts (.fieldLink RX0 15 "RelativeFiles$Shelf" "places" "[I") (by decide +kernel)) (fun _ h9 => h9) rfl dX0_drop_42 ?_
            refine lv_iload_n hx hb dX0_drop_45 rfl (lv_at hl 0 rfl) ?_
            refine lv_iconst (v := 1) hx hb dX0_drop_46 (by decide) ?_
            refine lv_iadd hx hb dX0_drop_47 ?_
            rw [show (nI i) + 1 = nI (i + 1) from (nI_succ i).symm]
            refine va_iald hx hb hK hP 1 0 rfl rfl (vp_in_nI (by omega) (by omega)) dX0_drop_48 ?_
            rw [show (delA P (rk P p0 h) i) ((nI (i + 1)).toNatClampNeg) = delA P (rk P p0 h) i (i + 1) from by rw [nI_clamp (by omega)]]
            refine va_iast hx hb hK hP hD hS 1 0 rfl rfl (vp_in_nI (by omega) (by omega)) dX0_drop_49 (fun H locs hP hD hS => ?_)
            have hP : va_P (dC, dI) vwCl [(oS, .inr (1, [.ref oA, .ref oB, .int (nI (h - 1))])), (oA, .inl (cA, n, .inl (upd (delA P (rk P p0 h) i) (nI i).toNatClampNeg (delA P (rk P p0 h) i (i + 1))))), (oB, .inl (cB, n, .inr (.inl (delA V (rk P p0 h) i))))] H := hP
            have hD : va_D A [(oS, .inr (1, [.ref oA, .ref oB, .int (nI (h - 1))])), (oA, .inl (cA, n, .inl (upd (delA P (rk P p0 h) i) (nI i).toNatClampNeg (delA P (rk P p0 h) i (i + 1))))), (oB, .inl (cB, n, .inr (.inl (delA V (rk P p0 h) i))))] := hD
            rw [show upd (delA P (rk P p0 h) i) (nI i).toNatClampNeg (delA P (rk P p0 h) i (i + 1)) = delA P (rk P p0 h) (i + 1) from by rw [nI_clamp (by omega)]; exact delA_step P (by omega)] at hP hD
            refine lv_aload_n hx hb dX0_drop_50 rfl (lv_at hl 2 rfl) ?_
            refine va_get (D := (dC, dI)) (ci := 1) (v := .ref oB) (C := RX0) (T := TX0) (N := 3) hx hb hts (by decide +kernel) hown hK hP 0 rfl rfl 1 (by decide) (hts (.fieldLink RX0 21 "RelativeFiles$Shelf" "values" "[J") (by decide +kernel)) (fun _ h9 => h9) rfl dX0_drop_51 ?_
            refine lv_iload_n hx hb dX0_drop_54 rfl (lv_at hl 0 rfl) ?_
            refine lv_aload_n hx hb dX0_drop_55 rfl (lv_at hl 2 rfl) ?_
            refine va_get (D := (dC, dI)) (ci := 1) (v := .ref oB) (C := RX0) (T := TX0) (N := 3) hx hb hts (by decide +kernel) hown hK hP 0 rfl rfl 1 (by decide) (hts (.fieldLink RX0 21 "RelativeFiles$Shelf" "values" "[J") (by decide +kernel)) (fun _ h9 => h9) rfl dX0_drop_56 ?_
            refine lv_iload_n hx hb dX0_drop_59 rfl (lv_at hl 0 rfl) ?_
            refine lv_iconst (v := 1) hx hb dX0_drop_60 (by decide) ?_
            refine lv_iadd hx hb dX0_drop_61 ?_
            rw [show (nI i) + 1 = nI (i + 1) from (nI_succ i).symm]
            refine va_lald hx hb hK hP 2 1 rfl rfl (vp_in_nI (by omega) (by omega)) dX0_drop_62 ?_
            rw [show (delA V (rk P p0 h) i) ((nI (i + 1)).toNatClampNeg) = delA V (rk P p0 h) i (i + 1) from by rw [nI_clamp (by omega)]]
            refine va_last hx hb hK hP hD hS 2 1 rfl rfl (vp_in_nI (by omega) (by omega)) dX0_drop_63 (fun H locs hP hD hS => ?_)
            have hP : va_P (dC, dI) vwCl [(oS, .inr (1, [.ref oA, .ref oB, .int (nI (h - 1))])), (oA, .inl (cA, n, .inl (delA P (rk P p0 h) (i + 1)))), (oB, .inl (cB, n, .inr (.inl (vp_updL (delA V (rk P p0 h) i) (nI i).toNatClampNeg (delA V (rk P p0 h) i (i + 1))))))] H := hP
            have hD : va_D A [(oS, .inr (1, [.ref oA, .ref oB, .int (nI (h - 1))])), (oA, .inl (cA, n, .inl (delA P (rk P p0 h) (i + 1)))), (oB, .inl (cB, n, .inr (.inl (vp_updL (delA V (rk P p0 h) i) (nI i).toNatClampNeg (delA V (rk P p0 h) i (i + 1))))))] := hD
            rw [show vp_updL (delA V (rk P p0 h) i) (nI i).toNatClampNeg (delA V (rk P p0 h) i (i + 1)) = delA V (rk P p0 h) (i + 1) from by rw [nI_clamp (by omega)]; exact delA_stepL V (by omega)] at hP hD
            refine lv_iinc (v := (nI (i + 1))) (lv' := [(3, .int (nI (i + 1))), (2, .int (nI (rk P p0 h))), (0, .ref oS), (1, .int p0)]) hx hb dX0_drop_64 hl (k := 0) rfl ((nI_succ i).symm) (by decide) rfl (fun ls hl => ?_)
            refine lv_goto (tgt := 28) hx hb dX0_drop_67 (by decide) ?_
            exact ih (i + 1) ls _ _ (by omega) (by omega) (by omega) (lv_sub hl [0, 1, 2, 3] rfl) hP hD hS
      exact loop h (rk P p0 h)  ls _ _ (Nat.le_refl _) (by omega) (by omega) hl (by rw [delA_0, delA_0]; exact hP) (by rw [delA_0, delA_0]; exact hD) hS
    · -- not taken at 12: 1 = 0
      exact absurd c_4 (by decide)
  · -- ¬ ((rk P p0 h) < h ∧ P (rk P p0 h) = p0)
    subst hw
    exact absurd hq b_3
end
section
set_option maxHeartbeats 1000000 in
set_option maxRecDepth 100000 in
theorem kX0_init (l : Launch) (dC : Nat → ClassId) (dI : Nat → Nat → Nat) (oS k : Nat) (sz : Nat) (hk : k ≤ 512) : Met l yX0_init wsX0_init ({ frames := 1, cells := 2, slots := 1024, locals := 20 }) (va_Pc [.ref oS, .int (nI k)] (fun U => U.heap.size = sz ∧ va_P (dC, dI) vwCl [(oS, .inr (1, [.null, .null, .int 0]))] U.heap ∧ va_K (dC, dI) vwCl [] U ∧ va_D (fun _ => True) [(oS, .inr (1, [.null, .null, .int 0]))])) (va_Qv (fun (_ : Unit) => True) (fun (_ : Unit) (t : State) => ∃ (qa qb : Nat) (ca cb : ClassId), va_P (dC, dI) vwCl [(oS, .inr (1, [.ref qa, .ref qb, .int (nI 0)])), (qa, .inl (ca, k, .inl (fun _ => 0))), (qb, .inl (cb, k, .inr (.inl (fun _ => 0))))] t.heap ∧ va_K (dC, dI) vwCl [(ca, .int), (cb, .long)] t ∧ va_D (va_A [(oS, .inr (1, [.null, .null, .int 0]))] sz) [(oS, .inr (1, [.ref qa, .ref qb, .int (nI 0)])), (qa, .inl (ca, k, .inl (fun _ => 0))), (qb, .inl (cb, k, .inr (.inl (fun _ => 0))))]) (va_A [(oS, .inr (1, [.null, .null, .int 0]))] sz)) 2 1024 (va_A [(oS, .inr (1, [.null, .null, .int 0]))] sz) := by
  refine Met.ofW (cc := cX0_init) (maxL := 3) (ret := none) (by decide) rfl ?_
  intro p e s m args below meth c s₁ B hml hv
  obtain ⟨rfl, hsz, hP, hK, hD0⟩ := hv
  have hx := B.exec
  have hb := B.bytes
  have hr := B.returns
  have hts := atoms_spec (ws := wsX0_init) B.pre
  have hown : s.vm.findClass RX0 = some m.cls := findClass_of_methodNamed B.named
  have hlocks := B.notSynchronized
  have hin : meth.name = "<init>" := (name_of_methodNamed B.named B.method).1
  subst hsz
  have hD := hD0.self (sz := s.heap.size)
  generalize hAe : va_A [(oS, .inr (1, [.null, .null, .int 0]))] s.heap.size = A at hD ⊢
  have hA : ∀ q : Nat, s.heap.size ≤ q → A q := fun q h => by rw [← hAe]; exact Or.inr h
  have hS : va_S A s.heap s.heap [] := va_S.rf
  have hP : va_P (dC, dI) vwCl [(oS, .inr (1, [.null, .null, .int 0]))] s.heap := hP
  have hl := lv_entry ([.ref oS, .int (nI k)]) (n := 3) (Nat.le_of_ble_eq_true rfl)
  rw [lg_entry_eq]
  generalize (lg_sl ([.ref oS, .int (nI k)]) ++ List.replicate (3 - (lg_sl ([.ref oS, .int (nI k)])).length) Slot.unset).toArray = ls at hl ⊢
  have hl : lv_has ls 3 [(0, .ref oS), (1, .int (nI k))] := hl
  refine W_name (fun Q hQ9 => ?_)
  refine lv_aload_n hx hb dX0_init_0 rfl (lv_at hl 0 rfl) ?_
  refine W.objInit hx hb hown (hts (.methodLink RX0 3 objectInit) (by decide +kernel)) (hts (.instanceMethod objectInit) (by decide +kernel)) (hts (.code objectInit ⟨#[0xb1]⟩ 1 none) (by decide +kernel)) rfl (by rw [hml]; exact hl.1) rfl dX0_init_1 (Nat.le_of_ble_eq_true rfl) (Nat.le_of_ble_eq_true rfl) ?_
  refine W.eq (g2 := F0 m 4 ls []) rfl ?_
  refine lv_iconst (v := 0) hx hb dX0_init_4 (by decide) ?_
  refine lv_iload_n hx hb dX0_init_5 rfl (lv_at hl 1 rfl) ?_
  refine va_mmax hx hb (by rw [hml]; exact hl.1.symm) hown (hts (.methodLink RX0 9 Lib.Math.max.name) (by decide +kernel)) (hts (.static Lib.Math.max.name) (by decide +kernel)) (hts (.initialized "java/lang/Math") (by decide +kernel)) (hts (.code Lib.Math.max.name Lib.Math.max.code 2 (some .int)) (by decide +kernel)) (Nat.le_of_ble_eq_true rfl) (Nat.le_of_ble_eq_true rfl) (Nat.le_of_ble_eq_true rfl) (Nat.le_of_ble_eq_true rfl) dX0_init_6 ?_
  rw [show (if 0 < nI k then nI k else 0 : Int32) = nI k from by by_cases q : 0 < k; exact if_pos (by rw [← nI_0]; exact nI_lt q (by omega)); have e : k = 0 := (by omega); subst e; rfl]
  refine lv_istore_n (lv' := [(2, .int (nI k)), (0, .ref oS), (1, .int (nI k))]) hx hb dX0_init_9 rfl hl (by decide) rfl (fun ls hl => ?_)
  refine lv_aload_n hx hb dX0_init_10 rfl (lv_at hl 1 rfl) ?_
  refine lv_iload_n hx hb dX0_init_11 rfl (lv_at hl 0 rfl) ?_
  refine va_newa (atype := .int) (ty := .int) (n := nI k) (N' := k) (a0 := (k, .inl (fun _ => 0))) hx hb (hts (.arrayClass .int) (by decide +kernel)) rfl hK hP hD hS hA (fun _ => rfl) (nI_pos (by omega)) (nI_clamp (by omega)) (by simp only [componentBytes]; omega) (show 0 + 1 ≤ 2 by omega) (show 0 + k ≤ 1024 by omega) dX0_init_12 (fun q_1 ca_2 H hK hP hD hS => ?_)
  have hP : va_P (dC, dI) vwCl [(oS, .inr (1, [.null, .null, .int 0])), (q_1, .inl (ca_2, k, .inl (fun _ => 0)))] H := hP
  have hD : va_D A [(oS, .inr (1, [.null, .null, .int 0])), (q_1, .inl (ca_2, k, .inl (fun _ => 0)))] := hD
  have hK : va_K (dC, dI) vwCl [(ca_2, .int)] s := hK
  refine va_putF (D := (dC, dI)) (ci := 1) (v := .ref q_1) (ty := (.array .int)) (C := RX0) (T := TX0) (N := 3) hx hb hts (by decide +kernel) tyX0 tyX0_ok nmX0 hown hK hP hD hS 0 rfl rfl 0 (by decide) (hts (.fieldLink RX0 15 "RelativeFiles$Shelf" "places" "[I") (by decide +kernel)) (fun _ h9 => h9) rfl hin rfl (by decide +kernel) rfl rfl (Nat.le_of_ble_eq_true rfl) dX0_init_14 (fun H locs hP hD hS => ?_)
  have hP : va_P (dC, dI) vwCl [(oS, .inr (1, [.ref q_1, .null, .int 0])), (q_1, .inl (ca_2, k, .inl (fun _ => 0)))] H := hP
  have hD : va_D A [(oS, .inr (1, [.ref q_1, .null, .int 0])), (q_1, .inl (ca_2, k, .inl (fun _ => 0)))] := hD
  refine lv_aload_n hx hb dX0_init_17 rfl (lv_at hl 1 rfl) ?_
  refine lv_iload_n hx hb dX0_init_18 rfl (lv_at hl 0 rfl) ?_
  refine va_newa (atype := .long) (ty := .long) (n := nI k) (N' := k) (a0 := (k, .inr (.inl (fun _ => 0)))) hx hb (hts (.arrayClass .long) (by decide +kernel)) rfl hK hP hD hS hA (fun _ => rfl) (nI_pos (by omega)) (nI_clamp (by omega)) (by simp only [componentBytes]; omega) (show (0 + 1) + 1 ≤ 2 by omega) (show (0 + k) + k ≤ 1024 by omega) dX0_init_19 (fun q_3 ca_4 H hK hP hD hS => ?_)
  have hP : va_P (dC, dI) vwCl [(oS, .inr (1, [.ref q_1, .null, .int 0])), (q_1, .inl (ca_2, k, .inl (fun _ => 0))), (q_3, .inl (ca_4, k, .inr (.inl (fun _ => 0))))] H := hP
  have hD : va_D A [(oS, .inr (1, [.ref q_1, .null, .int 0])), (q_1, .inl (ca_2, k, .inl (fun _ => 0))), (q_3, .inl (ca_4, k, .inr (.inl (fun _ => 0))))] := hD
  have hK : va_K (dC, dI) vwCl [(ca_2, .int), (ca_4, .long)] s := hK
  refine va_putF (D := (dC, dI)) (ci := 1) (v := .ref q_3) (ty := (.array .long)) (C := RX0) (T := TX0) (N := 3) hx hb hts (by decide +kernel) tyX0 tyX0_ok nmX0 hown hK hP hD hS 0 rfl rfl 1 (by decide) (hts (.fieldLink RX0 21 "RelativeFiles$Shelf" "values" "[J") (by decide +kernel)) (fun _ h9 => h9) rfl hin rfl (by decide +kernel) rfl rfl (Nat.le_of_ble_eq_true rfl) dX0_init_21 (fun H locs hP hD hS => ?_)
  have hP : va_P (dC, dI) vwCl [(oS, .inr (1, [.ref q_1, .ref q_3, .int 0])), (q_1, .inl (ca_2, k, .inl (fun _ => 0))), (q_3, .inl (ca_4, k, .inr (.inl (fun _ => 0))))] H := hP
  have hD : va_D A [(oS, .inr (1, [.ref q_1, .ref q_3, .int 0])), (q_1, .inl (ca_2, k, .inl (fun _ => 0))), (q_3, .inl (ca_4, k, .inr (.inl (fun _ => 0))))] := hD
  refine lv_aload_n hx hb dX0_init_24 rfl (lv_at hl 1 rfl) ?_
  refine lv_iconst (v := 0) hx hb dX0_init_25 (by decide) ?_
  refine va_put (D := (dC, dI)) (ci := 1) (v := .int 0) (ty := .int) (C := RX0) (T := TX0) (N := 3) hx hb hts (by decide +kernel) tyX0 tyX0_ok nmX0 hown hK hP hD hS 0 rfl rfl 2 (by decide) (hts (.fieldLink RX0 25 "RelativeFiles$Shelf" "held" "I") (by decide +kernel)) (fun _ h9 => h9) rfl (by decide +kernel) rfl rfl (Nat.le_of_ble_eq_true rfl) dX0_init_26 (fun H locs hP hD hS => ?_)
  have hP : va_P (dC, dI) vwCl [(oS, .inr (1, [.ref q_1, .ref q_3, .int 0])), (q_1, .inl (ca_2, k, .inl (fun _ => 0))), (q_3, .inl (ca_4, k, .inr (.inl (fun _ => 0))))] H := hP
  have hD : va_D A [(oS, .inr (1, [.ref q_1, .ref q_3, .int 0])), (q_1, .inl (ca_2, k, .inl (fun _ => 0))), (q_3, .inl (ca_4, k, .inr (.inl (fun _ => 0))))] := hD
  subst hQ9
  refine W.widen (k := 2) (n := 1024) (by omega) (by omega) ?_
  exact W.vret hx hb hr (fun t ht hW => ⟨⟨(), rfl, trivial, q_1, q_3, ca_2, ca_4, by rw [ht]; exact hP, va_K.moved hW.alike hK, hD⟩, hS.F ht⟩) hS.2.2 dX0_init_29
end
section
/-! the two states, and what each method of the class makes of its own -/
theorem W_topi {p : Program} {l : Launch} {e : Env} {R : Room} {s : State} {m : MethodId} {args : Array Value} {below : List Frame} {meth : Method} {c : Code} {H : Heap} {locs : List Loc} {cells slots : Nat} {Q : State → Prop} {pc : Nat} {ls : Array Slot} {rest : List Value} {x : Int32} (y : Int32) (h : x = y) (k : W p l e R s m args below meth c H locs cells slots Q (F0 m pc ls (.int y :: rest))) : W p l e R s m args below meth c H locs cells slots Q (F0 m pc ls (.int x :: rest)) := h ▸ k
theorem W_topl {p : Program} {l : Launch} {e : Env} {R : Room} {s : State} {m : MethodId} {args : Array Value} {below : List Frame} {meth : Method} {c : Code} {H : Heap} {locs : List Loc} {cells slots : Nat} {Q : State → Prop} {pc : Nat} {ls : Array Slot} {rest : List Value} {x : Int64} (y : Int64) (h : x = y) (k : W p l e R s m args below meth c H locs cells slots Q (F0 m pc ls (.long y :: rest))) : W p l e R s m args below meth c H locs cells slots Q (F0 m pc ls (.long x :: rest)) := h ▸ k
/-- the class: there, openMode, standing, position, lastRead, lastValue, keyDigits; the shelf's places, values, held -/
abbrev CSt : Type := Int32 × Int32 × Int32 × Int32 × Int32 × Int64 × Nat × (Nat → Int32) × (Nat → Int64) × Nat
abbrev wF (oF oS oA oB : Nat) (cA cB : ClassId) (n : Nat) (mo : Int32) (u : CSt) : va_W := match u with
  | (th, om, sd, po, lr, lv, d, P, V, h) => [(oF, .inr (2, [.int mo, .ref oS, .int th, .int om, .int sd, .int po, .int lr, .long lv, .int (nI d)])), (oS, .inr (1, [.ref oA, .ref oB, .int (nI h)])), (oA, .inl (cA, n, .inl P)), (oB, .inl (cB, n, .inr (.inl V)))]
abbrev isPl (mo x : Int32) : Prop := ¬ x < 1 ∧ ¬ mo < x
abbrev tooL (x : Int32) (d : Nat) : Prop := ¬ cDiv x d ≤ 0
def fRef (om : Int32) : Int32 := if om = -1 then 42 else if om = 0 then 0 else if om = 2 then 0 else 47
def fPC (lr x : Int32) : Int32 := if x = -1 then lr else x
def fPO (om : Int32) (P : Nat → Int32) (h : Nat) : Int32 := if om = 2 then 0 else fGr P h + 1
def fPS (P : Nat → Int32) (h : Nat) (op x : Int32) : Int32 := if op = 0 then (if hasS P h x then x else 0) else if op = 1 then fFA P h x else if op = 2 then (if hasS P h x then x else fFA P h x) else if op = 3 then fLB P h x else if op = 4 then (if hasS P h x then x else fLB P h x) else 0
def fPF (sd po : Int32) (P : Nat → Int32) (h : Nat) (b : Int32) : Int32 := if sd = 1 then (if hasS P h po then po else if b = 0 then fFA P h po else fLB P h po) else if b = 0 then fFA P h po else fLB P h po
def fSC (om : Int32) (P : Nat → Int32) (h : Nat) (x pl : Int32) : Int32 := if om = -1 then 42 else if om = 2 then (if hasS P h pl then 0 else if x = -1 then 43 else 23) else 49
def fSL (om lr : Int32) : Int32 := if om = -1 then lr else if om = 2 then 0 else lr
theorem fSC_has {om : Int32} {P : Nat → Int32} {h : Nat} {x pl : Int32} (e : fSC om P h x pl = 0) : hasS P h pl := by
  unfold fSC at e
  split at e
  · exact absurd e (by decide)
  · split at e
    · split at e
      · assumption
      · split at e <;> exact absurd e (by decide)
    · exact absurd e (by decide)
def fClose (u : CSt) : Int32 × CSt := match u with
  | (th, om, sd, po, lr, lv, d, P, V, h) => if om = -1 then (42, (th, om, sd, po, lr, lv, d, P, V, h)) else (0, (th, -1, 0, 0, 0, lv, d, P, V, h))
def fOpF2 (m : Int32) (u : CSt) : Int32 × CSt := match u with
  | (th, _, _, _, _, lv, d, P, V, h) => (if m = 3 then (if th = 0 then 5 else 0) else 0, (1, m, 0, 0, 0, lv, d, P, V, if m = 1 then 0 else h))
def fOpF (m : Int32) (u : CSt) : Int32 × CSt := match u with
  | (th, om, sd, po, lr, lv, d, P, V, h) => if om = -1 then (if th = 0 then (if m = 0 then (35, (th, om, 0, 0, 0, lv, d, P, V, h)) else if m = 2 then (35, (th, om, 0, 0, 0, lv, d, P, V, h)) else fOpF2 m (th, om, sd, po, lr, lv, d, P, V, h)) else fOpF2 m (th, om, sd, po, lr, lv, d, P, V, h)) else (41, (th, om, sd, po, lr, lv, d, P, V, h))
def fOpen (m : Int32) (u : CSt) : Int32 × CSt := if m < 0 then (-1, u) else if m ≤ 4 then (if m = 4 then fClose u else fOpF m u) else (-1, u)
def fWr2 (mo pl : Int32) (v : Int64) (u : CSt) : Int32 × CSt := match u with
  | (th, om, sd, po, _, lv, d, P, V, h) => if isPl mo pl then (if tooL pl d then (24, (th, om, sd, po, 0, lv, d, P, V, h)) else if hasS P h pl then (22, (th, om, sd, po, 0, lv, d, P, V, h)) else (0, (th, om, sd, po, 0, v, d, insA P (rk P pl h) pl h, insA V (rk P pl h) v h, h + 1))) else (24, (th, om, sd, po, 0, lv, d, P, V, h))
def fWrite (mo x : Int32) (v : Int64) (u : CSt) : Int32 × CSt := match u with
  | (th, om, sd, po, lr, lv, d, P, V, h) => if om = -1 then (42, (th, om, sd, po, lr, lv, d, P, V, h)) else if om = 0 then (48, (th, om, sd, po, lr, lv, d, P, V, h)) else if x = -1 then fWr2 mo (fPO om P h) v (th, om, sd, po, lr, lv, d, P, V, h) else fWr2 mo x v (th, om, sd, po, lr, lv, d, P, V, h)
def fRead (x : Int32) (u : CSt) : Int32 × CSt := match u with
  | (th, om, sd, po, lr, lv, d, P, V, h) => if fRef om = 0 then (if hasS P h x then (0, (th, om, 0, x, x, fRec P V h x, d, P, V, h)) else (23, (th, om, 2, 0, 0, lv, d, P, V, h))) else (fRef om, (th, om, sd, po, lr, lv, d, P, V, h))
def fStart (op x : Int32) (u : CSt) : Int32 × CSt := match u with
  | (th, om, sd, po, lr, lv, d, P, V, h) => if op < 0 then (-1, (th, om, sd, po, lr, lv, d, P, V, h)) else if op ≤ 4 then (if fRef om = 0 then (if fPS P h op x = 0 then (23, (th, om, 2, 0, 0, lv, d, P, V, h)) else (0, (th, om, 1, fPS P h op x, 0, lv, d, P, V, h))) else (fRef om, (th, om, sd, po, lr, lv, d, P, V, h))) else (-1, (th, om, sd, po, lr, lv, d, P, V, h))
def fNx2 (pl : Int32) (u : CSt) : Int32 × CSt := match u with
  | (th, om, _, _, _, lv, d, P, V, h) => if pl = 0 then (10, (th, om, 2, 0, 0, lv, d, P, V, h)) else if tooL pl d then (14, (th, om, 2, 0, 0, lv, d, P, V, h)) else (0, (th, om, 0, pl, pl, fRec P V h pl, d, P, V, h))
def fNext (b : Int32) (u : CSt) : Int32 × CSt := match u with
  | (th, om, sd, po, lr, lv, d, P, V, h) => if fRef om = 0 then (if sd = 2 then (46, (th, om, sd, po, 0, lv, d, P, V, h)) else fNx2 (fPF sd po P h b) (th, om, sd, po, lr, lv, d, P, V, h)) else (fRef om, (th, om, sd, po, lr, lv, d, P, V, h))
def fRewr (x : Int32) (v : Int64) (u : CSt) : Int32 × CSt := match u with
  | (th, om, sd, po, lr, lv, d, P, V, h) => if fSC om P h x (fPC lr x) = 0 then (fSC om P h x (fPC lr x), (th, om, sd, po, fSL om lr, v, d, P, vp_updL V (rk P (fPC lr x) h) v, h)) else (fSC om P h x (fPC lr x), (th, om, sd, po, fSL om lr, lv, d, P, V, h))
def fRem (x : Int32) (u : CSt) : Int32 × CSt := match u with
  | (th, om, sd, po, lr, lv, d, P, V, h) => if fSC om P h x (fPC lr x) = 0 then (fSC om P h x (fPC lr x), (th, om, sd, po, fSL om lr, lv, d, delA P (rk P (fPC lr x) h) (h - 1), delA V (rk P (fPC lr x) h) (h - 1), h - 1)) else (fSC om P h x (fPC lr x), (th, om, sd, po, fSL om lr, lv, d, P, V, h))
def fDig (x : Int32) (u : CSt) : Int32 × CSt := match u with
  | (th, om, sd, po, lr, lv, d, P, V, h) => if x < 1 then (-1, (th, om, sd, po, lr, lv, d, P, V, h)) else if x ≤ 9 then (nI d, (th, om, sd, po, lr, lv, x.toNatClampNeg, P, V, h)) else (-1, (th, om, sd, po, lr, lv, d, P, V, h))
def fCount (mo w : Int32) (u : CSt) : Int32 := match u with
  | (th, om, _, _, _, _, _, P, _, h) => if w = 0 then mo else if w = 1 then (if th = 0 then 0 else 1) else if w = 2 then om else if w = 3 then fGr P h else if w = 4 then fLe P h else -1
/-- most, held to 0 .. 65536 -/
def cM (x : Int32) : Nat := if x < 0 then 0 else if 65536 < x then 65536 else x.toNatClampNeg
theorem nI_back {x : Int32} (h : ¬ x < 0) : nI x.toNatClampNeg = x := by
  obtain ⟨j, hj, rfl⟩ := nI_of h
  rw [nI_clamp hj]
theorem cM_le (x : Int32) : cM x ≤ 65536 := by
  unfold cM
  split
  · omega
  · split
    · omega
    · rename_i h1 h2
      obtain ⟨j, hj, rfl⟩ := nI_of h1
      rw [nI_clamp hj]
      have h2 : ¬ nI 65536 < nI j := h2
      rw [nI_ltI (by omega) hj] at h2
      omega
theorem cM_cls (x : Int32) : (if 0 < (if 65536 < x then 65536 else x) then (if 65536 < x then 65536 else x) else 0 : Int32) = nI (cM x) := by
  unfold cM
  by_cases h1 : x < 0
  · rw [if_pos h1]
    have h2 : ¬ (65536 : Int32) < x := by
      rw [Int32.lt_iff_toInt_lt] at h1 ⊢
      have e1 : (0 : Int32).toInt = 0 := rfl
      have e2 : (65536 : Int32).toInt = 65536 := rfl
      omega
    have h3 : ¬ (0 : Int32) < x := by
      rw [Int32.lt_iff_toInt_lt] at h1 ⊢
      omega
    rw [if_neg h2, if_neg h3]; rfl
  · rw [if_neg h1]
    by_cases h2 : (65536 : Int32) < x
    · rw [if_pos h2, if_pos h2, if_pos (by decide)]; rfl
    · rw [if_neg h2, if_neg h2, nI_back h1]
      by_cases h3 : (0 : Int32) < x
      · rw [if_pos h3]
      · rw [if_neg h3]
        apply Int32.toInt_inj.mp
        rw [Int32.lt_iff_toInt_lt] at h1 h3
        have e1 : (0 : Int32).toInt = 0 := rfl
        omega
theorem nI_min (a b : Nat) (ha : a < 2 ^ 31) (hb : b < 2 ^ 31) : (if nI b < nI a then nI b else nI a) = nI (min a b) := by
  by_cases h : b < a
  · rw [if_pos (nI_lt h ha), Nat.min_eq_right (by omega)]
  · rw [if_neg (nI_nlt (by omega) hb), Nat.min_eq_left (by omega)]
/-- a switch over 0 .. 4, or 0 .. 3: none of them -/
theorem sw_ne {x : Int32} {k : Nat} (hk : k < 2 ^ 31) (h : ¬ x = nI k) : ¬ x.toInt = (k : Int) := fun q => h (Int32.toInt_inj.mp (by rw [q, nI_toInt hk]))
theorem sw_out4 {x : Int32} (h0 : ¬ x = 0) (h1 : ¬ x = 1) (h2 : ¬ x = 2) (h3 : ¬ x = 3) (h4 : ¬ x = 4) : x.toInt < 0 ∨ 4 < x.toInt := by
  have a0 := sw_ne (k := 0) (by decide) h0
  have a1 := sw_ne (k := 1) (by decide) h1
  have a2 := sw_ne (k := 2) (by decide) h2
  have a3 := sw_ne (k := 3) (by decide) h3
  have a4 := sw_ne (k := 4) (by decide) h4
  omega
theorem sw_out3 {x : Int32} (h0 : ¬ x = 0) (h1 : ¬ x = 1) (h2 : ¬ x = 2) (h3 : ¬ x = 3) : x.toInt < 0 ∨ 3 < x.toInt := by
  have a0 := sw_ne (k := 0) (by decide) h0
  have a1 := sw_ne (k := 1) (by decide) h1
  have a2 := sw_ne (k := 2) (by decide) h2
  have a3 := sw_ne (k := 3) (by decide) h3
  omega
end
section
set_option maxHeartbeats 1000000 in
set_option maxRecDepth 100000 in
theorem kX1_stand (l : Launch) (dC : Nat → ClassId) (dI : Nat → Nat → Nat) (oF oS oA oB : Nat) (cA cB : ClassId) (n h d : Nat) (mo th om sd po lr : Int32) (lv : Int64) (P : Nat → Int32) (V : Nat → Int64) (p0 p1 : Int32) (sz : Nat) (hh : h ≤ n) (hn : n ≤ 512) : Met l yX1_stand wsX1_stand ({ frames := 0, cells := 0, slots := 0, locals := 0 }) (va_Pc [.ref oF, .int p0, .int p1] (fun U => U.heap.size = sz ∧ va_P (dC, dI) vwCl [(oF, .inr (2, [.int mo, .ref oS, .int th, .int om, .int sd, .int po, .int lr, .long lv, .int (nI d)])), (oS, .inr (1, [.ref oA, .ref oB, .int (nI h)])), (oA, .inl (cA, n, .inl P)), (oB, .inl (cB, n, .inr (.inl V)))] U.heap ∧ va_K (dC, dI) vwCl [(cA, .int), (cB, .long)] U ∧ va_D (fun _ => True) [(oF, .inr (2, [.int mo, .ref oS, .int th, .int om, .int sd, .int po, .int lr, .long lv, .int (nI d)])), (oS, .inr (1, [.ref oA, .ref oB, .int (nI h)])), (oA, .inl (cA, n, .inl P)), (oB, .inl (cB, n, .inr (.inl V)))])) (va_Qv (fun (_ : Unit) => True) (fun (_ : Unit) (t : State) => va_P (dC, dI) vwCl [(oF, .inr (2, [.int mo, .ref oS, .int th, .int om, .int p0, .int p1, .int 0, .long lv, .int (nI d)])), (oS, .inr (1, [.ref oA, .ref oB, .int (nI h)])), (oA, .inl (cA, n, .inl P)), (oB, .inl (cB, n, .inr (.inl V)))] t.heap ∧ va_K (dC, dI) vwCl [(cA, .int), (cB, .long)] t ∧ va_D (va_A [(oF, .inr (2, [.int mo, .ref oS, .int th, .int om, .int sd, .int po, .int lr, .long lv, .int (nI d)])), (oS, .inr (1, [.ref oA, .ref oB, .int (nI h)])), (oA, .inl (cA, n, .inl P)), (oB, .inl (cB, n, .inr (.inl V)))] sz) [(oF, .inr (2, [.int mo, .ref oS, .int th, .int om, .int p0, .int p1, .int 0, .long lv, .int (nI d)])), (oS, .inr (1, [.ref oA, .ref oB, .int (nI h)])), (oA, .inl (cA, n, .inl P)), (oB, .inl (cB, n, .inr (.inl V)))]) (va_A [(oF, .inr (2, [.int mo, .ref oS, .int th, .int om, .int sd, .int po, .int lr, .long lv, .int (nI d)])), (oS, .inr (1, [.ref oA, .ref oB, .int (nI h)])), (oA, .inl (cA, n, .inl P)), (oB, .inl (cB, n, .inr (.inl V)))] sz)) 0 0 (va_A [(oF, .inr (2, [.int mo, .ref oS, .int th, .int om, .int sd, .int po, .int lr, .long lv, .int (nI d)])), (oS, .inr (1, [.ref oA, .ref oB, .int (nI h)])), (oA, .inl (cA, n, .inl P)), (oB, .inl (cB, n, .inr (.inl V)))] sz) := by
  refine Met.ofW (cc := cX1_stand) (maxL := 3) (ret := none) (by decide) rfl ?_
  intro p e s m args below meth c s₁ B hml hv
  obtain ⟨rfl, hsz, hP, hK, hD0⟩ := hv
  have hx := B.exec
  have hb := B.bytes
  have hr := B.returns
  have hts := atoms_spec (ws := wsX1_stand) B.pre
  have hown : s.vm.findClass RX1 = some m.cls := findClass_of_methodNamed B.named
  have hlocks := B.notSynchronized
  subst hsz
  have hD := hD0.self (sz := s.heap.size)
  generalize hAe : va_A [(oF, .inr (2, [.int mo, .ref oS, .int th, .int om, .int sd, .int po, .int lr, .long lv, .int (nI d)])), (oS, .inr (1, [.ref oA, .ref oB, .int (nI h)])), (oA, .inl (cA, n, .inl P)), (oB, .inl (cB, n, .inr (.inl V)))] s.heap.size = A at hD ⊢
  have hA : ∀ q : Nat, s.heap.size ≤ q → A q := fun q h => by rw [← hAe]; exact Or.inr h
  have hS : va_S A s.heap s.heap [] := va_S.rf
  have hP : va_P (dC, dI) vwCl [(oF, .inr (2, [.int mo, .ref oS, .int th, .int om, .int sd, .int po, .int lr, .long lv, .int (nI d)])), (oS, .inr (1, [.ref oA, .ref oB, .int (nI h)])), (oA, .inl (cA, n, .inl P)), (oB, .inl (cB, n, .inr (.inl V)))] s.heap := hP
  have hl := lv_entry ([.ref oF, .int p0, .int p1]) (n := 3) (Nat.le_of_ble_eq_true rfl)
  rw [lg_entry_eq]
  generalize (lg_sl ([.ref oF, .int p0, .int p1]) ++ List.replicate (3 - (lg_sl ([.ref oF, .int p0, .int p1])).length) Slot.unset).toArray = ls at hl ⊢
  have hl : lv_has ls 3 [(0, .ref oF), (1, .int p0), (2, .int p1)] := hl
  refine W_name (fun Q hQ9 => ?_)
  refine lv_aload_n hx hb dX1_stand_0 rfl (lv_at hl 0 rfl) ?_
  refine lv_iload_n hx hb dX1_stand_1 rfl (lv_at hl 1 rfl) ?_
  refine va_put (D := (dC, dI)) (ci := 2) (v := .int p0) (ty := .int) (C := RX1) (T := TX1) (N := 9) hx hb hts (by decide +kernel) tyX1 tyX1_ok nmX1 hown hK hP hD hS 0 rfl rfl 4 (by decide) (hts (.fieldLink RX1 39 "RelativeFiles" "standing" "I") (by decide +kernel)) (fun _ h9 => h9) rfl (by decide +kernel) rfl rfl (Nat.le_of_ble_eq_true rfl) dX1_stand_2 (fun H locs hP hD hS => ?_)
  have hP : va_P (dC, dI) vwCl [(oF, .inr (2, [.int mo, .ref oS, .int th, .int om, .int p0, .int po, .int lr, .long lv, .int (nI d)])), (oS, .inr (1, [.ref oA, .ref oB, .int (nI h)])), (oA, .inl (cA, n, .inl P)), (oB, .inl (cB, n, .inr (.inl V)))] H := hP
  have hD : va_D A [(oF, .inr (2, [.int mo, .ref oS, .int th, .int om, .int p0, .int po, .int lr, .long lv, .int (nI d)])), (oS, .inr (1, [.ref oA, .ref oB, .int (nI h)])), (oA, .inl (cA, n, .inl P)), (oB, .inl (cB, n, .inr (.inl V)))] := hD
  refine lv_aload_n hx hb dX1_stand_5 rfl (lv_at hl 0 rfl) ?_
  refine lv_iload_n hx hb dX1_stand_6 rfl (lv_at hl 2 rfl) ?_
  refine va_put (D := (dC, dI)) (ci := 2) (v := .int p1) (ty := .int) (C := RX1) (T := TX1) (N := 9) hx hb hts (by decide +kernel) tyX1 tyX1_ok nmX1 hown hK hP hD hS 0 rfl rfl 5 (by decide) (hts (.fieldLink RX1 42 "RelativeFiles" "position" "I") (by decide +kernel)) (fun _ h9 => h9) rfl (by decide +kernel) rfl rfl (Nat.le_of_ble_eq_true rfl) dX1_stand_7 (fun H locs hP hD hS => ?_)
  have hP : va_P (dC, dI) vwCl [(oF, .inr (2, [.int mo, .ref oS, .int th, .int om, .int p0, .int p1, .int lr, .long lv, .int (nI d)])), (oS, .inr (1, [.ref oA, .ref oB, .int (nI h)])), (oA, .inl (cA, n, .inl P)), (oB, .inl (cB, n, .inr (.inl V)))] H := hP
  have hD : va_D A [(oF, .inr (2, [.int mo, .ref oS, .int th, .int om, .int p0, .int p1, .int lr, .long lv, .int (nI d)])), (oS, .inr (1, [.ref oA, .ref oB, .int (nI h)])), (oA, .inl (cA, n, .inl P)), (oB, .inl (cB, n, .inr (.inl V)))] := hD
  refine lv_aload_n hx hb dX1_stand_10 rfl (lv_at hl 0 rfl) ?_
  refine lv_iconst (v := 0) hx hb dX1_stand_11 (by decide) ?_
  refine va_put (D := (dC, dI)) (ci := 2) (v := .int 0) (ty := .int) (C := RX1) (T := TX1) (N := 9) hx hb hts (by decide +kernel) tyX1 tyX1_ok nmX1 hown hK hP hD hS 0 rfl rfl 6 (by decide) (hts (.fieldLink RX1 45 "RelativeFiles" "lastRead" "I") (by decide +kernel)) (fun _ h9 => h9) rfl (by decide +kernel) rfl rfl (Nat.le_of_ble_eq_true rfl) dX1_stand_12 (fun H locs hP hD hS => ?_)
  have hP : va_P (dC, dI) vwCl [(oF, .inr (2, [.int mo, .ref oS, .int th, .int om, .int p0, .int p1, .int 0, .long lv, .int (nI d)])), (oS, .inr (1, [.ref oA, .ref oB, .int (nI h)])), (oA, .inl (cA, n, .inl P)), (oB, .inl (cB, n, .inr (.inl V)))] H := hP
  have hD : va_D A [(oF, .inr (2, [.int mo, .ref oS, .int th, .int om, .int p0, .int p1, .int 0, .long lv, .int (nI d)])), (oS, .inr (1, [.ref oA, .ref oB, .int (nI h)])), (oA, .inl (cA, n, .inl P)), (oB, .inl (cB, n, .inr (.inl V)))] := hD
  subst hQ9
  exact W.vret hx hb hr (fun t ht hW => ⟨⟨(), rfl, trivial, by rw [ht]; exact hP, va_K.moved hW.alike hK, hD⟩, hS.F ht⟩) hS.2.2 dX1_stand_15

set_option maxHeartbeats 1000000 in
set_option maxRecDepth 100000 in
theorem kX1_losePosition (l : Launch) (dC : Nat → ClassId) (dI : Nat → Nat → Nat) (oF oS oA oB : Nat) (cA cB : ClassId) (n h d : Nat) (mo th om sd po lr : Int32) (lv : Int64) (P : Nat → Int32) (V : Nat → Int64) (sz : Nat) (hh : h ≤ n) (hn : n ≤ 512) : Met l yX1_losePosition wsX1_losePosition ({ frames := 1, cells := 0, slots := 0, locals := 22 }) (va_Pc [.ref oF] (fun U => U.heap.size = sz ∧ va_P (dC, dI) vwCl [(oF, .inr (2, [.int mo, .ref oS, .int th, .int om, .int sd, .int po, .int lr, .long lv, .int (nI d)])), (oS, .inr (1, [.ref oA, .ref oB, .int (nI h)])), (oA, .inl (cA, n, .inl P)), (oB, .inl (cB, n, .inr (.inl V)))] U.heap ∧ va_K (dC, dI) vwCl [(cA, .int), (cB, .long)] U ∧ va_D (fun _ => True) [(oF, .inr (2, [.int mo, .ref oS, .int th, .int om, .int sd, .int po, .int lr, .long lv, .int (nI d)])), (oS, .inr (1, [.ref oA, .ref oB, .int (nI h)])), (oA, .inl (cA, n, .inl P)), (oB, .inl (cB, n, .inr (.inl V)))])) (va_Qv (fun (_ : Unit) => True) (fun (_ : Unit) (t : State) => va_P (dC, dI) vwCl [(oF, .inr (2, [.int mo, .ref oS, .int th, .int om, .int 2, .int 0, .int 0, .long lv, .int (nI d)])), (oS, .inr (1, [.ref oA, .ref oB, .int (nI h)])), (oA, .inl (cA, n, .inl P)), (oB, .inl (cB, n, .inr (.inl V)))] t.heap ∧ va_K (dC, dI) vwCl [(cA, .int), (cB, .long)] t ∧ va_D (va_A [(oF, .inr (2, [.int mo, .ref oS, .int th, .int om, .int sd, .int po, .int lr, .long lv, .int (nI d)])), (oS, .inr (1, [.ref oA, .ref oB, .int (nI h)])), (oA, .inl (cA, n, .inl P)), (oB, .inl (cB, n, .inr (.inl V)))] sz) [(oF, .inr (2, [.int mo, .ref oS, .int th, .int om, .int 2, .int 0, .int 0, .long lv, .int (nI d)])), (oS, .inr (1, [.ref oA, .ref oB, .int (nI h)])), (oA, .inl (cA, n, .inl P)), (oB, .inl (cB, n, .inr (.inl V)))]) (va_A [(oF, .inr (2, [.int mo, .ref oS, .int th, .int om, .int sd, .int po, .int lr, .long lv, .int (nI d)])), (oS, .inr (1, [.ref oA, .ref oB, .int (nI h)])), (oA, .inl (cA, n, .inl P)), (oB, .inl (cB, n, .inr (.inl V)))] sz)) 0 0 (va_A [(oF, .inr (2, [.int mo, .ref oS, .int th, .int om, .int sd, .int po, .int lr, .long lv, .int (nI d)])), (oS, .inr (1, [.ref oA, .ref oB, .int (nI h)])), (oA, .inl (cA, n, .inl P)), (oB, .inl (cB, n, .inr (.inl V)))] sz) := by
  refine Met.ofW (cc := cX1_losePosition) (maxL := 1) (ret := none) (by decide) rfl ?_
  intro p e s m args below meth c s₁ B hml hv
  obtain ⟨rfl, hsz, hP, hK, hD0⟩ := hv
  have hx := B.exec
  have hb := B.bytes
  have hr := B.returns
  have hts := atoms_spec (ws := wsX1_losePosition) B.pre
  have hown : s.vm.findClass RX1 = some m.cls := findClass_of_methodNamed B.named
  have hlocks := B.notSynchronized
  subst hsz
  have hD := hD0.self (sz := s.heap.size)
  generalize hAe : va_A [(oF, .inr (2, [.int mo, .ref oS, .int th, .int om, .int sd, .int po, .int lr, .long lv, .int (nI d)])), (oS, .inr (1, [.ref oA, .ref oB, .int (nI h)])), (oA, .inl (cA, n, .inl P)), (oB, .inl (cB, n, .inr (.inl V)))] s.heap.size = A at hD ⊢
  have hA : ∀ q : Nat, s.heap.size ≤ q → A q := fun q h => by rw [← hAe]; exact Or.inr h
  have hS : va_S A s.heap s.heap [] := va_S.rf
  have hP : va_P (dC, dI) vwCl [(oF, .inr (2, [.int mo, .ref oS, .int th, .int om, .int sd, .int po, .int lr, .long lv, .int (nI d)])), (oS, .inr (1, [.ref oA, .ref oB, .int (nI h)])), (oA, .inl (cA, n, .inl P)), (oB, .inl (cB, n, .inr (.inl V)))] s.heap := hP
  have hl := lv_entry ([.ref oF]) (n := 1) (Nat.le_of_ble_eq_true rfl)
  rw [lg_entry_eq]
  generalize (lg_sl ([.ref oF]) ++ List.replicate (1 - (lg_sl ([.ref oF])).length) Slot.unset).toArray = ls at hl ⊢
  have hl : lv_has ls 1 [(0, .ref oF)] := hl
  refine W_name (fun Q hQ9 => ?_)
  refine lv_aload_n hx hb dX1_losePosition_0 rfl (lv_at hl 0 rfl) ?_
  refine lv_iconst (v := 2) hx hb dX1_losePosition_1 (by decide) ?_
  refine lv_iconst (v := 0) hx hb dX1_losePosition_2 (by decide) ?_
  have hPc := hP.sub (ws' := [(oF, .inr (2, [.int mo, .ref oS, .int th, .int om, .int sd, .int po, .int lr, .long lv, .int (nI d)])), (oS, .inr (1, [.ref oA, .ref oB, .int (nI h)])), (oA, .inl (cA, n, .inl P)), (oB, .inl (cB, n, .inr (.inl V)))]) [0, 1, 2, 3] rfl
  have hDc := hD.sub (ws' := [(oF, .inr (2, [.int mo, .ref oS, .int th, .int om, .int sd, .int po, .int lr, .long lv, .int (nI d)])), (oS, .inr (1, [.ref oA, .ref oB, .int (nI h)])), (oA, .inl (cA, n, .inl P)), (oB, .inl (cB, n, .inr (.inl V)))]) [0, 1, 2, 3] (by decide) rfl
  have hKc := hK.sub (tys' := [(cA, .int), (cB, .long)]) [0, 1] rfl
  have hFc := va_free (wc := [(oF, .inr (2, [.int mo, .ref oS, .int th, .int om, .int sd, .int po, .int lr, .long lv, .int (nI d)])), (oS, .inr (1, [.ref oA, .ref oB, .int (nI h)])), (oA, .inl (cA, n, .inl P)), (oB, .inl (cB, n, .inr (.inl V)))]) hD hS hA [0, 1, 2, 3] rfl
  refine va_callv (va_runV (As := [.int 2, .int 0]) (rest := []) ⟨hx, hb, hml, hown, hts⟩ (kX1_stand l dC dI oF oS oA oB cA cB n h d mo th om sd po lr lv P V 2 0 s.heap.size hh hn) (cwV 2 hts gX1_losePosition_X1_stand rfl rfl rfl (by decide +kernel) ⟨Nat.le_of_ble_eq_true rfl, Nat.le_of_ble_eq_true rfl⟩) ⟨fun a U g mk q => by obtain ⟨q0, q1, qP, qK, qD⟩ := q; exact ⟨q0, q1, qP, va_K.moved (u := U) (U := U.calling g mk a) (Vm.Alike.refl U.vm) qK, qD⟩, va_recv hKc hPc (ci := 2) (q0 := 0) rfl rfl, fun U hU hW => ⟨rfl, by rw [hU], by rw [hU]; exact hPc, va_K.moved hW.alike hKc, hDc.weaken (fun _ _ _ _ => trivial)⟩⟩ rfl rfl hl.1 rfl (lv_room (Nat.le_of_ble_eq_true rfl)) dX1_losePosition_3 ⟨Nat.le_of_ble_eq_true rfl, Nat.le_of_ble_eq_true rfl⟩) hS (fun q _ h => hFc q h) hFc (fun u t H1 locs ht hvm hw hB hz1 hk1 hS => ?_)
  obtain ⟨hP1, hK1, hD1⟩ := hB
  rw [ht] at hP1
  have hK1 := va_K.moved hvm.symm hK1
  try dsimp only at hw
  obtain ⟨hP, hD⟩ := va_join (wr := []) (w1 := [(oF, .inr (2, [.int mo, .ref oS, .int th, .int om, .int 2, .int 0, .int 0, .long lv, .int (nI d)])), (oS, .inr (1, [.ref oA, .ref oB, .int (nI h)])), (oA, .inl (cA, n, .inl P)), (oB, .inl (cB, n, .inr (.inl V)))]) hP hD [0, 1, 2, 3] [] rfl rfl (by decide) (by decide) hk1 hFc hP1 hD1
  generalize H1 = H at hP hS ⊢
  have hP : va_P (dC, dI) vwCl [(oF, .inr (2, [.int mo, .ref oS, .int th, .int om, .int 2, .int 0, .int 0, .long lv, .int (nI d)])), (oS, .inr (1, [.ref oA, .ref oB, .int (nI h)])), (oA, .inl (cA, n, .inl P)), (oB, .inl (cB, n, .inr (.inl V)))] H := hP.sub [0, 1, 2, 3] rfl
  have hD : va_D A [(oF, .inr (2, [.int mo, .ref oS, .int th, .int om, .int 2, .int 0, .int 0, .long lv, .int (nI d)])), (oS, .inr (1, [.ref oA, .ref oB, .int (nI h)])), (oA, .inl (cA, n, .inl P)), (oB, .inl (cB, n, .inr (.inl V)))] := hD.sub [0, 1, 2, 3] (by decide) rfl
  have hK : va_K (dC, dI) vwCl [(cA, .int), (cB, .long)] s := hK
  subst hQ9
  exact W.vret hx hb hr (fun t ht hW => ⟨⟨(), rfl, trivial, by rw [ht]; exact hP, va_K.moved hW.alike hK, hD⟩, hS.F ht⟩) hS.2.2 dX1_losePosition_6

set_option maxHeartbeats 1000000 in
set_option maxRecDepth 100000 in
theorem kX1_take (l : Launch) (dC : Nat → ClassId) (dI : Nat → Nat → Nat) (oF oS oA oB : Nat) (cA cB : ClassId) (n h d : Nat) (mo th om sd po lr : Int32) (lv : Int64) (P : Nat → Int32) (V : Nat → Int64) (p0 : Int32) (sz : Nat) (hh : h ≤ n) (hn : n ≤ 512) : Met l yX1_take wsX1_take ({ frames := 2, cells := 0, slots := 0, locals := 44 }) (va_Pc [.ref oF, .int p0] (fun U => U.heap.size = sz ∧ va_P (dC, dI) vwCl [(oF, .inr (2, [.int mo, .ref oS, .int th, .int om, .int sd, .int po, .int lr, .long lv, .int (nI d)])), (oS, .inr (1, [.ref oA, .ref oB, .int (nI h)])), (oA, .inl (cA, n, .inl P)), (oB, .inl (cB, n, .inr (.inl V)))] U.heap ∧ va_K (dC, dI) vwCl [(cA, .int), (cB, .long)] U ∧ va_D (fun _ => True) [(oF, .inr (2, [.int mo, .ref oS, .int th, .int om, .int sd, .int po, .int lr, .long lv, .int (nI d)])), (oS, .inr (1, [.ref oA, .ref oB, .int (nI h)])), (oA, .inl (cA, n, .inl P)), (oB, .inl (cB, n, .inr (.inl V)))])) (va_Qv (fun (_ : Unit) => True) (fun (_ : Unit) (t : State) => va_P (dC, dI) vwCl [(oF, .inr (2, [.int mo, .ref oS, .int th, .int om, .int 0, .int p0, .int p0, .long (fRec P V h p0), .int (nI d)])), (oS, .inr (1, [.ref oA, .ref oB, .int (nI h)])), (oA, .inl (cA, n, .inl P)), (oB, .inl (cB, n, .inr (.inl V)))] t.heap ∧ va_K (dC, dI) vwCl [(cA, .int), (cB, .long)] t ∧ va_D (va_A [(oF, .inr (2, [.int mo, .ref oS, .int th, .int om, .int sd, .int po, .int lr, .long lv, .int (nI d)])), (oS, .inr (1, [.ref oA, .ref oB, .int (nI h)])), (oA, .inl (cA, n, .inl P)), (oB, .inl (cB, n, .inr (.inl V)))] sz) [(oF, .inr (2, [.int mo, .ref oS, .int th, .int om, .int 0, .int p0, .int p0, .long (fRec P V h p0), .int (nI d)])), (oS, .inr (1, [.ref oA, .ref oB, .int (nI h)])), (oA, .inl (cA, n, .inl P)), (oB, .inl (cB, n, .inr (.inl V)))]) (va_A [(oF, .inr (2, [.int mo, .ref oS, .int th, .int om, .int sd, .int po, .int lr, .long lv, .int (nI d)])), (oS, .inr (1, [.ref oA, .ref oB, .int (nI h)])), (oA, .inl (cA, n, .inl P)), (oB, .inl (cB, n, .inr (.inl V)))] sz)) 0 0 (va_A [(oF, .inr (2, [.int mo, .ref oS, .int th, .int om, .int sd, .int po, .int lr, .long lv, .int (nI d)])), (oS, .inr (1, [.ref oA, .ref oB, .int (nI h)])), (oA, .inl (cA, n, .inl P)), (oB, .inl (cB, n, .inr (.inl V)))] sz) := by
  refine Met.ofW (cc := cX1_take) (maxL := 2) (ret := none) (by decide) rfl ?_
  intro p e s m args below meth c s₁ B hml hv
  obtain ⟨rfl, hsz, hP, hK, hD0⟩ := hv
  have hx := B.exec
  have hb := B.bytes
  have hr := B.returns
  have hts := atoms_spec (ws := wsX1_take) B.pre
  have hown : s.vm.findClass RX1 = some m.cls := findClass_of_methodNamed B.named
  have hlocks := B.notSynchronized
  subst hsz
  have hD := hD0.self (sz := s.heap.size)
  generalize hAe : va_A [(oF, .inr (2, [.int mo, .ref oS, .int th, .int om, .int sd, .int po, .int lr, .long lv, .int (nI d)])), (oS, .inr (1, [.ref oA, .ref oB, .int (nI h)])), (oA, .inl (cA, n, .inl P)), (oB, .inl (cB, n, .inr (.inl V)))] s.heap.size = A at hD ⊢
  have hA : ∀ q : Nat, s.heap.size ≤ q → A q := fun q h => by rw [← hAe]; exact Or.inr h
  have hS : va_S A s.heap s.heap [] := va_S.rf
  have hP : va_P (dC, dI) vwCl [(oF, .inr (2, [.int mo, .ref oS, .int th, .int om, .int sd, .int po, .int lr, .long lv, .int (nI d)])), (oS, .inr (1, [.ref oA, .ref oB, .int (nI h)])), (oA, .inl (cA, n, .inl P)), (oB, .inl (cB, n, .inr (.inl V)))] s.heap := hP
  have hl := lv_entry ([.ref oF, .int p0]) (n := 2) (Nat.le_of_ble_eq_true rfl)
  rw [lg_entry_eq]
  generalize (lg_sl ([.ref oF, .int p0]) ++ List.replicate (2 - (lg_sl ([.ref oF, .int p0])).length) Slot.unset).toArray = ls at hl ⊢
  have hl : lv_has ls 2 [(0, .ref oF), (1, .int p0)] := hl
  refine W_name (fun Q hQ9 => ?_)
  refine lv_aload_n hx hb dX1_take_0 rfl (lv_at hl 0 rfl) ?_
  refine lv_iconst (v := 0) hx hb dX1_take_1 (by decide) ?_
  refine lv_iload_n hx hb dX1_take_2 rfl (lv_at hl 1 rfl) ?_
  have hPc := hP.sub (ws' := [(oF, .inr (2, [.int mo, .ref oS, .int th, .int om, .int sd, .int po, .int lr, .long lv, .int (nI d)])), (oS, .inr (1, [.ref oA, .ref oB, .int (nI h)])), (oA, .inl (cA, n, .inl P)), (oB, .inl (cB, n, .inr (.inl V)))]) [0, 1, 2, 3] rfl
  have hDc := hD.sub (ws' := [(oF, .inr (2, [.int mo, .ref oS, .int th, .int om, .int sd, .int po, .int lr, .long lv, .int (nI d)])), (oS, .inr (1, [.ref oA, .ref oB, .int (nI h)])), (oA, .inl (cA, n, .inl P)), (oB, .inl (cB, n, .inr (.inl V)))]) [0, 1, 2, 3] (by decide) rfl
  have hKc := hK.sub (tys' := [(cA, .int), (cB, .long)]) [0, 1] rfl
  have hFc := va_free (wc := [(oF, .inr (2, [.int mo, .ref oS, .int th, .int om, .int sd, .int po, .int lr, .long lv, .int (nI d)])), (oS, .inr (1, [.ref oA, .ref oB, .int (nI h)])), (oA, .inl (cA, n, .inl P)), (oB, .inl (cB, n, .inr (.inl V)))]) hD hS hA [0, 1, 2, 3] rfl
  refine va_callv (va_runV (As := [.int 0, .int p0]) (rest := []) ⟨hx, hb, hml, hown, hts⟩ (kX1_stand l dC dI oF oS oA oB cA cB n h d mo th om sd po lr lv P V 0 p0 s.heap.size hh hn) (cwV 2 hts gX1_take_X1_stand rfl rfl rfl (by decide +kernel) ⟨Nat.le_of_ble_eq_true rfl, Nat.le_of_ble_eq_true rfl⟩) ⟨fun a U g mk q => by obtain ⟨q0, q1, qP, qK, qD⟩ := q; exact ⟨q0, q1, qP, va_K.moved (u := U) (U := U.calling g mk a) (Vm.Alike.refl U.vm) qK, qD⟩, va_recv hKc hPc (ci := 2) (q0 := 0) rfl rfl, fun U hU hW => ⟨rfl, by rw [hU], by rw [hU]; exact hPc, va_K.moved hW.alike hKc, hDc.weaken (fun _ _ _ _ => trivial)⟩⟩ rfl rfl hl.1 rfl (lv_room (Nat.le_of_ble_eq_true rfl)) dX1_take_3 ⟨Nat.le_of_ble_eq_true rfl, Nat.le_of_ble_eq_true rfl⟩) hS (fun q _ h => hFc q h) hFc (fun u t H1 locs ht hvm hw hB hz1 hk1 hS => ?_)
  obtain ⟨hP1, hK1, hD1⟩ := hB
  rw [ht] at hP1
  have hK1 := va_K.moved hvm.symm hK1
  try dsimp only at hw
  obtain ⟨hP, hD⟩ := va_join (wr := []) (w1 := [(oF, .inr (2, [.int mo, .ref oS, .int th, .int om, .int 0, .int p0, .int 0, .long lv, .int (nI d)])), (oS, .inr (1, [.ref oA, .ref oB, .int (nI h)])), (oA, .inl (cA, n, .inl P)), (oB, .inl (cB, n, .inr (.inl V)))]) hP hD [0, 1, 2, 3] [] rfl rfl (by decide) (by decide) hk1 hFc hP1 hD1
  generalize H1 = H at hP hS ⊢
  have hP : va_P (dC, dI) vwCl [(oF, .inr (2, [.int mo, .ref oS, .int th, .int om, .int 0, .int p0, .int 0, .long lv, .int (nI d)])), (oS, .inr (1, [.ref oA, .ref oB, .int (nI h)])), (oA, .inl (cA, n, .inl P)), (oB, .inl (cB, n, .inr (.inl V)))] H := hP.sub [0, 1, 2, 3] rfl
  have hD : va_D A [(oF, .inr (2, [.int mo, .ref oS, .int th, .int om, .int 0, .int p0, .int 0, .long lv, .int (nI d)])), (oS, .inr (1, [.ref oA, .ref oB, .int (nI h)])), (oA, .inl (cA, n, .inl P)), (oB, .inl (cB, n, .inr (.inl V)))] := hD.sub [0, 1, 2, 3] (by decide) rfl
  have hK : va_K (dC, dI) vwCl [(cA, .int), (cB, .long)] s := hK
  refine lv_aload_n hx hb dX1_take_6 rfl (lv_at hl 0 rfl) ?_
  refine lv_iload_n hx hb dX1_take_7 rfl (lv_at hl 1 rfl) ?_
  refine va_put (D := (dC, dI)) (ci := 2) (v := .int p0) (ty := .int) (C := RX1) (T := TX1) (N := 9) hx hb hts (by decide +kernel) tyX1 tyX1_ok nmX1 hown hK hP hD hS 0 rfl rfl 6 (by decide) (hts (.fieldLink RX1 45 "RelativeFiles" "lastRead" "I") (by decide +kernel)) (fun _ h9 => h9) rfl (by decide +kernel) rfl rfl (Nat.le_of_ble_eq_true rfl) dX1_take_8 (fun H locs hP hD hS => ?_)
  have hP : va_P (dC, dI) vwCl [(oF, .inr (2, [.int mo, .ref oS, .int th, .int om, .int 0, .int p0, .int p0, .long lv, .int (nI d)])), (oS, .inr (1, [.ref oA, .ref oB, .int (nI h)])), (oA, .inl (cA, n, .inl P)), (oB, .inl (cB, n, .inr (.inl V)))] H := hP
  have hD : va_D A [(oF, .inr (2, [.int mo, .ref oS, .int th, .int om, .int 0, .int p0, .int p0, .long lv, .int (nI d)])), (oS, .inr (1, [.ref oA, .ref oB, .int (nI h)])), (oA, .inl (cA, n, .inl P)), (oB, .inl (cB, n, .inr (.inl V)))] := hD
  refine lv_aload_n hx hb dX1_take_11 rfl (lv_at hl 0 rfl) ?_
  refine lv_aload_n hx hb dX1_take_12 rfl (lv_at hl 0 rfl) ?_
  refine va_get (D := (dC, dI)) (ci := 2) (v := .ref oS) (C := RX1) (T := TX1) (N := 9) hx hb hts (by decide +kernel) hown hK hP 0 rfl rfl 1 (by decide) (hts (.fieldLink RX1 28 "RelativeFiles" "shelf" "LRelativeFiles$Shelf;") (by decide +kernel)) (fun _ h9 => h9) rfl dX1_take_13 ?_
  refine lv_iload_n hx hb dX1_take_16 rfl (lv_at hl 1 rfl) ?_
  have hPc := hP.sub (ws' := [(oS, .inr (1, [.ref oA, .ref oB, .int (nI h)])), (oA, .inl (cA, n, .inl P)), (oB, .inl (cB, n, .inr (.inl V)))]) [1, 2, 3] rfl
  have hDc := hD.sub (ws' := [(oS, .inr (1, [.ref oA, .ref oB, .int (nI h)])), (oA, .inl (cA, n, .inl P)), (oB, .inl (cB, n, .inr (.inl V)))]) [1, 2, 3] (by decide) rfl
  have hKc := hK.sub (tys' := [(cA, .int), (cB, .long)]) [0, 1] rfl
  have hFc := va_free (wc := [(oS, .inr (1, [.ref oA, .ref oB, .int (nI h)])), (oA, .inl (cA, n, .inl P)), (oB, .inl (cB, n, .inr (.inl V)))]) hD hS hA [1, 2, 3] rfl
  refine va_calll (va_runV (As := [.int p0]) (rest := [.ref oF]) ⟨hx, hb, hml, hown, hts⟩ (kX0_recordOf l dC dI oS oA oB cA cB n h P V p0 H.size hh hn) (cwV 1 hts gX1_take_X0_recordOf rfl rfl rfl (by decide +kernel) ⟨Nat.le_of_ble_eq_true rfl, Nat.le_of_ble_eq_true rfl⟩) ⟨fun a U g mk q => by obtain ⟨q0, q1, qP, qK, qD⟩ := q; exact ⟨q0, q1, qP, va_K.moved (u := U) (U := U.calling g mk a) (Vm.Alike.refl U.vm) qK, qD⟩, va_recv hKc hPc (ci := 1) (q0 := 0) rfl rfl, fun U hU hW => ⟨rfl, by rw [hU], by rw [hU]; exact hPc, va_K.moved hW.alike hKc, hDc.weaken (fun _ _ _ _ => trivial)⟩⟩ rfl rfl hl.1 rfl (lv_room (Nat.le_of_ble_eq_true rfl)) dX1_take_17 ⟨Nat.le_of_ble_eq_true rfl, Nat.le_of_ble_eq_true rfl⟩) hS (fun q _ h => hFc q h) hFc (fun r_2 u t H1 locs ht hvm hw hB hz1 hk1 hS => ?_)
  obtain ⟨hP1, hK1, hD1⟩ := hB
  rw [ht] at hP1
  have hK1 := va_K.moved hvm.symm hK1
  try dsimp only at hw
  obtain ⟨hP, hD⟩ := va_join (wr := [(oF, .inr (2, [.int mo, .ref oS, .int th, .int om, .int 0, .int p0, .int p0, .long lv, .int (nI d)]))]) (w1 := [(oS, .inr (1, [.ref oA, .ref oB, .int (nI h)])), (oA, .inl (cA, n, .inl P)), (oB, .inl (cB, n, .inr (.inl V)))]) hP hD [1, 2, 3] [0] rfl rfl (by decide) (by decide) hk1 hFc hP1 hD1
  generalize H1 = H at hP hS ⊢
  have hP : va_P (dC, dI) vwCl [(oF, .inr (2, [.int mo, .ref oS, .int th, .int om, .int 0, .int p0, .int p0, .long lv, .int (nI d)])), (oS, .inr (1, [.ref oA, .ref oB, .int (nI h)])), (oA, .inl (cA, n, .inl P)), (oB, .inl (cB, n, .inr (.inl V)))] H := hP.sub [0, 1, 2, 3] rfl
  have hD : va_D A [(oF, .inr (2, [.int mo, .ref oS, .int th, .int om, .int 0, .int p0, .int p0, .long lv, .int (nI d)])), (oS, .inr (1, [.ref oA, .ref oB, .int (nI h)])), (oA, .inl (cA, n, .inl P)), (oB, .inl (cB, n, .inr (.inl V)))] := hD.sub [0, 1, 2, 3] (by decide) rfl
  have hK : va_K (dC, dI) vwCl [(cA, .int), (cB, .long)] s := hK
  subst hw
  refine va_put (D := (dC, dI)) (ci := 2) (v := .long (fRec P V h p0)) (ty := .long) (C := RX1) (T := TX1) (N := 9) hx hb hts (by decide +kernel) tyX1 tyX1_ok nmX1 hown hK hP hD hS 0 rfl rfl 7 (by decide) (hts (.fieldLink RX1 48 "RelativeFiles" "lastValue" "J") (by decide +kernel)) (fun _ h9 => h9) rfl (by decide +kernel) rfl rfl (Nat.le_of_ble_eq_true rfl) dX1_take_20 (fun H locs hP hD hS => ?_)
  have hP : va_P (dC, dI) vwCl [(oF, .inr (2, [.int mo, .ref oS, .int th, .int om, .int 0, .int p0, .int p0, .long (fRec P V h p0), .int (nI d)])), (oS, .inr (1, [.ref oA, .ref oB, .int (nI h)])), (oA, .inl (cA, n, .inl P)), (oB, .inl (cB, n, .inr (.inl V)))] H := hP
  have hD : va_D A [(oF, .inr (2, [.int mo, .ref oS, .int th, .int om, .int 0, .int p0, .int p0, .long (fRec P V h p0), .int (nI d)])), (oS, .inr (1, [.ref oA, .ref oB, .int (nI h)])), (oA, .inl (cA, n, .inl P)), (oB, .inl (cB, n, .inr (.inl V)))] := hD
  subst hQ9
  exact W.vret hx hb hr (fun t ht hW => ⟨⟨(), rfl, trivial, by rw [ht]; exact hP, va_K.moved hW.alike hK, hD⟩, hS.F ht⟩) hS.2.2 dX1_take_23

set_option maxHeartbeats 1000000 in
set_option maxRecDepth 100000 in
theorem kX1_isPlace (l : Launch) (dC : Nat → ClassId) (dI : Nat → Nat → Nat) (oF oS oA oB : Nat) (cA cB : ClassId) (n h d : Nat) (mo th om sd po lr : Int32) (lv : Int64) (P : Nat → Int32) (V : Nat → Int64) (p0 : Int32) (sz : Nat) (hh : h ≤ n) (hn : n ≤ 512) : Met l yX1_isPlace wsX1_isPlace ({ frames := 0, cells := 0, slots := 0, locals := 0 }) (va_Pc [.ref oF, .int p0] (fun U => U.heap.size = sz ∧ va_P (dC, dI) vwCl [(oF, .inr (2, [.int mo, .ref oS, .int th, .int om, .int sd, .int po, .int lr, .long lv, .int (nI d)])), (oS, .inr (1, [.ref oA, .ref oB, .int (nI h)])), (oA, .inl (cA, n, .inl P)), (oB, .inl (cB, n, .inr (.inl V)))] U.heap ∧ va_K (dC, dI) vwCl [(cA, .int), (cB, .long)] U ∧ va_D (fun _ => True) [(oF, .inr (2, [.int mo, .ref oS, .int th, .int om, .int sd, .int po, .int lr, .long lv, .int (nI d)])), (oS, .inr (1, [.ref oA, .ref oB, .int (nI h)])), (oA, .inl (cA, n, .inl P)), (oB, .inl (cB, n, .inr (.inl V)))])) (va_Qi (fun (r : Int32) (_ : Unit) => (isPl mo p0 ∧ r = 1) ∨ (¬ (isPl mo p0) ∧ r = 0)) (fun (_ : Unit) (t : State) => va_P (dC, dI) vwCl [(oF, .inr (2, [.int mo, .ref oS, .int th, .int om, .int sd, .int po, .int lr, .long lv, .int (nI d)])), (oS, .inr (1, [.ref oA, .ref oB, .int (nI h)])), (oA, .inl (cA, n, .inl P)), (oB, .inl (cB, n, .inr (.inl V)))] t.heap ∧ va_K (dC, dI) vwCl [(cA, .int), (cB, .long)] t ∧ va_D (va_A [(oF, .inr (2, [.int mo, .ref oS, .int th, .int om, .int sd, .int po, .int lr, .long lv, .int (nI d)])), (oS, .inr (1, [.ref oA, .ref oB, .int (nI h)])), (oA, .inl (cA, n, .inl P)), (oB, .inl (cB, n, .inr (.inl V)))] sz) [(oF, .inr (2, [.int mo, .ref oS, .int th, .int om, .int sd, .int po, .int lr, .long lv, .int (nI d)])), (oS, .inr (1, [.ref oA, .ref oB, .int (nI h)])), (oA, .inl (cA, n, .inl P)), (oB, .inl (cB, n, .inr (.inl V)))]) (va_A [(oF, .inr (2, [.int mo, .ref oS, .int th, .int om, .int sd, .int po, .int lr, .long lv, .int (nI d)])), (oS, .inr (1, [.ref oA, .ref oB, .int (nI h)])), (oA, .inl (cA, n, .inl P)), (oB, .inl (cB, n, .inr (.inl V)))] sz)) 0 0 (va_A [(oF, .inr (2, [.int mo, .ref oS, .int th, .int om, .int sd, .int po, .int lr, .long lv, .int (nI d)])), (oS, .inr (1, [.ref oA, .ref oB, .int (nI h)])), (oA, .inl (cA, n, .inl P)), (oB, .inl (cB, n, .inr (.inl V)))] sz) := by
  refine Met.ofW (cc := cX1_isPlace) (maxL := 2) (ret := (some .boolean)) (by decide) rfl ?_
  intro p e s m args below meth c s₁ B hml hv
  obtain ⟨rfl, hsz, hP, hK, hD0⟩ := hv
  have hx := B.exec
  have hb := B.bytes
  have hr := B.returns
  have hts := atoms_spec (ws := wsX1_isPlace) B.pre
  have hown : s.vm.findClass RX1 = some m.cls := findClass_of_methodNamed B.named
  have hlocks := B.notSynchronized
  subst hsz
  have hD := hD0.self (sz := s.heap.size)
  generalize hAe : va_A [(oF, .inr (2, [.int mo, .ref oS, .int th, .int om, .int sd, .int po, .int lr, .long lv, .int (nI d)])), (oS, .inr (1, [.ref oA, .ref oB, .int (nI h)])), (oA, .inl (cA, n, .inl P)), (oB, .inl (cB, n, .inr (.inl V)))] s.heap.size = A at hD ⊢
  have hA : ∀ q : Nat, s.heap.size ≤ q → A q := fun q h => by rw [← hAe]; exact Or.inr h
  have hS : va_S A s.heap s.heap [] := va_S.rf
  have hP : va_P (dC, dI) vwCl [(oF, .inr (2, [.int mo, .ref oS, .int th, .int om, .int sd, .int po, .int lr, .long lv, .int (nI d)])), (oS, .inr (1, [.ref oA, .ref oB, .int (nI h)])), (oA, .inl (cA, n, .inl P)), (oB, .inl (cB, n, .inr (.inl V)))] s.heap := hP
  have hl := lv_entry ([.ref oF, .int p0]) (n := 2) (Nat.le_of_ble_eq_true rfl)
  rw [lg_entry_eq]
  generalize (lg_sl ([.ref oF, .int p0]) ++ List.replicate (2 - (lg_sl ([.ref oF, .int p0])).length) Slot.unset).toArray = ls at hl ⊢
  have hl : lv_has ls 2 [(0, .ref oF), (1, .int p0)] := hl
  refine W_name (fun Q hQ9 => ?_)
  refine lv_iload_n hx hb dX1_isPlace_0 rfl (lv_at hl 1 rfl) ?_
  refine lv_iconst (v := 1) hx hb dX1_isPlace_1 (by decide) ?_
  refine lv_icmp_lt (tgt := 17) hx hb dX1_isPlace_2 (by decide) (fun c_1 => ?_) (fun c_1 => ?_)
  · -- taken at 2: p0 < 1
    refine lv_iconst (v := 0) hx hb dX1_isPlace_17 (by decide) ?_
    subst hQ9
    exact W.zret (ty := .boolean) (v := 0) hx hb hr (by decide) (fun t ht hW => ⟨⟨0, (), rfl, Or.inr ⟨fun q => q.1 c_1, rfl⟩, by rw [ht]; exact hP, va_K.moved hW.alike hK, hD⟩, hS.F ht⟩) hS.2.2 dX1_isPlace_18
  · -- not taken at 2: ¬ p0 < 1
    refine lv_iload_n hx hb dX1_isPlace_5 rfl (lv_at hl 1 rfl) ?_
    refine lv_aload_n hx hb dX1_isPlace_6 rfl (lv_at hl 0 rfl) ?_
    refine va_get (D := (dC, dI)) (ci := 2) (v := .int mo) (C := RX1) (T := TX1) (N := 9) hx hb hts (by decide +kernel) hown hK hP 0 rfl rfl 0 (by decide) (hts (.fieldLink RX1 19 "RelativeFiles" "most" "I") (by decide +kernel)) (fun _ h9 => h9) rfl dX1_isPlace_7 ?_
    refine lv_icmp_gt (tgt := 17) hx hb dX1_isPlace_10 (by decide) (fun c_2 => ?_) (fun c_2 => ?_)
    · -- taken at 10: mo < p0
      refine lv_iconst (v := 0) hx hb dX1_isPlace_17 (by decide) ?_
      subst hQ9
      exact W.zret (ty := .boolean) (v := 0) hx hb hr (by decide) (fun t ht hW => ⟨⟨0, (), rfl, Or.inr ⟨fun q => q.2 c_2, rfl⟩, by rw [ht]; exact hP, va_K.moved hW.alike hK, hD⟩, hS.F ht⟩) hS.2.2 dX1_isPlace_18
    · -- not taken at 10: ¬ mo < p0
      refine lv_iconst (v := 1) hx hb dX1_isPlace_13 (by decide) ?_
      refine lv_goto (tgt := 18) hx hb dX1_isPlace_14 (by decide) ?_
      subst hQ9
      exact W.zret (ty := .boolean) (v := 1) hx hb hr (by decide) (fun t ht hW => ⟨⟨1, (), rfl, Or.inl ⟨⟨c_1, c_2⟩, rfl⟩, by rw [ht]; exact hP, va_K.moved hW.alike hK, hD⟩, hS.F ht⟩) hS.2.2 dX1_isPlace_18

set_option maxHeartbeats 1000000 in
set_option maxRecDepth 100000 in
theorem kX1_isTooLong (l : Launch) (dC : Nat → ClassId) (dI : Nat → Nat → Nat) (oF oS oA oB : Nat) (cA cB : ClassId) (n h d : Nat) (mo th om sd po lr : Int32) (lv : Int64) (P : Nat → Int32) (V : Nat → Int64) (p0 : Int32) (sz : Nat) (hh : h ≤ n) (hn : n ≤ 512) (hd : d ≤ 9) : Met l yX1_isTooLong wsX1_isTooLong ({ frames := 0, cells := 0, slots := 0, locals := 0 }) (va_Pc [.ref oF, .int p0] (fun U => U.heap.size = sz ∧ va_P (dC, dI) vwCl [(oF, .inr (2, [.int mo, .ref oS, .int th, .int om, .int sd, .int po, .int lr, .long lv, .int (nI d)])), (oS, .inr (1, [.ref oA, .ref oB, .int (nI h)])), (oA, .inl (cA, n, .inl P)), (oB, .inl (cB, n, .inr (.inl V)))] U.heap ∧ va_K (dC, dI) vwCl [(cA, .int), (cB, .long)] U ∧ va_D (fun _ => True) [(oF, .inr (2, [.int mo, .ref oS, .int th, .int om, .int sd, .int po, .int lr, .long lv, .int (nI d)])), (oS, .inr (1, [.ref oA, .ref oB, .int (nI h)])), (oA, .inl (cA, n, .inl P)), (oB, .inl (cB, n, .inr (.inl V)))])) (va_Qi (fun (r : Int32) (_ : Unit) => (tooL p0 d ∧ r = 1) ∨ (¬ (tooL p0 d) ∧ r = 0)) (fun (_ : Unit) (t : State) => va_P (dC, dI) vwCl [(oF, .inr (2, [.int mo, .ref oS, .int th, .int om, .int sd, .int po, .int lr, .long lv, .int (nI d)])), (oS, .inr (1, [.ref oA, .ref oB, .int (nI h)])), (oA, .inl (cA, n, .inl P)), (oB, .inl (cB, n, .inr (.inl V)))] t.heap ∧ va_K (dC, dI) vwCl [(cA, .int), (cB, .long)] t ∧ va_D (va_A [(oF, .inr (2, [.int mo, .ref oS, .int th, .int om, .int sd, .int po, .int lr, .long lv, .int (nI d)])), (oS, .inr (1, [.ref oA, .ref oB, .int (nI h)])), (oA, .inl (cA, n, .inl P)), (oB, .inl (cB, n, .inr (.inl V)))] sz) [(oF, .inr (2, [.int mo, .ref oS, .int th, .int om, .int sd, .int po, .int lr, .long lv, .int (nI d)])), (oS, .inr (1, [.ref oA, .ref oB, .int (nI h)])), (oA, .inl (cA, n, .inl P)), (oB, .inl (cB, n, .inr (.inl V)))]) (va_A [(oF, .inr (2, [.int mo, .ref oS, .int th, .int om, .int sd, .int po, .int lr, .long lv, .int (nI d)])), (oS, .inr (1, [.ref oA, .ref oB, .int (nI h)])), (oA, .inl (cA, n, .inl P)), (oB, .inl (cB, n, .inr (.inl V)))] sz)) 0 0 (va_A [(oF, .inr (2, [.int mo, .ref oS, .int th, .int om, .int sd, .int po, .int lr, .long lv, .int (nI d)])), (oS, .inr (1, [.ref oA, .ref oB, .int (nI h)])), (oA, .inl (cA, n, .inl P)), (oB, .inl (cB, n, .inr (.inl V)))] sz) := by
  refine Met.ofW (cc := cX1_isTooLong) (maxL := 4) (ret := (some .boolean)) (by decide) rfl ?_
  intro p e s m args below meth c s₁ B hml hv
  obtain ⟨rfl, hsz, hP, hK, hD0⟩ := hv
  have hx := B.exec
  have hb := B.bytes
  have hr := B.returns
  have hts := atoms_spec (ws := wsX1_isTooLong) B.pre
  have hown : s.vm.findClass RX1 = some m.cls := findClass_of_methodNamed B.named
  have hlocks := B.notSynchronized
  subst hsz
  have hD := hD0.self (sz := s.heap.size)
  generalize hAe : va_A [(oF, .inr (2, [.int mo, .ref oS, .int th, .int om, .int sd, .int po, .int lr, .long lv, .int (nI d)])), (oS, .inr (1, [.ref oA, .ref oB, .int (nI h)])), (oA, .inl (cA, n, .inl P)), (oB, .inl (cB, n, .inr (.inl V)))] s.heap.size = A at hD ⊢
  have hA : ∀ q : Nat, s.heap.size ≤ q → A q := fun q h => by rw [← hAe]; exact Or.inr h
  have hS : va_S A s.heap s.heap [] := va_S.rf
  have hP : va_P (dC, dI) vwCl [(oF, .inr (2, [.int mo, .ref oS, .int th, .int om, .int sd, .int po, .int lr, .long lv, .int (nI d)])), (oS, .inr (1, [.ref oA, .ref oB, .int (nI h)])), (oA, .inl (cA, n, .inl P)), (oB, .inl (cB, n, .inr (.inl V)))] s.heap := hP
  have hl := lv_entry ([.ref oF, .int p0]) (n := 4) (Nat.le_of_ble_eq_true rfl)
  rw [lg_entry_eq]
  generalize (lg_sl ([.ref oF, .int p0]) ++ List.replicate (4 - (lg_sl ([.ref oF, .int p0])).length) Slot.unset).toArray = ls at hl ⊢
  have hl : lv_has ls 4 [(0, .ref oF), (1, .int p0)] := hl
  refine W_name (fun Q hQ9 => ?_)
  refine lv_iload_n hx hb dX1_isTooLong_0 rfl (lv_at hl 1 rfl) ?_
  refine lv_istore_n (lv' := [(2, .int p0), (0, .ref oF), (1, .int p0)]) hx hb dX1_isTooLong_1 rfl hl (by decide) rfl (fun ls hl => ?_)
  refine lv_iconst (v := 0) hx hb dX1_isTooLong_2 (by decide) ?_
  refine lv_istore_n (lv' := [(3, .int 0), (2, .int p0), (0, .ref oF), (1, .int p0)]) hx hb dX1_isTooLong_3 rfl hl (by decide) rfl (fun ls hl => ?_)
  have loop : ∀ (k i : Nat) (ls : Array Slot) (H : Heap) (locs : List Loc), (i ≤ d) → (d + 1 ≤ i + k) → lv_has ls 4 [(3, .int (nI i)), (2, .int (cDiv p0 i)), (0, .ref oF), (1, .int p0)] → va_P (dC, dI) vwCl [(oF, .inr (2, [.int mo, .ref oS, .int th, .int om, .int sd, .int po, .int lr, .long lv, .int (nI d)])), (oS, .inr (1, [.ref oA, .ref oB, .int (nI h)])), (oA, .inl (cA, n, .inl P)), (oB, .inl (cB, n, .inr (.inl V)))] H → va_D A [(oF, .inr (2, [.int mo, .ref oS, .int th, .int om, .int sd, .int po, .int lr, .long lv, .int (nI d)])), (oS, .inr (1, [.ref oA, .ref oB, .int (nI h)])), (oA, .inl (cA, n, .inl P)), (oB, .inl (cB, n, .inr (.inl V)))] → va_S A s.heap H locs → W p l e (headSpec wsX1_isTooLong ({ frames := 0, cells := 0, slots := 0, locals := 0 })).room s m #[(Value.ref oF), (Value.int p0)] below meth c H locs 0 0 Q (F0 m 4 ls []) := by
    intro k
    induction k with
    | zero => intro i ls H locs h1 h2; exact absurd h2 (by omega)
    | succ k ih =>
      intro i ls H locs h1 h2 hl hP hD hS
      refine lv_iload_n hx hb dX1_isTooLong_4 rfl (lv_at hl 0 rfl) ?_
      refine lv_aload_n hx hb dX1_isTooLong_5 rfl (lv_at hl 2 rfl) ?_
      refine va_get (D := (dC, dI)) (ci := 2) (v := .int (nI d)) (C := RX1) (T := TX1) (N := 9) hx hb hts (by decide +kernel) hown hK hP 0 rfl rfl 8 (by decide) (hts (.fieldLink RX1 52 "RelativeFiles" "keyDigits" "I") (by decide +kernel)) (fun _ h9 => h9) rfl dX1_isTooLong_6 ?_
      refine lv_icmp_ge (tgt := 23) hx hb dX1_isTooLong_9 (by decide) (fun c_1 => ?_) (fun c_1 => ?_)
      · -- taken at 9: (nI d) ≤ (nI i)
        have e8 : i = d := by have := (nI_leI (by omega) (by omega)).mp c_1; omega
        subst e8
        refine lv_iload_n hx hb dX1_isTooLong_23 rfl (lv_at hl 1 rfl) ?_
        refine lv_if_le (tgt := 31) hx hb dX1_isTooLong_24 (by decide) (fun c_2 => ?_) (fun c_2 => ?_)
        · -- taken at 24: (cDiv p0 i) ≤ 0
          refine lv_iconst (v := 0) hx hb dX1_isTooLong_31 (by decide) ?_
          subst hQ9
          exact W.zret (ty := .boolean) (v := 0) hx hb hr (by decide) (fun t ht hW => ⟨⟨0, (), rfl, Or.inr ⟨fun q => q c_2, rfl⟩, by rw [ht]; exact hP, va_K.moved hW.alike hK, hD⟩, hS.F ht⟩) hS.2.2 dX1_isTooLong_32
        · -- not taken at 24: ¬ (cDiv p0 i) ≤ 0
          refine lv_iconst (v := 1) hx hb dX1_isTooLong_27 (by decide) ?_
          refine lv_goto (tgt := 32) hx hb dX1_isTooLong_28 (by decide) ?_
          subst hQ9
          exact W.zret (ty := .boolean) (v := 1) hx hb hr (by decide) (fun t ht hW => ⟨⟨1, (), rfl, Or.inl ⟨c_2, rfl⟩, by rw [ht]; exact hP, va_K.moved hW.alike hK, hD⟩, hS.F ht⟩) hS.2.2 dX1_isTooLong_32
      · -- not taken at 9: ¬ (nI d) ≤ (nI i)
        have hi2 : i < d := by rcases Nat.lt_or_ge i d with q | q; exact q; exact absurd (nI_le q (by omega)) c_1
        refine lv_iload_n hx hb dX1_isTooLong_12 rfl (lv_at hl 1 rfl) ?_
        refine lv_bipush (v := 10) hx hb dX1_isTooLong_13 (by decide) ?_
        refine lv_idiv hx hb dX1_isTooLong_15 (by decide) ?_
        refine W_topi (cDiv p0 (i + 1)) rfl ?_
        refine lv_istore_n (lv' := [(2, .int (cDiv p0 (i + 1))), (3, .int (nI i)), (0, .ref oF), (1, .int p0)]) hx hb dX1_isTooLong_16 rfl hl (by decide) rfl (fun ls hl => ?_)
        refine lv_iinc (v := (nI (i + 1))) (lv' := [(3, .int (nI (i + 1))), (2, .int (cDiv p0 (i + 1))), (0, .ref oF), (1, .int p0)]) hx hb dX1_isTooLong_17 hl (k := 1) rfl ((nI_succ i).symm) (by decide) rfl (fun ls hl => ?_)
        refine lv_goto (tgt := 4) hx hb dX1_isTooLong_20 (by decide) ?_
        exact ih (i + 1) ls _ _ (by omega) (by omega) (lv_sub hl [0, 1, 2, 3] rfl) hP hD hS
  exact loop (d + 1) 0  ls _ _ (Nat.zero_le d) (by omega) (by rw [nI_0]; exact hl) hP hD hS

set_option maxHeartbeats 1000000 in
set_option maxRecDepth 100000 in
theorem kX1_refusalToRead (l : Launch) (dC : Nat → ClassId) (dI : Nat → Nat → Nat) (oF oS oA oB : Nat) (cA cB : ClassId) (n h d : Nat) (mo th om sd po lr : Int32) (lv : Int64) (P : Nat → Int32) (V : Nat → Int64) (sz : Nat) (hh : h ≤ n) (hn : n ≤ 512) : Met l yX1_refusalToRead wsX1_refusalToRead ({ frames := 0, cells := 0, slots := 0, locals := 0 }) (va_Pc [.ref oF] (fun U => U.heap.size = sz ∧ va_P (dC, dI) vwCl [(oF, .inr (2, [.int mo, .ref oS, .int th, .int om, .int sd, .int po, .int lr, .long lv, .int (nI d)])), (oS, .inr (1, [.ref oA, .ref oB, .int (nI h)])), (oA, .inl (cA, n, .inl P)), (oB, .inl (cB, n, .inr (.inl V)))] U.heap ∧ va_K (dC, dI) vwCl [(cA, .int), (cB, .long)] U ∧ va_D (fun _ => True) [(oF, .inr (2, [.int mo, .ref oS, .int th, .int om, .int sd, .int po, .int lr, .long lv, .int (nI d)])), (oS, .inr (1, [.ref oA, .ref oB, .int (nI h)])), (oA, .inl (cA, n, .inl P)), (oB, .inl (cB, n, .inr (.inl V)))])) (va_Qi (fun (r : Int32) (_ : Unit) => r = fRef om) (fun (_ : Unit) (t : State) => va_P (dC, dI) vwCl [(oF, .inr (2, [.int mo, .ref oS, .int th, .int om, .int sd, .int po, .int lr, .long lv, .int (nI d)])), (oS, .inr (1, [.ref oA, .ref oB, .int (nI h)])), (oA, .inl (cA, n, .inl P)), (oB, .inl (cB, n, .inr (.inl V)))] t.heap ∧ va_K (dC, dI) vwCl [(cA, .int), (cB, .long)] t ∧ va_D (va_A [(oF, .inr (2, [.int mo, .ref oS, .int th, .int om, .int sd, .int po, .int lr, .long lv, .int (nI d)])), (oS, .inr (1, [.ref oA, .ref oB, .int (nI h)])), (oA, .inl (cA, n, .inl P)), (oB, .inl (cB, n, .inr (.inl V)))] sz) [(oF, .inr (2, [.int mo, .ref oS, .int th, .int om, .int sd, .int po, .int lr, .long lv, .int (nI d)])), (oS, .inr (1, [.ref oA, .ref oB, .int (nI h)])), (oA, .inl (cA, n, .inl P)), (oB, .inl (cB, n, .inr (.inl V)))]) (va_A [(oF, .inr (2, [.int mo, .ref oS, .int th, .int om, .int sd, .int po, .int lr, .long lv, .int (nI d)])), (oS, .inr (1, [.ref oA, .ref oB, .int (nI h)])), (oA, .inl (cA, n, .inl P)), (oB, .inl (cB, n, .inr (.inl V)))] sz)) 0 0 (va_A [(oF, .inr (2, [.int mo, .ref oS, .int th, .int om, .int sd, .int po, .int lr, .long lv, .int (nI d)])), (oS, .inr (1, [.ref oA, .ref oB, .int (nI h)])), (oA, .inl (cA, n, .inl P)), (oB, .inl (cB, n, .inr (.inl V)))] sz) := by
  refine Met.ofW (cc := cX1_refusalToRead) (maxL := 1) (ret := (some .int)) (by decide) rfl ?_
  intro p e s m args below meth c s₁ B hml hv
  obtain ⟨rfl, hsz, hP, hK, hD0⟩ := hv
  have hx := B.exec
  have hb := B.bytes
  have hr := B.returns
  have hts := atoms_spec (ws := wsX1_refusalToRead) B.pre
  have hown : s.vm.findClass RX1 = some m.cls := findClass_of_methodNamed B.named
  have hlocks := B.notSynchronized
  subst hsz
  have hD := hD0.self (sz := s.heap.size)
  generalize hAe : va_A [(oF, .inr (2, [.int mo, .ref oS, .int th, .int om, .int sd, .int po, .int lr, .long lv, .int (nI d)])), (oS, .inr (1, [.ref oA, .ref oB, .int (nI h)])), (oA, .inl (cA, n, .inl P)), (oB, .inl (cB, n, .inr (.inl V)))] s.heap.size = A at hD ⊢
  have hA : ∀ q : Nat, s.heap.size ≤ q → A q := fun q h => by rw [← hAe]; exact Or.inr h
  have hS : va_S A s.heap s.heap [] := va_S.rf
  have hP : va_P (dC, dI) vwCl [(oF, .inr (2, [.int mo, .ref oS, .int th, .int om, .int sd, .int po, .int lr, .long lv, .int (nI d)])), (oS, .inr (1, [.ref oA, .ref oB, .int (nI h)])), (oA, .inl (cA, n, .inl P)), (oB, .inl (cB, n, .inr (.inl V)))] s.heap := hP
  have hl := lv_entry ([.ref oF]) (n := 1) (Nat.le_of_ble_eq_true rfl)
  rw [lg_entry_eq]
  generalize (lg_sl ([.ref oF]) ++ List.replicate (1 - (lg_sl ([.ref oF])).length) Slot.unset).toArray = ls at hl ⊢
  have hl : lv_has ls 1 [(0, .ref oF)] := hl
  refine W_name (fun Q hQ9 => ?_)
  refine lv_aload_n hx hb dX1_refusalToRead_0 rfl (lv_at hl 0 rfl) ?_
  refine va_get (D := (dC, dI)) (ci := 2) (v := .int om) (C := RX1) (T := TX1) (N := 9) hx hb hts (by decide +kernel) hown hK hP 0 rfl rfl 3 (by decide) (hts (.fieldLink RX1 36 "RelativeFiles" "openMode" "I") (by decide +kernel)) (fun _ h9 => h9) rfl dX1_refusalToRead_1 ?_
  refine lv_iconst (v := (-1)) hx hb dX1_refusalToRead_4 (by decide) ?_
  refine lv_icmp_ne (tgt := 11) hx hb dX1_refusalToRead_5 (by decide) (fun c_1 => ?_) (fun c_1 => ?_)
  · -- taken at 5: ¬ om = (-1)
    refine lv_aload_n hx hb dX1_refusalToRead_11 rfl (lv_at hl 0 rfl) ?_
    refine va_get (D := (dC, dI)) (ci := 2) (v := .int om) (C := RX1) (T := TX1) (N := 9) hx hb hts (by decide +kernel) hown hK hP 0 rfl rfl 3 (by decide) (hts (.fieldLink RX1 36 "RelativeFiles" "openMode" "I") (by decide +kernel)) (fun _ h9 => h9) rfl dX1_refusalToRead_12 ?_
    refine lv_if_eq (tgt := 26) hx hb dX1_refusalToRead_15 (by decide) (fun c_2 => ?_) (fun c_2 => ?_)
    · -- taken at 15: om = 0
      refine lv_iconst (v := 0) hx hb dX1_refusalToRead_26 (by decide) ?_
      refine lv_goto (tgt := 32) hx hb dX1_refusalToRead_27 (by decide) ?_
      subst hQ9
      have e9 : fRef om = 0 := by simp only [fRef, if_neg c_1, if_pos c_2]
      rw [e9]
      exact W.iret (v := 0) hx hb hr (fun t ht hW => ⟨⟨0, (), rfl, rfl, by rw [ht]; exact hP, va_K.moved hW.alike hK, hD⟩, hS.F ht⟩) hS.2.2 dX1_refusalToRead_32
    · -- not taken at 15: ¬ om = 0
      refine lv_aload_n hx hb dX1_refusalToRead_18 rfl (lv_at hl 0 rfl) ?_
      refine va_get (D := (dC, dI)) (ci := 2) (v := .int om) (C := RX1) (T := TX1) (N := 9) hx hb hts (by decide +kernel) hown hK hP 0 rfl rfl 3 (by decide) (hts (.fieldLink RX1 36 "RelativeFiles" "openMode" "I") (by decide +kernel)) (fun _ h9 => h9) rfl dX1_refusalToRead_19 ?_
      refine lv_iconst (v := 2) hx hb dX1_refusalToRead_22 (by decide) ?_
      refine lv_icmp_ne (tgt := 30) hx hb dX1_refusalToRead_23 (by decide) (fun c_3 => ?_) (fun c_3 => ?_)
      · -- taken at 23: ¬ om = 2
        refine lv_bipush (v := 47) hx hb dX1_refusalToRead_30 (by decide) ?_
        subst hQ9
        have e9 : fRef om = 47 := by simp only [fRef, if_neg c_1, if_neg c_2, if_neg c_3]
        rw [e9]
        exact W.iret (v := 47) hx hb hr (fun t ht hW => ⟨⟨47, (), rfl, rfl, by rw [ht]; exact hP, va_K.moved hW.alike hK, hD⟩, hS.F ht⟩) hS.2.2 dX1_refusalToRead_32
      · -- not taken at 23: om = 2
        refine lv_iconst (v := 0) hx hb dX1_refusalToRead_26 (by decide) ?_
        refine lv_goto (tgt := 32) hx hb dX1_refusalToRead_27 (by decide) ?_
        subst hQ9
        have e9 : fRef om = 0 := by simp only [fRef, if_neg c_1, if_neg c_2, if_pos c_3]
        rw [e9]
        exact W.iret (v := 0) hx hb hr (fun t ht hW => ⟨⟨0, (), rfl, rfl, by rw [ht]; exact hP, va_K.moved hW.alike hK, hD⟩, hS.F ht⟩) hS.2.2 dX1_refusalToRead_32
  · -- not taken at 5: om = (-1)
    refine lv_bipush (v := 42) hx hb dX1_refusalToRead_8 (by decide) ?_
    subst hQ9
    have e9 : fRef om = 42 := by simp only [fRef, if_pos c_1]
    rw [e9]
    exact W.iret (v := 42) hx hb hr (fun t ht hW => ⟨⟨42, (), rfl, rfl, by rw [ht]; exact hP, va_K.moved hW.alike hK, hD⟩, hS.F ht⟩) hS.2.2 dX1_refusalToRead_10

set_option maxHeartbeats 1000000 in
set_option maxRecDepth 100000 in
theorem kX1_placeToChange (l : Launch) (dC : Nat → ClassId) (dI : Nat → Nat → Nat) (oF oS oA oB : Nat) (cA cB : ClassId) (n h d : Nat) (mo th om sd po lr : Int32) (lv : Int64) (P : Nat → Int32) (V : Nat → Int64) (p0 : Int32) (sz : Nat) (hh : h ≤ n) (hn : n ≤ 512) : Met l yX1_placeToChange wsX1_placeToChange ({ frames := 0, cells := 0, slots := 0, locals := 0 }) (va_Pc [.ref oF, .int p0] (fun U => U.heap.size = sz ∧ va_P (dC, dI) vwCl [(oF, .inr (2, [.int mo, .ref oS, .int th, .int om, .int sd, .int po, .int lr, .long lv, .int (nI d)])), (oS, .inr (1, [.ref oA, .ref oB, .int (nI h)])), (oA, .inl (cA, n, .inl P)), (oB, .inl (cB, n, .inr (.inl V)))] U.heap ∧ va_K (dC, dI) vwCl [(cA, .int), (cB, .long)] U ∧ va_D (fun _ => True) [(oF, .inr (2, [.int mo, .ref oS, .int th, .int om, .int sd, .int po, .int lr, .long lv, .int (nI d)])), (oS, .inr (1, [.ref oA, .ref oB, .int (nI h)])), (oA, .inl (cA, n, .inl P)), (oB, .inl (cB, n, .inr (.inl V)))])) (va_Qi (fun (r : Int32) (_ : Unit) => r = fPC lr p0) (fun (_ : Unit) (t : State) => va_P (dC, dI) vwCl [(oF, .inr (2, [.int mo, .ref oS, .int th, .int om, .int sd, .int po, .int lr, .long lv, .int (nI d)])), (oS, .inr (1, [.ref oA, .ref oB, .int (nI h)])), (oA, .inl (cA, n, .inl P)), (oB, .inl (cB, n, .inr (.inl V)))] t.heap ∧ va_K (dC, dI) vwCl [(cA, .int), (cB, .long)] t ∧ va_D (va_A [(oF, .inr (2, [.int mo, .ref oS, .int th, .int om, .int sd, .int po, .int lr, .long lv, .int (nI d)])), (oS, .inr (1, [.ref oA, .ref oB, .int (nI h)])), (oA, .inl (cA, n, .inl P)), (oB, .inl (cB, n, .inr (.inl V)))] sz) [(oF, .inr (2, [.int mo, .ref oS, .int th, .int om, .int sd, .int po, .int lr, .long lv, .int (nI d)])), (oS, .inr (1, [.ref oA, .ref oB, .int (nI h)])), (oA, .inl (cA, n, .inl P)), (oB, .inl (cB, n, .inr (.inl V)))]) (va_A [(oF, .inr (2, [.int mo, .ref oS, .int th, .int om, .int sd, .int po, .int lr, .long lv, .int (nI d)])), (oS, .inr (1, [.ref oA, .ref oB, .int (nI h)])), (oA, .inl (cA, n, .inl P)), (oB, .inl (cB, n, .inr (.inl V)))] sz)) 0 0 (va_A [(oF, .inr (2, [.int mo, .ref oS, .int th, .int om, .int sd, .int po, .int lr, .long lv, .int (nI d)])), (oS, .inr (1, [.ref oA, .ref oB, .int (nI h)])), (oA, .inl (cA, n, .inl P)), (oB, .inl (cB, n, .inr (.inl V)))] sz) := by
  refine Met.ofW (cc := cX1_placeToChange) (maxL := 2) (ret := (some .int)) (by decide) rfl ?_
  intro p e s m args below meth c s₁ B hml hv
  obtain ⟨rfl, hsz, hP, hK, hD0⟩ := hv
  have hx := B.exec
  have hb := B.bytes
  have hr := B.returns
  have hts := atoms_spec (ws := wsX1_placeToChange) B.pre
  have hown : s.vm.findClass RX1 = some m.cls := findClass_of_methodNamed B.named
  have hlocks := B.notSynchronized
  subst hsz
  have hD := hD0.self (sz := s.heap.size)
  generalize hAe : va_A [(oF, .inr (2, [.int mo, .ref oS, .int th, .int om, .int sd, .int po, .int lr, .long lv, .int (nI d)])), (oS, .inr (1, [.ref oA, .ref oB, .int (nI h)])), (oA, .inl (cA, n, .inl P)), (oB, .inl (cB, n, .inr (.inl V)))] s.heap.size = A at hD ⊢
  have hA : ∀ q : Nat, s.heap.size ≤ q → A q := fun q h => by rw [← hAe]; exact Or.inr h
  have hS : va_S A s.heap s.heap [] := va_S.rf
  have hP : va_P (dC, dI) vwCl [(oF, .inr (2, [.int mo, .ref oS, .int th, .int om, .int sd, .int po, .int lr, .long lv, .int (nI d)])), (oS, .inr (1, [.ref oA, .ref oB, .int (nI h)])), (oA, .inl (cA, n, .inl P)), (oB, .inl (cB, n, .inr (.inl V)))] s.heap := hP
  have hl := lv_entry ([.ref oF, .int p0]) (n := 2) (Nat.le_of_ble_eq_true rfl)
  rw [lg_entry_eq]
  generalize (lg_sl ([.ref oF, .int p0]) ++ List.replicate (2 - (lg_sl ([.ref oF, .int p0])).length) Slot.unset).toArray = ls at hl ⊢
  have hl : lv_has ls 2 [(0, .ref oF), (1, .int p0)] := hl
  refine W_name (fun Q hQ9 => ?_)
  refine lv_iload_n hx hb dX1_placeToChange_0 rfl (lv_at hl 1 rfl) ?_
  refine lv_iconst (v := (-1)) hx hb dX1_placeToChange_1 (by decide) ?_
  refine lv_icmp_ne (tgt := 12) hx hb dX1_placeToChange_2 (by decide) (fun c_1 => ?_) (fun c_1 => ?_)
  · -- taken at 2: ¬ p0 = (-1)
    refine lv_iload_n hx hb dX1_placeToChange_12 rfl (lv_at hl 1 rfl) ?_
    subst hQ9
    have e9 : fPC lr p0 = p0 := by simp only [fPC, if_neg c_1]
    rw [e9]
    exact W.iret (v := p0) hx hb hr (fun t ht hW => ⟨⟨p0, (), rfl, rfl, by rw [ht]; exact hP, va_K.moved hW.alike hK, hD⟩, hS.F ht⟩) hS.2.2 dX1_placeToChange_13
  · -- not taken at 2: p0 = (-1)
    refine lv_aload_n hx hb dX1_placeToChange_5 rfl (lv_at hl 0 rfl) ?_
    refine va_get (D := (dC, dI)) (ci := 2) (v := .int lr) (C := RX1) (T := TX1) (N := 9) hx hb hts (by decide +kernel) hown hK hP 0 rfl rfl 6 (by decide) (hts (.fieldLink RX1 45 "RelativeFiles" "lastRead" "I") (by decide +kernel)) (fun _ h9 => h9) rfl dX1_placeToChange_6 ?_
    refine lv_goto (tgt := 13) hx hb dX1_placeToChange_9 (by decide) ?_
    subst hQ9
    have e9 : fPC lr p0 = lr := by simp only [fPC, if_pos c_1]
    rw [e9]
    exact W.iret (v := lr) hx hb hr (fun t ht hW => ⟨⟨lr, (), rfl, rfl, by rw [ht]; exact hP, va_K.moved hW.alike hK, hD⟩, hS.F ht⟩) hS.2.2 dX1_placeToChange_13

set_option maxHeartbeats 1000000 in
set_option maxRecDepth 100000 in
theorem kX1_placeInOrder (l : Launch) (dC : Nat → ClassId) (dI : Nat → Nat → Nat) (oF oS oA oB : Nat) (cA cB : ClassId) (n h d : Nat) (mo th om sd po lr : Int32) (lv : Int64) (P : Nat → Int32) (V : Nat → Int64) (sz : Nat) (hh : h ≤ n) (hn : n ≤ 512) : Met l yX1_placeInOrder wsX1_placeInOrder ({ frames := 2, cells := 0, slots := 0, locals := 41 }) (va_Pc [.ref oF] (fun U => U.heap.size = sz ∧ va_P (dC, dI) vwCl [(oF, .inr (2, [.int mo, .ref oS, .int th, .int om, .int sd, .int po, .int lr, .long lv, .int (nI d)])), (oS, .inr (1, [.ref oA, .ref oB, .int (nI h)])), (oA, .inl (cA, n, .inl P)), (oB, .inl (cB, n, .inr (.inl V)))] U.heap ∧ va_K (dC, dI) vwCl [(cA, .int), (cB, .long)] U ∧ va_D (fun _ => True) [(oF, .inr (2, [.int mo, .ref oS, .int th, .int om, .int sd, .int po, .int lr, .long lv, .int (nI d)])), (oS, .inr (1, [.ref oA, .ref oB, .int (nI h)])), (oA, .inl (cA, n, .inl P)), (oB, .inl (cB, n, .inr (.inl V)))])) (va_Qi (fun (r : Int32) (_ : Unit) => r = fPO om P h) (fun (_ : Unit) (t : State) => va_P (dC, dI) vwCl [(oF, .inr (2, [.int mo, .ref oS, .int th, .int om, .int sd, .int po, .int lr, .long lv, .int (nI d)])), (oS, .inr (1, [.ref oA, .ref oB, .int (nI h)])), (oA, .inl (cA, n, .inl P)), (oB, .inl (cB, n, .inr (.inl V)))] t.heap ∧ va_K (dC, dI) vwCl [(cA, .int), (cB, .long)] t ∧ va_D (va_A [(oF, .inr (2, [.int mo, .ref oS, .int th, .int om, .int sd, .int po, .int lr, .long lv, .int (nI d)])), (oS, .inr (1, [.ref oA, .ref oB, .int (nI h)])), (oA, .inl (cA, n, .inl P)), (oB, .inl (cB, n, .inr (.inl V)))] sz) [(oF, .inr (2, [.int mo, .ref oS, .int th, .int om, .int sd, .int po, .int lr, .long lv, .int (nI d)])), (oS, .inr (1, [.ref oA, .ref oB, .int (nI h)])), (oA, .inl (cA, n, .inl P)), (oB, .inl (cB, n, .inr (.inl V)))]) (va_A [(oF, .inr (2, [.int mo, .ref oS, .int th, .int om, .int sd, .int po, .int lr, .long lv, .int (nI d)])), (oS, .inr (1, [.ref oA, .ref oB, .int (nI h)])), (oA, .inl (cA, n, .inl P)), (oB, .inl (cB, n, .inr (.inl V)))] sz)) 0 0 (va_A [(oF, .inr (2, [.int mo, .ref oS, .int th, .int om, .int sd, .int po, .int lr, .long lv, .int (nI d)])), (oS, .inr (1, [.ref oA, .ref oB, .int (nI h)])), (oA, .inl (cA, n, .inl P)), (oB, .inl (cB, n, .inr (.inl V)))] sz) := by
  refine Met.ofW (cc := cX1_placeInOrder) (maxL := 1) (ret := (some .int)) (by decide) rfl ?_
  intro p e s m args below meth c s₁ B hml hv
  obtain ⟨rfl, hsz, hP, hK, hD0⟩ := hv
  have hx := B.exec
  have hb := B.bytes
  have hr := B.returns
  have hts := atoms_spec (ws := wsX1_placeInOrder) B.pre
  have hown : s.vm.findClass RX1 = some m.cls := findClass_of_methodNamed B.named
  have hlocks := B.notSynchronized
  subst hsz
  have hD := hD0.self (sz := s.heap.size)
  generalize hAe : va_A [(oF, .inr (2, [.int mo, .ref oS, .int th, .int om, .int sd, .int po, .int lr, .long lv, .int (nI d)])), (oS, .inr (1, [.ref oA, .ref oB, .int (nI h)])), (oA, .inl (cA, n, .inl P)), (oB, .inl (cB, n, .inr (.inl V)))] s.heap.size = A at hD ⊢
  have hA : ∀ q : Nat, s.heap.size ≤ q → A q := fun q h => by rw [← hAe]; exact Or.inr h
  have hS : va_S A s.heap s.heap [] := va_S.rf
  have hP : va_P (dC, dI) vwCl [(oF, .inr (2, [.int mo, .ref oS, .int th, .int om, .int sd, .int po, .int lr, .long lv, .int (nI d)])), (oS, .inr (1, [.ref oA, .ref oB, .int (nI h)])), (oA, .inl (cA, n, .inl P)), (oB, .inl (cB, n, .inr (.inl V)))] s.heap := hP
  have hl := lv_entry ([.ref oF]) (n := 1) (Nat.le_of_ble_eq_true rfl)
  rw [lg_entry_eq]
  generalize (lg_sl ([.ref oF]) ++ List.replicate (1 - (lg_sl ([.ref oF])).length) Slot.unset).toArray = ls at hl ⊢
  have hl : lv_has ls 1 [(0, .ref oF)] := hl
  refine W_name (fun Q hQ9 => ?_)
  refine lv_aload_n hx hb dX1_placeInOrder_0 rfl (lv_at hl 0 rfl) ?_
  refine va_get (D := (dC, dI)) (ci := 2) (v := .int om) (C := RX1) (T := TX1) (N := 9) hx hb hts (by decide +kernel) hown hK hP 0 rfl rfl 3 (by decide) (hts (.fieldLink RX1 36 "RelativeFiles" "openMode" "I") (by decide +kernel)) (fun _ h9 => h9) rfl dX1_placeInOrder_1 ?_
  refine lv_iconst (v := 2) hx hb dX1_placeInOrder_4 (by decide) ?_
  refine lv_icmp_ne (tgt := 12) hx hb dX1_placeInOrder_5 (by decide) (fun c_1 => ?_) (fun c_1 => ?_)
  · -- taken at 5: ¬ om = 2
    refine lv_aload_n hx hb dX1_placeInOrder_12 rfl (lv_at hl 0 rfl) ?_
    refine va_get (D := (dC, dI)) (ci := 2) (v := .ref oS) (C := RX1) (T := TX1) (N := 9) hx hb hts (by decide +kernel) hown hK hP 0 rfl rfl 1 (by decide) (hts (.fieldLink RX1 28 "RelativeFiles" "shelf" "LRelativeFiles$Shelf;") (by decide +kernel)) (fun _ h9 => h9) rfl dX1_placeInOrder_13 ?_
    have hPc := hP.sub (ws' := [(oS, .inr (1, [.ref oA, .ref oB, .int (nI h)])), (oA, .inl (cA, n, .inl P)), (oB, .inl (cB, n, .inr (.inl V)))]) [1, 2, 3] rfl
    have hDc := hD.sub (ws' := [(oS, .inr (1, [.ref oA, .ref oB, .int (nI h)])), (oA, .inl (cA, n, .inl P)), (oB, .inl (cB, n, .inr (.inl V)))]) [1, 2, 3] (by decide) rfl
    have hKc := hK.sub (tys' := [(cA, .int), (cB, .long)]) [0, 1] rfl
    have hFc := va_free (wc := [(oS, .inr (1, [.ref oA, .ref oB, .int (nI h)])), (oA, .inl (cA, n, .inl P)), (oB, .inl (cB, n, .inr (.inl V)))]) hD hS hA [1, 2, 3] rfl
    refine va_calli (va_runV (As := []) (rest := []) ⟨hx, hb, hml, hown, hts⟩ (kX0_greatest l dC dI oS oA oB cA cB n h P V  s.heap.size hh hn) (cwV 0 hts gX1_placeInOrder_X0_greatest rfl rfl rfl (by decide +kernel) ⟨Nat.le_of_ble_eq_true rfl, Nat.le_of_ble_eq_true rfl⟩) ⟨fun a U g mk q => by obtain ⟨q0, q1, qP, qK, qD⟩ := q; exact ⟨q0, q1, qP, va_K.moved (u := U) (U := U.calling g mk a) (Vm.Alike.refl U.vm) qK, qD⟩, va_recv hKc hPc (ci := 1) (q0 := 0) rfl rfl, fun U hU hW => ⟨rfl, by rw [hU], by rw [hU]; exact hPc, va_K.moved hW.alike hKc, hDc.weaken (fun _ _ _ _ => trivial)⟩⟩ rfl rfl hl.1 rfl (lv_room (Nat.le_of_ble_eq_true rfl)) dX1_placeInOrder_16 ⟨Nat.le_of_ble_eq_true rfl, Nat.le_of_ble_eq_true rfl⟩) hS (fun q _ h => hFc q h) hFc (fun r_2 u t H1 locs ht hvm hw hB hz1 hk1 hS => ?_)
    obtain ⟨hP1, hK1, hD1⟩ := hB
    rw [ht] at hP1
    have hK1 := va_K.moved hvm.symm hK1
    try dsimp only at hw
    obtain ⟨hP, hD⟩ := va_join (wr := [(oF, .inr (2, [.int mo, .ref oS, .int th, .int om, .int sd, .int po, .int lr, .long lv, .int (nI d)]))]) (w1 := [(oS, .inr (1, [.ref oA, .ref oB, .int (nI h)])), (oA, .inl (cA, n, .inl P)), (oB, .inl (cB, n, .inr (.inl V)))]) hP hD [1, 2, 3] [0] rfl rfl (by decide) (by decide) hk1 hFc hP1 hD1
    generalize H1 = H at hP hS ⊢
    have hP : va_P (dC, dI) vwCl [(oF, .inr (2, [.int mo, .ref oS, .int th, .int om, .int sd, .int po, .int lr, .long lv, .int (nI d)])), (oS, .inr (1, [.ref oA, .ref oB, .int (nI h)])), (oA, .inl (cA, n, .inl P)), (oB, .inl (cB, n, .inr (.inl V)))] H := hP.sub [0, 1, 2, 3] rfl
    have hD : va_D A [(oF, .inr (2, [.int mo, .ref oS, .int th, .int om, .int sd, .int po, .int lr, .long lv, .int (nI d)])), (oS, .inr (1, [.ref oA, .ref oB, .int (nI h)])), (oA, .inl (cA, n, .inl P)), (oB, .inl (cB, n, .inr (.inl V)))] := hD.sub [0, 1, 2, 3] (by decide) rfl
    have hK : va_K (dC, dI) vwCl [(cA, .int), (cB, .long)] s := hK
    subst hw
    refine lv_iconst (v := 1) hx hb dX1_placeInOrder_19 (by decide) ?_
    refine lv_iadd hx hb dX1_placeInOrder_20 ?_
    subst hQ9
    have e9 : fPO om P h = (fGr P h) + 1 := by simp only [fPO, if_neg c_1]
    rw [e9]
    exact W.iret (v := (fGr P h) + 1) hx hb hr (fun t ht hW => ⟨⟨(fGr P h) + 1, (), rfl, rfl, by rw [ht]; exact hP, va_K.moved hW.alike hK, hD⟩, hS.F ht⟩) hS.2.2 dX1_placeInOrder_21
  · -- not taken at 5: om = 2
    refine lv_iconst (v := 0) hx hb dX1_placeInOrder_8 (by decide) ?_
    refine lv_goto (tgt := 21) hx hb dX1_placeInOrder_9 (by decide) ?_
    subst hQ9
    have e9 : fPO om P h = 0 := by simp only [fPO, if_pos c_1]
    rw [e9]
    exact W.iret (v := 0) hx hb hr (fun t ht hW => ⟨⟨0, (), rfl, rfl, by rw [ht]; exact hP, va_K.moved hW.alike hK, hD⟩, hS.F ht⟩) hS.2.2 dX1_placeInOrder_21

set_option maxHeartbeats 1000000 in
set_option maxRecDepth 100000 in
theorem kX1_statusOfChange (l : Launch) (dC : Nat → ClassId) (dI : Nat → Nat → Nat) (oF oS oA oB : Nat) (cA cB : ClassId) (n h d : Nat) (mo th om sd po lr : Int32) (lv : Int64) (P : Nat → Int32) (V : Nat → Int64) (p0 p1 : Int32) (sz : Nat) (hh : h ≤ n) (hn : n ≤ 512) : Met l yX1_statusOfChange wsX1_statusOfChange ({ frames := 2, cells := 0, slots := 0, locals := 43 }) (va_Pc [.ref oF, .int p0, .int p1] (fun U => U.heap.size = sz ∧ va_P (dC, dI) vwCl [(oF, .inr (2, [.int mo, .ref oS, .int th, .int om, .int sd, .int po, .int lr, .long lv, .int (nI d)])), (oS, .inr (1, [.ref oA, .ref oB, .int (nI h)])), (oA, .inl (cA, n, .inl P)), (oB, .inl (cB, n, .inr (.inl V)))] U.heap ∧ va_K (dC, dI) vwCl [(cA, .int), (cB, .long)] U ∧ va_D (fun _ => True) [(oF, .inr (2, [.int mo, .ref oS, .int th, .int om, .int sd, .int po, .int lr, .long lv, .int (nI d)])), (oS, .inr (1, [.ref oA, .ref oB, .int (nI h)])), (oA, .inl (cA, n, .inl P)), (oB, .inl (cB, n, .inr (.inl V)))])) (va_Qi (fun (r : Int32) (_ : Unit) => r = fSC om P h p0 p1) (fun (_ : Unit) (t : State) => va_P (dC, dI) vwCl [(oF, .inr (2, [.int mo, .ref oS, .int th, .int om, .int sd, .int po, .int (fSL om lr), .long lv, .int (nI d)])), (oS, .inr (1, [.ref oA, .ref oB, .int (nI h)])), (oA, .inl (cA, n, .inl P)), (oB, .inl (cB, n, .inr (.inl V)))] t.heap ∧ va_K (dC, dI) vwCl [(cA, .int), (cB, .long)] t ∧ va_D (va_A [(oF, .inr (2, [.int mo, .ref oS, .int th, .int om, .int sd, .int po, .int lr, .long lv, .int (nI d)])), (oS, .inr (1, [.ref oA, .ref oB, .int (nI h)])), (oA, .inl (cA, n, .inl P)), (oB, .inl (cB, n, .inr (.inl V)))] sz) [(oF, .inr (2, [.int mo, .ref oS, .int th, .int om, .int sd, .int po, .int (fSL om lr), .long lv, .int (nI d)])), (oS, .inr (1, [.ref oA, .ref oB, .int (nI h)])), (oA, .inl (cA, n, .inl P)), (oB, .inl (cB, n, .inr (.inl V)))]) (va_A [(oF, .inr (2, [.int mo, .ref oS, .int th, .int om, .int sd, .int po, .int lr, .long lv, .int (nI d)])), (oS, .inr (1, [.ref oA, .ref oB, .int (nI h)])), (oA, .inl (cA, n, .inl P)), (oB, .inl (cB, n, .inr (.inl V)))] sz)) 0 0 (va_A [(oF, .inr (2, [.int mo, .ref oS, .int th, .int om, .int sd, .int po, .int lr, .long lv, .int (nI d)])), (oS, .inr (1, [.ref oA, .ref oB, .int (nI h)])), (oA, .inl (cA, n, .inl P)), (oB, .inl (cB, n, .inr (.inl V)))] sz) := by
  refine Met.ofW (cc := cX1_statusOfChange) (maxL := 3) (ret := (some .int)) (by decide) rfl ?_
  intro p e s m args below meth c s₁ B hml hv
  obtain ⟨rfl, hsz, hP, hK, hD0⟩ := hv
  have hx := B.exec
  have hb := B.bytes
  have hr := B.returns
  have hts := atoms_spec (ws := wsX1_statusOfChange) B.pre
  have hown : s.vm.findClass RX1 = some m.cls := findClass_of_methodNamed B.named
  have hlocks := B.notSynchronized
  subst hsz
  have hD := hD0.self (sz := s.heap.size)
  generalize hAe : va_A [(oF, .inr (2, [.int mo, .ref oS, .int th, .int om, .int sd, .int po, .int lr, .long lv, .int (nI d)])), (oS, .inr (1, [.ref oA, .ref oB, .int (nI h)])), (oA, .inl (cA, n, .inl P)), (oB, .inl (cB, n, .inr (.inl V)))] s.heap.size = A at hD ⊢
  have hA : ∀ q : Nat, s.heap.size ≤ q → A q := fun q h => by rw [← hAe]; exact Or.inr h
  have hS : va_S A s.heap s.heap [] := va_S.rf
  have hP : va_P (dC, dI) vwCl [(oF, .inr (2, [.int mo, .ref oS, .int th, .int om, .int sd, .int po, .int lr, .long lv, .int (nI d)])), (oS, .inr (1, [.ref oA, .ref oB, .int (nI h)])), (oA, .inl (cA, n, .inl P)), (oB, .inl (cB, n, .inr (.inl V)))] s.heap := hP
  have hl := lv_entry ([.ref oF, .int p0, .int p1]) (n := 3) (Nat.le_of_ble_eq_true rfl)
  rw [lg_entry_eq]
  generalize (lg_sl ([.ref oF, .int p0, .int p1]) ++ List.replicate (3 - (lg_sl ([.ref oF, .int p0, .int p1])).length) Slot.unset).toArray = ls at hl ⊢
  have hl : lv_has ls 3 [(0, .ref oF), (1, .int p0), (2, .int p1)] := hl
  refine W_name (fun Q hQ9 => ?_)
  refine lv_aload_n hx hb dX1_statusOfChange_0 rfl (lv_at hl 0 rfl) ?_
  refine va_get (D := (dC, dI)) (ci := 2) (v := .int om) (C := RX1) (T := TX1) (N := 9) hx hb hts (by decide +kernel) hown hK hP 0 rfl rfl 3 (by decide) (hts (.fieldLink RX1 36 "RelativeFiles" "openMode" "I") (by decide +kernel)) (fun _ h9 => h9) rfl dX1_statusOfChange_1 ?_
  refine lv_iconst (v := (-1)) hx hb dX1_statusOfChange_4 (by decide) ?_
  refine lv_icmp_ne (tgt := 11) hx hb dX1_statusOfChange_5 (by decide) (fun c_1 => ?_) (fun c_1 => ?_)
  · -- taken at 5: ¬ om = (-1)
    refine lv_aload_n hx hb dX1_statusOfChange_11 rfl (lv_at hl 0 rfl) ?_
    refine va_get (D := (dC, dI)) (ci := 2) (v := .int om) (C := RX1) (T := TX1) (N := 9) hx hb hts (by decide +kernel) hown hK hP 0 rfl rfl 3 (by decide) (hts (.fieldLink RX1 36 "RelativeFiles" "openMode" "I") (by decide +kernel)) (fun _ h9 => h9) rfl dX1_statusOfChange_12 ?_
    refine lv_iconst (v := 2) hx hb dX1_statusOfChange_15 (by decide) ?_
    refine lv_icmp_eq (tgt := 22) hx hb dX1_statusOfChange_16 (by decide) (fun c_2 => ?_) (fun c_2 => ?_)
    · -- taken at 16: om = 2
      refine lv_aload_n hx hb dX1_statusOfChange_22 rfl (lv_at hl 0 rfl) ?_
      refine lv_iconst (v := 0) hx hb dX1_statusOfChange_23 (by decide) ?_
      refine va_put (D := (dC, dI)) (ci := 2) (v := .int 0) (ty := .int) (C := RX1) (T := TX1) (N := 9) hx hb hts (by decide +kernel) tyX1 tyX1_ok nmX1 hown hK hP hD hS 0 rfl rfl 6 (by decide) (hts (.fieldLink RX1 45 "RelativeFiles" "lastRead" "I") (by decide +kernel)) (fun _ h9 => h9) rfl (by decide +kernel) rfl rfl (Nat.le_of_ble_eq_true rfl) dX1_statusOfChange_24 (fun H locs hP hD hS => ?_)
      have hP : va_P (dC, dI) vwCl [(oF, .inr (2, [.int mo, .ref oS, .int th, .int om, .int sd, .int po, .int 0, .long lv, .int (nI d)])), (oS, .inr (1, [.ref oA, .ref oB, .int (nI h)])), (oA, .inl (cA, n, .inl P)), (oB, .inl (cB, n, .inr (.inl V)))] H := hP
      have hD : va_D A [(oF, .inr (2, [.int mo, .ref oS, .int th, .int om, .int sd, .int po, .int 0, .long lv, .int (nI d)])), (oS, .inr (1, [.ref oA, .ref oB, .int (nI h)])), (oA, .inl (cA, n, .inl P)), (oB, .inl (cB, n, .inr (.inl V)))] := hD
      refine lv_aload_n hx hb dX1_statusOfChange_27 rfl (lv_at hl 0 rfl) ?_
      refine va_get (D := (dC, dI)) (ci := 2) (v := .ref oS) (C := RX1) (T := TX1) (N := 9) hx hb hts (by decide +kernel) hown hK hP 0 rfl rfl 1 (by decide) (hts (.fieldLink RX1 28 "RelativeFiles" "shelf" "LRelativeFiles$Shelf;") (by decide +kernel)) (fun _ h9 => h9) rfl dX1_statusOfChange_28 ?_
      refine lv_iload_n hx hb dX1_statusOfChange_31 rfl (lv_at hl 2 rfl) ?_
      have hPc := hP.sub (ws' := [(oS, .inr (1, [.ref oA, .ref oB, .int (nI h)])), (oA, .inl (cA, n, .inl P)), (oB, .inl (cB, n, .inr (.inl V)))]) [1, 2, 3] rfl
      have hDc := hD.sub (ws' := [(oS, .inr (1, [.ref oA, .ref oB, .int (nI h)])), (oA, .inl (cA, n, .inl P)), (oB, .inl (cB, n, .inr (.inl V)))]) [1, 2, 3] (by decide) rfl
      have hKc := hK.sub (tys' := [(cA, .int), (cB, .long)]) [0, 1] rfl
      have hFc := va_free (wc := [(oS, .inr (1, [.ref oA, .ref oB, .int (nI h)])), (oA, .inl (cA, n, .inl P)), (oB, .inl (cB, n, .inr (.inl V)))]) hD hS hA [1, 2, 3] rfl
      refine va_calli (va_runV (As := [.int p1]) (rest := []) ⟨hx, hb, hml, hown, hts⟩ (kX0_has l dC dI oS oA oB cA cB n h P V p1 H.size hh hn) (cwV 1 hts gX1_statusOfChange_X0_has rfl rfl rfl (by decide +kernel) ⟨Nat.le_of_ble_eq_true rfl, Nat.le_of_ble_eq_true rfl⟩) ⟨fun a U g mk q => by obtain ⟨q0, q1, qP, qK, qD⟩ := q; exact ⟨q0, q1, qP, va_K.moved (u := U) (U := U.calling g mk a) (Vm.Alike.refl U.vm) qK, qD⟩, va_recv hKc hPc (ci := 1) (q0 := 0) rfl rfl, fun U hU hW => ⟨rfl, by rw [hU], by rw [hU]; exact hPc, va_K.moved hW.alike hKc, hDc.weaken (fun _ _ _ _ => trivial)⟩⟩ rfl rfl hl.1 rfl (lv_room (Nat.le_of_ble_eq_true rfl)) dX1_statusOfChange_32 ⟨Nat.le_of_ble_eq_true rfl, Nat.le_of_ble_eq_true rfl⟩) hS (fun q _ h => hFc q h) hFc (fun r_3 u t H1 locs ht hvm hw hB hz1 hk1 hS => ?_)
      obtain ⟨hP1, hK1, hD1⟩ := hB
      rw [ht] at hP1
      have hK1 := va_K.moved hvm.symm hK1
      try dsimp only at hw
      obtain ⟨hP, hD⟩ := va_join (wr := [(oF, .inr (2, [.int mo, .ref oS, .int th, .int om, .int sd, .int po, .int 0, .long lv, .int (nI d)]))]) (w1 := [(oS, .inr (1, [.ref oA, .ref oB, .int (nI h)])), (oA, .inl (cA, n, .inl P)), (oB, .inl (cB, n, .inr (.inl V)))]) hP hD [1, 2, 3] [0] rfl rfl (by decide) (by decide) hk1 hFc hP1 hD1
      generalize H1 = H at hP hS ⊢
      have hP : va_P (dC, dI) vwCl [(oF, .inr (2, [.int mo, .ref oS, .int th, .int om, .int sd, .int po, .int 0, .long lv, .int (nI d)])), (oS, .inr (1, [.ref oA, .ref oB, .int (nI h)])), (oA, .inl (cA, n, .inl P)), (oB, .inl (cB, n, .inr (.inl V)))] H := hP.sub [0, 1, 2, 3] rfl
      have hD : va_D A [(oF, .inr (2, [.int mo, .ref oS, .int th, .int om, .int sd, .int po, .int 0, .long lv, .int (nI d)])), (oS, .inr (1, [.ref oA, .ref oB, .int (nI h)])), (oA, .inl (cA, n, .inl P)), (oB, .inl (cB, n, .inr (.inl V)))] := hD.sub [0, 1, 2, 3] (by decide) rfl
      have hK : va_K (dC, dI) vwCl [(cA, .int), (cB, .long)] s := hK
      rcases hw with ⟨b_4, hw⟩ | ⟨b_4, hw⟩
      · -- hasS P h p1
        subst hw
        refine lv_if_eq (tgt := 40) hx hb dX1_statusOfChange_35 (by decide) (fun c_5 => ?_) (fun c_5 => ?_)
        · -- taken at 35: 1 = 0
          exact absurd c_5 (by decide)
        · -- not taken at 35: ¬ 1 = 0
          refine lv_iconst (v := 0) hx hb dX1_statusOfChange_38 (by decide) ?_
          subst hQ9
          have e9 : fSC om P h p0 p1 = 0 := by simp only [fSC, if_neg c_1, if_pos c_2, if_pos b_4]
          have e8 : fSL om lr = 0 := by simp only [fSL, if_neg c_1, if_pos c_2, if_pos b_4]
          rw [e9, e8]
          exact W.iret (v := 0) hx hb hr (fun t ht hW => ⟨⟨0, (), rfl, rfl, by rw [ht]; exact hP, va_K.moved hW.alike hK, hD⟩, hS.F ht⟩) hS.2.2 dX1_statusOfChange_39
      · -- ¬ (hasS P h p1)
        subst hw
        refine lv_if_eq (tgt := 40) hx hb dX1_statusOfChange_35 (by decide) (fun c_6 => ?_) (fun c_6 => ?_)
        · -- taken at 35: 0 = 0
          refine lv_iload_n hx hb dX1_statusOfChange_40 rfl (lv_at hl 1 rfl) ?_
          refine lv_iconst (v := (-1)) hx hb dX1_statusOfChange_41 (by decide) ?_
          refine lv_icmp_ne (tgt := 50) hx hb dX1_statusOfChange_42 (by decide) (fun c_7 => ?_) (fun c_7 => ?_)
          · -- taken at 42: ¬ p0 = (-1)
            refine lv_bipush (v := 23) hx hb dX1_statusOfChange_50 (by decide) ?_
            subst hQ9
            have e9 : fSC om P h p0 p1 = 23 := by simp only [fSC, if_neg c_1, if_pos c_2, if_neg b_4, if_neg c_7]
            have e8 : fSL om lr = 0 := by simp only [fSL, if_neg c_1, if_pos c_2, if_neg b_4, if_neg c_7]
            rw [e9, e8]
            exact W.iret (v := 23) hx hb hr (fun t ht hW => ⟨⟨23, (), rfl, rfl, by rw [ht]; exact hP, va_K.moved hW.alike hK, hD⟩, hS.F ht⟩) hS.2.2 dX1_statusOfChange_52
          · -- not taken at 42: p0 = (-1)
            refine lv_bipush (v := 43) hx hb dX1_statusOfChange_45 (by decide) ?_
            refine lv_goto (tgt := 52) hx hb dX1_statusOfChange_47 (by decide) ?_
            subst hQ9
            have e9 : fSC om P h p0 p1 = 43 := by simp only [fSC, if_neg c_1, if_pos c_2, if_neg b_4, if_pos c_7]
            have e8 : fSL om lr = 0 := by simp only [fSL, if_neg c_1, if_pos c_2, if_neg b_4, if_pos c_7]
            rw [e9, e8]
            exact W.iret (v := 43) hx hb hr (fun t ht hW => ⟨⟨43, (), rfl, rfl, by rw [ht]; exact hP, va_K.moved hW.alike hK, hD⟩, hS.F ht⟩) hS.2.2 dX1_statusOfChange_52
        · -- not taken at 35: ¬ 0 = 0
          exact absurd c_6 (by decide)
    · -- not taken at 16: ¬ om = 2
      refine lv_bipush (v := 49) hx hb dX1_statusOfChange_19 (by decide) ?_
      subst hQ9
      have e9 : fSC om P h p0 p1 = 49 := by simp only [fSC, if_neg c_1, if_neg c_2]
      have e8 : fSL om lr = lr := by simp only [fSL, if_neg c_1, if_neg c_2]
      rw [e9, e8]
      exact W.iret (v := 49) hx hb hr (fun t ht hW => ⟨⟨49, (), rfl, rfl, by rw [ht]; exact hP, va_K.moved hW.alike hK, hD⟩, hS.F ht⟩) hS.2.2 dX1_statusOfChange_21
  · -- not taken at 5: om = (-1)
    refine lv_bipush (v := 42) hx hb dX1_statusOfChange_8 (by decide) ?_
    subst hQ9
    have e9 : fSC om P h p0 p1 = 42 := by simp only [fSC, if_pos c_1]
    have e8 : fSL om lr = lr := by simp only [fSL, if_pos c_1]
    rw [e9, e8]
    exact W.iret (v := 42) hx hb hr (fun t ht hW => ⟨⟨42, (), rfl, rfl, by rw [ht]; exact hP, va_K.moved hW.alike hK, hD⟩, hS.F ht⟩) hS.2.2 dX1_statusOfChange_10

set_option maxHeartbeats 1000000 in
set_option maxRecDepth 100000 in
theorem kX1_placeToStart (l : Launch) (dC : Nat → ClassId) (dI : Nat → Nat → Nat) (oF oS oA oB : Nat) (cA cB : ClassId) (n h d : Nat) (mo th om sd po lr : Int32) (lv : Int64) (P : Nat → Int32) (V : Nat → Int64) (p0 p1 : Int32) (sz : Nat) (hh : h ≤ n) (hn : n ≤ 512) : Met l yX1_placeToStart wsX1_placeToStart ({ frames := 2, cells := 0, slots := 0, locals := 44 }) (va_Pc [.ref oF, .int p0, .int p1] (fun U => U.heap.size = sz ∧ va_P (dC, dI) vwCl [(oF, .inr (2, [.int mo, .ref oS, .int th, .int om, .int sd, .int po, .int lr, .long lv, .int (nI d)])), (oS, .inr (1, [.ref oA, .ref oB, .int (nI h)])), (oA, .inl (cA, n, .inl P)), (oB, .inl (cB, n, .inr (.inl V)))] U.heap ∧ va_K (dC, dI) vwCl [(cA, .int), (cB, .long)] U ∧ va_D (fun _ => True) [(oF, .inr (2, [.int mo, .ref oS, .int th, .int om, .int sd, .int po, .int lr, .long lv, .int (nI d)])), (oS, .inr (1, [.ref oA, .ref oB, .int (nI h)])), (oA, .inl (cA, n, .inl P)), (oB, .inl (cB, n, .inr (.inl V)))])) (va_Qi (fun (r : Int32) (_ : Unit) => r = fPS P h p0 p1) (fun (_ : Unit) (t : State) => va_P (dC, dI) vwCl [(oF, .inr (2, [.int mo, .ref oS, .int th, .int om, .int sd, .int po, .int lr, .long lv, .int (nI d)])), (oS, .inr (1, [.ref oA, .ref oB, .int (nI h)])), (oA, .inl (cA, n, .inl P)), (oB, .inl (cB, n, .inr (.inl V)))] t.heap ∧ va_K (dC, dI) vwCl [(cA, .int), (cB, .long)] t ∧ va_D (va_A [(oF, .inr (2, [.int mo, .ref oS, .int th, .int om, .int sd, .int po, .int lr, .long lv, .int (nI d)])), (oS, .inr (1, [.ref oA, .ref oB, .int (nI h)])), (oA, .inl (cA, n, .inl P)), (oB, .inl (cB, n, .inr (.inl V)))] sz) [(oF, .inr (2, [.int mo, .ref oS, .int th, .int om, .int sd, .int po, .int lr, .long lv, .int (nI d)])), (oS, .inr (1, [.ref oA, .ref oB, .int (nI h)])), (oA, .inl (cA, n, .inl P)), (oB, .inl (cB, n, .inr (.inl V)))]) (va_A [(oF, .inr (2, [.int mo, .ref oS, .int th, .int om, .int sd, .int po, .int lr, .long lv, .int (nI d)])), (oS, .inr (1, [.ref oA, .ref oB, .int (nI h)])), (oA, .inl (cA, n, .inl P)), (oB, .inl (cB, n, .inr (.inl V)))] sz)) 0 0 (va_A [(oF, .inr (2, [.int mo, .ref oS, .int th, .int om, .int sd, .int po, .int lr, .long lv, .int (nI d)])), (oS, .inr (1, [.ref oA, .ref oB, .int (nI h)])), (oA, .inl (cA, n, .inl P)), (oB, .inl (cB, n, .inr (.inl V)))] sz) := by
  refine Met.ofW (cc := cX1_placeToStart) (maxL := 3) (ret := (some .int)) (by decide) rfl ?_
  intro p e s m args below meth c s₁ B hml hv
  obtain ⟨rfl, hsz, hP, hK, hD0⟩ := hv
  have hx := B.exec
  have hb := B.bytes
  have hr := B.returns
  have hts := atoms_spec (ws := wsX1_placeToStart) B.pre
  have hown : s.vm.findClass RX1 = some m.cls := findClass_of_methodNamed B.named
  have hlocks := B.notSynchronized
  subst hsz
  have hD := hD0.self (sz := s.heap.size)
  generalize hAe : va_A [(oF, .inr (2, [.int mo, .ref oS, .int th, .int om, .int sd, .int po, .int lr, .long lv, .int (nI d)])), (oS, .inr (1, [.ref oA, .ref oB, .int (nI h)])), (oA, .inl (cA, n, .inl P)), (oB, .inl (cB, n, .inr (.inl V)))] s.heap.size = A at hD ⊢
  have hA : ∀ q : Nat, s.heap.size ≤ q → A q := fun q h => by rw [← hAe]; exact Or.inr h
  have hS : va_S A s.heap s.heap [] := va_S.rf
  have hP : va_P (dC, dI) vwCl [(oF, .inr (2, [.int mo, .ref oS, .int th, .int om, .int sd, .int po, .int lr, .long lv, .int (nI d)])), (oS, .inr (1, [.ref oA, .ref oB, .int (nI h)])), (oA, .inl (cA, n, .inl P)), (oB, .inl (cB, n, .inr (.inl V)))] s.heap := hP
  have hl := lv_entry ([.ref oF, .int p0, .int p1]) (n := 3) (Nat.le_of_ble_eq_true rfl)
  rw [lg_entry_eq]
  generalize (lg_sl ([.ref oF, .int p0, .int p1]) ++ List.replicate (3 - (lg_sl ([.ref oF, .int p0, .int p1])).length) Slot.unset).toArray = ls at hl ⊢
  have hl : lv_has ls 3 [(0, .ref oF), (1, .int p0), (2, .int p1)] := hl
  refine W_name (fun Q hQ9 => ?_)
  refine lv_iload_n hx hb dX1_placeToStart_0 rfl (lv_at hl 1 rfl) ?_
  by_cases s_1 : p0 = 0
  · -- case 0
    refine lv_tableIn (tgt := 36) hx hb dX1_placeToStart_1 (by rw [s_1]; decide) (by rw [s_1]; decide) (by rw [s_1]; rfl) (by decide) ?_
    refine lv_aload_n hx hb dX1_placeToStart_36 rfl (lv_at hl 0 rfl) ?_
    refine va_get (D := (dC, dI)) (ci := 2) (v := .ref oS) (C := RX1) (T := TX1) (N := 9) hx hb hts (by decide +kernel) hown hK hP 0 rfl rfl 1 (by decide) (hts (.fieldLink RX1 28 "RelativeFiles" "shelf" "LRelativeFiles$Shelf;") (by decide +kernel)) (fun _ h9 => h9) rfl dX1_placeToStart_37 ?_
    refine lv_iload_n hx hb dX1_placeToStart_40 rfl (lv_at hl 2 rfl) ?_
    have hPc := hP.sub (ws' := [(oS, .inr (1, [.ref oA, .ref oB, .int (nI h)])), (oA, .inl (cA, n, .inl P)), (oB, .inl (cB, n, .inr (.inl V)))]) [1, 2, 3] rfl
    have hDc := hD.sub (ws' := [(oS, .inr (1, [.ref oA, .ref oB, .int (nI h)])), (oA, .inl (cA, n, .inl P)), (oB, .inl (cB, n, .inr (.inl V)))]) [1, 2, 3] (by decide) rfl
    have hKc := hK.sub (tys' := [(cA, .int), (cB, .long)]) [0, 1] rfl
    have hFc := va_free (wc := [(oS, .inr (1, [.ref oA, .ref oB, .int (nI h)])), (oA, .inl (cA, n, .inl P)), (oB, .inl (cB, n, .inr (.inl V)))]) hD hS hA [1, 2, 3] rfl
    refine va_calli (va_runV (As := [.int p1]) (rest := []) ⟨hx, hb, hml, hown, hts⟩ (kX0_has l dC dI oS oA oB cA cB n h P V p1 s.heap.size hh hn) (cwV 1 hts gX1_placeToStart_X0_has rfl rfl rfl (by decide +kernel) ⟨Nat.le_of_ble_eq_true rfl, Nat.le_of_ble_eq_true rfl⟩) ⟨fun a U g mk q => by obtain ⟨q0, q1, qP, qK, qD⟩ := q; exact ⟨q0, q1, qP, va_K.moved (u := U) (U := U.calling g mk a) (Vm.Alike.refl U.vm) qK, qD⟩, va_recv hKc hPc (ci := 1) (q0 := 0) rfl rfl, fun U hU hW => ⟨rfl, by rw [hU], by rw [hU]; exact hPc, va_K.moved hW.alike hKc, hDc.weaken (fun _ _ _ _ => trivial)⟩⟩ rfl rfl hl.1 rfl (lv_room (Nat.le_of_ble_eq_true rfl)) dX1_placeToStart_41 ⟨Nat.le_of_ble_eq_true rfl, Nat.le_of_ble_eq_true rfl⟩) hS (fun q _ h => hFc q h) hFc (fun r_2 u t H1 locs ht hvm hw hB hz1 hk1 hS => ?_)
    obtain ⟨hP1, hK1, hD1⟩ := hB
    rw [ht] at hP1
    have hK1 := va_K.moved hvm.symm hK1
    try dsimp only at hw
    obtain ⟨hP, hD⟩ := va_join (wr := [(oF, .inr (2, [.int mo, .ref oS, .int th, .int om, .int sd, .int po, .int lr, .long lv, .int (nI d)]))]) (w1 := [(oS, .inr (1, [.ref oA, .ref oB, .int (nI h)])), (oA, .inl (cA, n, .inl P)), (oB, .inl (cB, n, .inr (.inl V)))]) hP hD [1, 2, 3] [0] rfl rfl (by decide) (by decide) hk1 hFc hP1 hD1
    generalize H1 = H at hP hS ⊢
    have hP : va_P (dC, dI) vwCl [(oF, .inr (2, [.int mo, .ref oS, .int th, .int om, .int sd, .int po, .int lr, .long lv, .int (nI d)])), (oS, .inr (1, [.ref oA, .ref oB, .int (nI h)])), (oA, .inl (cA, n, .inl P)), (oB, .inl (cB, n, .inr (.inl V)))] H := hP.sub [0, 1, 2, 3] rfl
    have hD : va_D A [(oF, .inr (2, [.int mo, .ref oS, .int th, .int om, .int sd, .int po, .int lr, .long lv, .int (nI d)])), (oS, .inr (1, [.ref oA, .ref oB, .int (nI h)])), (oA, .inl (cA, n, .inl P)), (oB, .inl (cB, n, .inr (.inl V)))] := hD.sub [0, 1, 2, 3] (by decide) rfl
    have hK : va_K (dC, dI) vwCl [(cA, .int), (cB, .long)] s := hK
    rcases hw with ⟨b_3, hw⟩ | ⟨b_3, hw⟩
    · -- hasS P h p1
      subst hw
      refine lv_if_eq (tgt := 51) hx hb dX1_placeToStart_44 (by decide) (fun c_4 => ?_) (fun c_4 => ?_)
      · -- taken at 44: 1 = 0
        exact absurd c_4 (by decide)
      · -- not taken at 44: ¬ 1 = 0
        refine lv_iload_n hx hb dX1_placeToStart_47 rfl (lv_at hl 2 rfl) ?_
        refine lv_goto (tgt := 52) hx hb dX1_placeToStart_48 (by decide) ?_
        subst hQ9
        have e9 : fPS P h p0 p1 = p1 := by simp only [fPS, if_pos s_1, if_pos b_3]
        rw [e9]
        exact W.iret (v := p1) hx hb hr (fun t ht hW => ⟨⟨p1, (), rfl, rfl, by rw [ht]; exact hP, va_K.moved hW.alike hK, hD⟩, hS.F ht⟩) hS.2.2 dX1_placeToStart_52
    · -- ¬ (hasS P h p1)
      subst hw
      refine lv_if_eq (tgt := 51) hx hb dX1_placeToStart_44 (by decide) (fun c_5 => ?_) (fun c_5 => ?_)
      · -- taken at 44: 0 = 0
        refine lv_iconst (v := 0) hx hb dX1_placeToStart_51 (by decide) ?_
        subst hQ9
        have e9 : fPS P h p0 p1 = 0 := by simp only [fPS, if_pos s_1, if_neg b_3]
        rw [e9]
        exact W.iret (v := 0) hx hb hr (fun t ht hW => ⟨⟨0, (), rfl, rfl, by rw [ht]; exact hP, va_K.moved hW.alike hK, hD⟩, hS.F ht⟩) hS.2.2 dX1_placeToStart_52
      · -- not taken at 44: ¬ 0 = 0
        exact absurd c_5 (by decide)
  by_cases s_6 : p0 = 1
  · -- case 1
    refine lv_tableIn (tgt := 53) hx hb dX1_placeToStart_1 (by rw [s_6]; decide) (by rw [s_6]; decide) (by rw [s_6]; rfl) (by decide) ?_
    refine lv_aload_n hx hb dX1_placeToStart_53 rfl (lv_at hl 0 rfl) ?_
    refine va_get (D := (dC, dI)) (ci := 2) (v := .ref oS) (C := RX1) (T := TX1) (N := 9) hx hb hts (by decide +kernel) hown hK hP 0 rfl rfl 1 (by decide) (hts (.fieldLink RX1 28 "RelativeFiles" "shelf" "LRelativeFiles$Shelf;") (by decide +kernel)) (fun _ h9 => h9) rfl dX1_placeToStart_54 ?_
    refine lv_iload_n hx hb dX1_placeToStart_57 rfl (lv_at hl 2 rfl) ?_
    have hPc := hP.sub (ws' := [(oS, .inr (1, [.ref oA, .ref oB, .int (nI h)])), (oA, .inl (cA, n, .inl P)), (oB, .inl (cB, n, .inr (.inl V)))]) [1, 2, 3] rfl
    have hDc := hD.sub (ws' := [(oS, .inr (1, [.ref oA, .ref oB, .int (nI h)])), (oA, .inl (cA, n, .inl P)), (oB, .inl (cB, n, .inr (.inl V)))]) [1, 2, 3] (by decide) rfl
    have hKc := hK.sub (tys' := [(cA, .int), (cB, .long)]) [0, 1] rfl
    have hFc := va_free (wc := [(oS, .inr (1, [.ref oA, .ref oB, .int (nI h)])), (oA, .inl (cA, n, .inl P)), (oB, .inl (cB, n, .inr (.inl V)))]) hD hS hA [1, 2, 3] rfl
    refine va_calli (va_runV (As := [.int p1]) (rest := []) ⟨hx, hb, hml, hown, hts⟩ (kX0_firstAbove l dC dI oS oA oB cA cB n h P V p1 s.heap.size hh hn) (cwV 1 hts gX1_placeToStart_X0_firstAbove rfl rfl rfl (by decide +kernel) ⟨Nat.le_of_ble_eq_true rfl, Nat.le_of_ble_eq_true rfl⟩) ⟨fun a U g mk q => by obtain ⟨q0, q1, qP, qK, qD⟩ := q; exact ⟨q0, q1, qP, va_K.moved (u := U) (U := U.calling g mk a) (Vm.Alike.refl U.vm) qK, qD⟩, va_recv hKc hPc (ci := 1) (q0 := 0) rfl rfl, fun U hU hW => ⟨rfl, by rw [hU], by rw [hU]; exact hPc, va_K.moved hW.alike hKc, hDc.weaken (fun _ _ _ _ => trivial)⟩⟩ rfl rfl hl.1 rfl (lv_room (Nat.le_of_ble_eq_true rfl)) dX1_placeToStart_58 ⟨Nat.le_of_ble_eq_true rfl, Nat.le_of_ble_eq_true rfl⟩) hS (fun q _ h => hFc q h) hFc (fun r_7 u t H1 locs ht hvm hw hB hz1 hk1 hS => ?_)
    obtain ⟨hP1, hK1, hD1⟩ := hB
    rw [ht] at hP1
    have hK1 := va_K.moved hvm.symm hK1
    try dsimp only at hw
    obtain ⟨hP, hD⟩ := va_join (wr := [(oF, .inr (2, [.int mo, .ref oS, .int th, .int om, .int sd, .int po, .int lr, .long lv, .int (nI d)]))]) (w1 := [(oS, .inr (1, [.ref oA, .ref oB, .int (nI h)])), (oA, .inl (cA, n, .inl P)), (oB, .inl (cB, n, .inr (.inl V)))]) hP hD [1, 2, 3] [0] rfl rfl (by decide) (by decide) hk1 hFc hP1 hD1
    generalize H1 = H at hP hS ⊢
    have hP : va_P (dC, dI) vwCl [(oF, .inr (2, [.int mo, .ref oS, .int th, .int om, .int sd, .int po, .int lr, .long lv, .int (nI d)])), (oS, .inr (1, [.ref oA, .ref oB, .int (nI h)])), (oA, .inl (cA, n, .inl P)), (oB, .inl (cB, n, .inr (.inl V)))] H := hP.sub [0, 1, 2, 3] rfl
    have hD : va_D A [(oF, .inr (2, [.int mo, .ref oS, .int th, .int om, .int sd, .int po, .int lr, .long lv, .int (nI d)])), (oS, .inr (1, [.ref oA, .ref oB, .int (nI h)])), (oA, .inl (cA, n, .inl P)), (oB, .inl (cB, n, .inr (.inl V)))] := hD.sub [0, 1, 2, 3] (by decide) rfl
    have hK : va_K (dC, dI) vwCl [(cA, .int), (cB, .long)] s := hK
    subst hw
    subst hQ9
    have e9 : fPS P h p0 p1 = fFA P h p1 := by simp only [fPS, if_neg s_1, if_pos s_6]
    rw [e9]
    exact W.iret (v := fFA P h p1) hx hb hr (fun t ht hW => ⟨⟨fFA P h p1, (), rfl, rfl, by rw [ht]; exact hP, va_K.moved hW.alike hK, hD⟩, hS.F ht⟩) hS.2.2 dX1_placeToStart_61
  by_cases s_8 : p0 = 2
  · -- case 2
    refine lv_tableIn (tgt := 62) hx hb dX1_placeToStart_1 (by rw [s_8]; decide) (by rw [s_8]; decide) (by rw [s_8]; rfl) (by decide) ?_
    refine lv_aload_n hx hb dX1_placeToStart_62 rfl (lv_at hl 0 rfl) ?_
    refine va_get (D := (dC, dI)) (ci := 2) (v := .ref oS) (C := RX1) (T := TX1) (N := 9) hx hb hts (by decide +kernel) hown hK hP 0 rfl rfl 1 (by decide) (hts (.fieldLink RX1 28 "RelativeFiles" "shelf" "LRelativeFiles$Shelf;") (by decide +kernel)) (fun _ h9 => h9) rfl dX1_placeToStart_63 ?_
    refine lv_iload_n hx hb dX1_placeToStart_66 rfl (lv_at hl 2 rfl) ?_
    have hPc := hP.sub (ws' := [(oS, .inr (1, [.ref oA, .ref oB, .int (nI h)])), (oA, .inl (cA, n, .inl P)), (oB, .inl (cB, n, .inr (.inl V)))]) [1, 2, 3] rfl
    have hDc := hD.sub (ws' := [(oS, .inr (1, [.ref oA, .ref oB, .int (nI h)])), (oA, .inl (cA, n, .inl P)), (oB, .inl (cB, n, .inr (.inl V)))]) [1, 2, 3] (by decide) rfl
    have hKc := hK.sub (tys' := [(cA, .int), (cB, .long)]) [0, 1] rfl
    have hFc := va_free (wc := [(oS, .inr (1, [.ref oA, .ref oB, .int (nI h)])), (oA, .inl (cA, n, .inl P)), (oB, .inl (cB, n, .inr (.inl V)))]) hD hS hA [1, 2, 3] rfl
    refine va_calli (va_runV (As := [.int p1]) (rest := []) ⟨hx, hb, hml, hown, hts⟩ (kX0_has l dC dI oS oA oB cA cB n h P V p1 s.heap.size hh hn) (cwV 1 hts gX1_placeToStart_X0_has rfl rfl rfl (by decide +kernel) ⟨Nat.le_of_ble_eq_true rfl, Nat.le_of_ble_eq_true rfl⟩) ⟨fun a U g mk q => by obtain ⟨q0, q1, qP, qK, qD⟩ := q; exact ⟨q0, q1, qP, va_K.moved (u := U) (U := U.calling g mk a) (Vm.Alike.refl U.vm) qK, qD⟩, va_recv hKc hPc (ci := 1) (q0 := 0) rfl rfl, fun U hU hW => ⟨rfl, by rw [hU], by rw [hU]; exact hPc, va_K.moved hW.alike hKc, hDc.weaken (fun _ _ _ _ => trivial)⟩⟩ rfl rfl hl.1 rfl (lv_room (Nat.le_of_ble_eq_true rfl)) dX1_placeToStart_67 ⟨Nat.le_of_ble_eq_true rfl, Nat.le_of_ble_eq_true rfl⟩) hS (fun q _ h => hFc q h) hFc (fun r_9 u t H1 locs ht hvm hw hB hz1 hk1 hS => ?_)
    obtain ⟨hP1, hK1, hD1⟩ := hB
    rw [ht] at hP1
    have hK1 := va_K.moved hvm.symm hK1
    try dsimp only at hw
    obtain ⟨hP, hD⟩ := va_join (wr := [(oF, .inr (2, [.int mo, .ref oS, .int th, .int om, .int sd, .int po, .int lr, .long lv, .int (nI d)]))]) (w1 := [(oS, .inr (1, [.ref oA, .ref oB, .int (nI h)])), (oA, .inl (cA, n, .inl P)), (oB, .inl (cB, n, .inr (.inl V)))]) hP hD [1, 2, 3] [0] rfl rfl (by decide) (by decide) hk1 hFc hP1 hD1
    generalize H1 = H at hP hS ⊢
    have hP : va_P (dC, dI) vwCl [(oF, .inr (2, [.int mo, .ref oS, .int th, .int om, .int sd, .int po, .int lr, .long lv, .int (nI d)])), (oS, .inr (1, [.ref oA, .ref oB, .int (nI h)])), (oA, .inl (cA, n, .inl P)), (oB, .inl (cB, n, .inr (.inl V)))] H := hP.sub [0, 1, 2, 3] rfl
    have hD : va_D A [(oF, .inr (2, [.int mo, .ref oS, .int th, .int om, .int sd, .int po, .int lr, .long lv, .int (nI d)])), (oS, .inr (1, [.ref oA, .ref oB, .int (nI h)])), (oA, .inl (cA, n, .inl P)), (oB, .inl (cB, n, .inr (.inl V)))] := hD.sub [0, 1, 2, 3] (by decide) rfl
    have hK : va_K (dC, dI) vwCl [(cA, .int), (cB, .long)] s := hK
    rcases hw with ⟨b_10, hw⟩ | ⟨b_10, hw⟩
    · -- hasS P h p1
      subst hw
      refine lv_if_eq (tgt := 77) hx hb dX1_placeToStart_70 (by decide) (fun c_11 => ?_) (fun c_11 => ?_)
      · -- taken at 70: 1 = 0
        exact absurd c_11 (by decide)
      · -- not taken at 70: ¬ 1 = 0
        refine lv_iload_n hx hb dX1_placeToStart_73 rfl (lv_at hl 2 rfl) ?_
        refine lv_goto (tgt := 85) hx hb dX1_placeToStart_74 (by decide) ?_
        subst hQ9
        have e9 : fPS P h p0 p1 = p1 := by simp only [fPS, if_neg s_1, if_neg s_6, if_pos s_8, if_pos b_10]
        rw [e9]
        exact W.iret (v := p1) hx hb hr (fun t ht hW => ⟨⟨p1, (), rfl, rfl, by rw [ht]; exact hP, va_K.moved hW.alike hK, hD⟩, hS.F ht⟩) hS.2.2 dX1_placeToStart_85
    · -- ¬ (hasS P h p1)
      subst hw
      refine lv_if_eq (tgt := 77) hx hb dX1_placeToStart_70 (by decide) (fun c_12 => ?_) (fun c_12 => ?_)
      · -- taken at 70: 0 = 0
        refine lv_aload_n hx hb dX1_placeToStart_77 rfl (lv_at hl 0 rfl) ?_
        refine va_get (D := (dC, dI)) (ci := 2) (v := .ref oS) (C := RX1) (T := TX1) (N := 9) hx hb hts (by decide +kernel) hown hK hP 0 rfl rfl 1 (by decide) (hts (.fieldLink RX1 28 "RelativeFiles" "shelf" "LRelativeFiles$Shelf;") (by decide +kernel)) (fun _ h9 => h9) rfl dX1_placeToStart_78 ?_
        refine lv_iload_n hx hb dX1_placeToStart_81 rfl (lv_at hl 2 rfl) ?_
        have hPc := hP.sub (ws' := [(oS, .inr (1, [.ref oA, .ref oB, .int (nI h)])), (oA, .inl (cA, n, .inl P)), (oB, .inl (cB, n, .inr (.inl V)))]) [1, 2, 3] rfl
        have hDc := hD.sub (ws' := [(oS, .inr (1, [.ref oA, .ref oB, .int (nI h)])), (oA, .inl (cA, n, .inl P)), (oB, .inl (cB, n, .inr (.inl V)))]) [1, 2, 3] (by decide) rfl
        have hKc := hK.sub (tys' := [(cA, .int), (cB, .long)]) [0, 1] rfl
        have hFc := va_free (wc := [(oS, .inr (1, [.ref oA, .ref oB, .int (nI h)])), (oA, .inl (cA, n, .inl P)), (oB, .inl (cB, n, .inr (.inl V)))]) hD hS hA [1, 2, 3] rfl
        refine va_calli (va_runV (As := [.int p1]) (rest := []) ⟨hx, hb, hml, hown, hts⟩ (kX0_firstAbove l dC dI oS oA oB cA cB n h P V p1 H.size hh hn) (cwV 1 hts gX1_placeToStart_X0_firstAbove rfl rfl rfl (by decide +kernel) ⟨Nat.le_of_ble_eq_true rfl, Nat.le_of_ble_eq_true rfl⟩) ⟨fun a U g mk q => by obtain ⟨q0, q1, qP, qK, qD⟩ := q; exact ⟨q0, q1, qP, va_K.moved (u := U) (U := U.calling g mk a) (Vm.Alike.refl U.vm) qK, qD⟩, va_recv hKc hPc (ci := 1) (q0 := 0) rfl rfl, fun U hU hW => ⟨rfl, by rw [hU], by rw [hU]; exact hPc, va_K.moved hW.alike hKc, hDc.weaken (fun _ _ _ _ => trivial)⟩⟩ rfl rfl hl.1 rfl (lv_room (Nat.le_of_ble_eq_true rfl)) dX1_placeToStart_82 ⟨Nat.le_of_ble_eq_true rfl, Nat.le_of_ble_eq_true rfl⟩) hS (fun q _ h => hFc q h) hFc (fun r_13 u t H1 locs ht hvm hw hB hz1 hk1 hS => ?_)
        obtain ⟨hP1, hK1, hD1⟩ := hB
        rw [ht] at hP1
        have hK1 := va_K.moved hvm.symm hK1
        try dsimp only at hw
        obtain ⟨hP, hD⟩ := va_join (wr := [(oF, .inr (2, [.int mo, .ref oS, .int th, .int om, .int sd, .int po, .int lr, .long lv, .int (nI d)]))]) (w1 := [(oS, .inr (1, [.ref oA, .ref oB, .int (nI h)])), (oA, .inl (cA, n, .inl P)), (oB, .inl (cB, n, .inr (.inl V)))]) hP hD [1, 2, 3] [0] rfl rfl (by decide) (by decide) hk1 hFc hP1 hD1
        generalize H1 = H at hP hS ⊢
        have hP : va_P (dC, dI) vwCl [(oF, .inr (2, [.int mo, .ref oS, .int th, .int om, .int sd, .int po, .int lr, .long lv, .int (nI d)])), (oS, .inr (1, [.ref oA, .ref oB, .int (nI h)])), (oA, .inl (cA, n, .inl P)), (oB, .inl (cB, n, .inr (.inl V)))] H := hP.sub [0, 1, 2, 3] rfl
        have hD : va_D A [(oF, .inr (2, [.int mo, .ref oS, .int th, .int om, .int sd, .int po, .int lr, .long lv, .int (nI d)])), (oS, .inr (1, [.ref oA, .ref oB, .int (nI h)])), (oA, .inl (cA, n, .inl P)), (oB, .inl (cB, n, .inr (.inl V)))] := hD.sub [0, 1, 2, 3] (by decide) rfl
        have hK : va_K (dC, dI) vwCl [(cA, .int), (cB, .long)] s := hK
        subst hw
        subst hQ9
        have e9 : fPS P h p0 p1 = fFA P h p1 := by simp only [fPS, if_neg s_1, if_neg s_6, if_pos s_8, if_neg b_10]
        rw [e9]
        exact W.iret (v := fFA P h p1) hx hb hr (fun t ht hW => ⟨⟨fFA P h p1, (), rfl, rfl, by rw [ht]; exact hP, va_K.moved hW.alike hK, hD⟩, hS.F ht⟩) hS.2.2 dX1_placeToStart_85
      · -- not taken at 70: ¬ 0 = 0
        exact absurd c_12 (by decide)
  by_cases s_14 : p0 = 3
  · -- case 3
    refine lv_tableIn (tgt := 86) hx hb dX1_placeToStart_1 (by rw [s_14]; decide) (by rw [s_14]; decide) (by rw [s_14]; rfl) (by decide) ?_
    refine lv_aload_n hx hb dX1_placeToStart_86 rfl (lv_at hl 0 rfl) ?_
    refine va_get (D := (dC, dI)) (ci := 2) (v := .ref oS) (C := RX1) (T := TX1) (N := 9) hx hb hts (by decide +kernel) hown hK hP 0 rfl rfl 1 (by decide) (hts (.fieldLink RX1 28 "RelativeFiles" "shelf" "LRelativeFiles$Shelf;") (by decide +kernel)) (fun _ h9 => h9) rfl dX1_placeToStart_87 ?_
    refine lv_iload_n hx hb dX1_placeToStart_90 rfl (lv_at hl 2 rfl) ?_
    have hPc := hP.sub (ws' := [(oS, .inr (1, [.ref oA, .ref oB, .int (nI h)])), (oA, .inl (cA, n, .inl P)), (oB, .inl (cB, n, .inr (.inl V)))]) [1, 2, 3] rfl
    have hDc := hD.sub (ws' := [(oS, .inr (1, [.ref oA, .ref oB, .int (nI h)])), (oA, .inl (cA, n, .inl P)), (oB, .inl (cB, n, .inr (.inl V)))]) [1, 2, 3] (by decide) rfl
    have hKc := hK.sub (tys' := [(cA, .int), (cB, .long)]) [0, 1] rfl
    have hFc := va_free (wc := [(oS, .inr (1, [.ref oA, .ref oB, .int (nI h)])), (oA, .inl (cA, n, .inl P)), (oB, .inl (cB, n, .inr (.inl V)))]) hD hS hA [1, 2, 3] rfl
    refine va_calli (va_runV (As := [.int p1]) (rest := []) ⟨hx, hb, hml, hown, hts⟩ (kX0_lastBelow l dC dI oS oA oB cA cB n h P V p1 s.heap.size hh hn) (cwV 1 hts gX1_placeToStart_X0_lastBelow rfl rfl rfl (by decide +kernel) ⟨Nat.le_of_ble_eq_true rfl, Nat.le_of_ble_eq_true rfl⟩) ⟨fun a U g mk q => by obtain ⟨q0, q1, qP, qK, qD⟩ := q; exact ⟨q0, q1, qP, va_K.moved (u := U) (U := U.calling g mk a) (Vm.Alike.refl U.vm) qK, qD⟩, va_recv hKc hPc (ci := 1) (q0 := 0) rfl rfl, fun U hU hW => ⟨rfl, by rw [hU], by rw [hU]; exact hPc, va_K.moved hW.alike hKc, hDc.weaken (fun _ _ _ _ => trivial)⟩⟩ rfl rfl hl.1 rfl (lv_room (Nat.le_of_ble_eq_true rfl)) dX1_placeToStart_91 ⟨Nat.le_of_ble_eq_true rfl, Nat.le_of_ble_eq_true rfl⟩) hS (fun q _ h => hFc q h) hFc (fun r_15 u t H1 locs ht hvm hw hB hz1 hk1 hS => ?_)
    obtain ⟨hP1, hK1, hD1⟩ := hB
    rw [ht] at hP1
    have hK1 := va_K.moved hvm.symm hK1
    try dsimp only at hw
    obtain ⟨hP, hD⟩ := va_join (wr := [(oF, .inr (2, [.int mo, .ref oS, .int th, .int om, .int sd, .int po, .int lr, .long lv, .int (nI d)]))]) (w1 := [(oS, .inr (1, [.ref oA, .ref oB, .int (nI h)])), (oA, .inl (cA, n, .inl P)), (oB, .inl (cB, n, .inr (.inl V)))]) hP hD [1, 2, 3] [0] rfl rfl (by decide) (by decide) hk1 hFc hP1 hD1
    generalize H1 = H at hP hS ⊢
    have hP : va_P (dC, dI) vwCl [(oF, .inr (2, [.int mo, .ref oS, .int th, .int om, .int sd, .int po, .int lr, .long lv, .int (nI d)])), (oS, .inr (1, [.ref oA, .ref oB, .int (nI h)])), (oA, .inl (cA, n, .inl P)), (oB, .inl (cB, n, .inr (.inl V)))] H := hP.sub [0, 1, 2, 3] rfl
    have hD : va_D A [(oF, .inr (2, [.int mo, .ref oS, .int th, .int om, .int sd, .int po, .int lr, .long lv, .int (nI d)])), (oS, .inr (1, [.ref oA, .ref oB, .int (nI h)])), (oA, .inl (cA, n, .inl P)), (oB, .inl (cB, n, .inr (.inl V)))] := hD.sub [0, 1, 2, 3] (by decide) rfl
    have hK : va_K (dC, dI) vwCl [(cA, .int), (cB, .long)] s := hK
    subst hw
    subst hQ9
    have e9 : fPS P h p0 p1 = fLB P h p1 := by simp only [fPS, if_neg s_1, if_neg s_6, if_neg s_8, if_pos s_14]
    rw [e9]
    exact W.iret (v := fLB P h p1) hx hb hr (fun t ht hW => ⟨⟨fLB P h p1, (), rfl, rfl, by rw [ht]; exact hP, va_K.moved hW.alike hK, hD⟩, hS.F ht⟩) hS.2.2 dX1_placeToStart_94
  by_cases s_16 : p0 = 4
  · -- case 4
    refine lv_tableIn (tgt := 95) hx hb dX1_placeToStart_1 (by rw [s_16]; decide) (by rw [s_16]; decide) (by rw [s_16]; rfl) (by decide) ?_
    refine lv_aload_n hx hb dX1_placeToStart_95 rfl (lv_at hl 0 rfl) ?_
    refine va_get (D := (dC, dI)) (ci := 2) (v := .ref oS) (C := RX1) (T := TX1) (N := 9) hx hb hts (by decide +kernel) hown hK hP 0 rfl rfl 1 (by decide) (hts (.fieldLink RX1 28 "RelativeFiles" "shelf" "LRelativeFiles$Shelf;") (by decide +kernel)) (fun _ h9 => h9) rfl dX1_placeToStart_96 ?_
    refine lv_iload_n hx hb dX1_placeToStart_99 rfl (lv_at hl 2 rfl) ?_
    have hPc := hP.sub (ws' := [(oS, .inr (1, [.ref oA, .ref oB, .int (nI h)])), (oA, .inl (cA, n, .inl P)), (oB, .inl (cB, n, .inr (.inl V)))]) [1, 2, 3] rfl
    have hDc := hD.sub (ws' := [(oS, .inr (1, [.ref oA, .ref oB, .int (nI h)])), (oA, .inl (cA, n, .inl P)), (oB, .inl (cB, n, .inr (.inl V)))]) [1, 2, 3] (by decide) rfl
    have hKc := hK.sub (tys' := [(cA, .int), (cB, .long)]) [0, 1] rfl
    have hFc := va_free (wc := [(oS, .inr (1, [.ref oA, .ref oB, .int (nI h)])), (oA, .inl (cA, n, .inl P)), (oB, .inl (cB, n, .inr (.inl V)))]) hD hS hA [1, 2, 3] rfl
    refine va_calli (va_runV (As := [.int p1]) (rest := []) ⟨hx, hb, hml, hown, hts⟩ (kX0_has l dC dI oS oA oB cA cB n h P V p1 s.heap.size hh hn) (cwV 1 hts gX1_placeToStart_X0_has rfl rfl rfl (by decide +kernel) ⟨Nat.le_of_ble_eq_true rfl, Nat.le_of_ble_eq_true rfl⟩) ⟨fun a U g mk q => by obtain ⟨q0, q1, qP, qK, qD⟩ := q; exact ⟨q0, q1, qP, va_K.moved (u := U) (U := U.calling g mk a) (Vm.Alike.refl U.vm) qK, qD⟩, va_recv hKc hPc (ci := 1) (q0 := 0) rfl rfl, fun U hU hW => ⟨rfl, by rw [hU], by rw [hU]; exact hPc, va_K.moved hW.alike hKc, hDc.weaken (fun _ _ _ _ => trivial)⟩⟩ rfl rfl hl.1 rfl (lv_room (Nat.le_of_ble_eq_true rfl)) dX1_placeToStart_100 ⟨Nat.le_of_ble_eq_true rfl, Nat.le_of_ble_eq_true rfl⟩) hS (fun q _ h => hFc q h) hFc (fun r_17 u t H1 locs ht hvm hw hB hz1 hk1 hS => ?_)
    obtain ⟨hP1, hK1, hD1⟩ := hB
    rw [ht] at hP1
    have hK1 := va_K.moved hvm.symm hK1
    try dsimp only at hw
    obtain ⟨hP, hD⟩ := va_join (wr := [(oF, .inr (2, [.int mo, .ref oS, .int th, .int om, .int sd, .int po, .int lr, .long lv, .int (nI d)]))]) (w1 := [(oS, .inr (1, [.ref oA, .ref oB, .int (nI h)])), (oA, .inl (cA, n, .inl P)), (oB, .inl (cB, n, .inr (.inl V)))]) hP hD [1, 2, 3] [0] rfl rfl (by decide) (by decide) hk1 hFc hP1 hD1
    generalize H1 = H at hP hS ⊢
    have hP : va_P (dC, dI) vwCl [(oF, .inr (2, [.int mo, .ref oS, .int th, .int om, .int sd, .int po, .int lr, .long lv, .int (nI d)])), (oS, .inr (1, [.ref oA, .ref oB, .int (nI h)])), (oA, .inl (cA, n, .inl P)), (oB, .inl (cB, n, .inr (.inl V)))] H := hP.sub [0, 1, 2, 3] rfl
    have hD : va_D A [(oF, .inr (2, [.int mo, .ref oS, .int th, .int om, .int sd, .int po, .int lr, .long lv, .int (nI d)])), (oS, .inr (1, [.ref oA, .ref oB, .int (nI h)])), (oA, .inl (cA, n, .inl P)), (oB, .inl (cB, n, .inr (.inl V)))] := hD.sub [0, 1, 2, 3] (by decide) rfl
    have hK : va_K (dC, dI) vwCl [(cA, .int), (cB, .long)] s := hK
    rcases hw with ⟨b_18, hw⟩ | ⟨b_18, hw⟩
    · -- hasS P h p1
      subst hw
      refine lv_if_eq (tgt := 110) hx hb dX1_placeToStart_103 (by decide) (fun c_19 => ?_) (fun c_19 => ?_)
      · -- taken at 103: 1 = 0
        exact absurd c_19 (by decide)
      · -- not taken at 103: ¬ 1 = 0
        refine lv_iload_n hx hb dX1_placeToStart_106 rfl (lv_at hl 2 rfl) ?_
        refine lv_goto (tgt := 118) hx hb dX1_placeToStart_107 (by decide) ?_
        subst hQ9
        have e9 : fPS P h p0 p1 = p1 := by simp only [fPS, if_neg s_1, if_neg s_6, if_neg s_8, if_neg s_14, if_pos s_16, if_pos b_18]
        rw [e9]
        exact W.iret (v := p1) hx hb hr (fun t ht hW => ⟨⟨p1, (), rfl, rfl, by rw [ht]; exact hP, va_K.moved hW.alike hK, hD⟩, hS.F ht⟩) hS.2.2 dX1_placeToStart_118
    · -- ¬ (hasS P h p1)
      subst hw
      refine lv_if_eq (tgt := 110) hx hb dX1_placeToStart_103 (by decide) (fun c_20 => ?_) (fun c_20 => ?_)
      · -- taken at 103: 0 = 0
        refine lv_aload_n hx hb dX1_placeToStart_110 rfl (lv_at hl 0 rfl) ?_
        refine va_get (D := (dC, dI)) (ci := 2) (v := .ref oS) (C := RX1) (T := TX1) (N := 9) hx hb hts (by decide +kernel) hown hK hP 0 rfl rfl 1 (by decide) (hts (.fieldLink RX1 28 "RelativeFiles" "shelf" "LRelativeFiles$Shelf;") (by decide +kernel)) (fun _ h9 => h9) rfl dX1_placeToStart_111 ?_
        refine lv_iload_n hx hb dX1_placeToStart_114 rfl (lv_at hl 2 rfl) ?_
        have hPc := hP.sub (ws' := [(oS, .inr (1, [.ref oA, .ref oB, .int (nI h)])), (oA, .inl (cA, n, .inl P)), (oB, .inl (cB, n, .inr (.inl V)))]) [1, 2, 3] rfl
        have hDc := hD.sub (ws' := [(oS, .inr (1, [.ref oA, .ref oB, .int (nI h)])), (oA, .inl (cA, n, .inl P)), (oB, .inl (cB, n, .inr (.inl V)))]) [1, 2, 3] (by decide) rfl
        have hKc := hK.sub (tys' := [(cA, .int), (cB, .long)]) [0, 1] rfl
        have hFc := va_free (wc := [(oS, .inr (1, [.ref oA, .ref oB, .int (nI h)])), (oA, .inl (cA, n, .inl P)), (oB, .inl (cB, n, .inr (.inl V)))]) hD hS hA [1, 2, 3] rfl
        refine va_calli (va_runV (As := [.int p1]) (rest := []) ⟨hx, hb, hml, hown, hts⟩ (kX0_lastBelow l dC dI oS oA oB cA cB n h P V p1 H.size hh hn) (cwV 1 hts gX1_placeToStart_X0_lastBelow rfl rfl rfl (by decide +kernel) ⟨Nat.le_of_ble_eq_true rfl, Nat.le_of_ble_eq_true rfl⟩) ⟨fun a U g mk q => by obtain ⟨q0, q1, qP, qK, qD⟩ := q; exact ⟨q0, q1, qP, va_K.moved (u := U) (U := U.calling g mk a) (Vm.Alike.refl U.vm) qK, qD⟩, va_recv hKc hPc (ci := 1) (q0 := 0) rfl rfl, fun U hU hW => ⟨rfl, by rw [hU], by rw [hU]; exact hPc, va_K.moved hW.alike hKc, hDc.weaken (fun _ _ _ _ => trivial)⟩⟩ rfl rfl hl.1 rfl (lv_room (Nat.le_of_ble_eq_true rfl)) dX1_placeToStart_115 ⟨Nat.le_of_ble_eq_true rfl, Nat.le_of_ble_eq_true rfl⟩) hS (fun q _ h => hFc q h) hFc (fun r_21 u t H1 locs ht hvm hw hB hz1 hk1 hS => ?_)
        obtain ⟨hP1, hK1, hD1⟩ := hB
        rw [ht] at hP1
        have hK1 := va_K.moved hvm.symm hK1
        try dsimp only at hw
        obtain ⟨hP, hD⟩ := va_join (wr := [(oF, .inr (2, [.int mo, .ref oS, .int th, .int om, .int sd, .int po, .int lr, .long lv, .int (nI d)]))]) (w1 := [(oS, .inr (1, [.ref oA, .ref oB, .int (nI h)])), (oA, .inl (cA, n, .inl P)), (oB, .inl (cB, n, .inr (.inl V)))]) hP hD [1, 2, 3] [0] rfl rfl (by decide) (by decide) hk1 hFc hP1 hD1
        generalize H1 = H at hP hS ⊢
        have hP : va_P (dC, dI) vwCl [(oF, .inr (2, [.int mo, .ref oS, .int th, .int om, .int sd, .int po, .int lr, .long lv, .int (nI d)])), (oS, .inr (1, [.ref oA, .ref oB, .int (nI h)])), (oA, .inl (cA, n, .inl P)), (oB, .inl (cB, n, .inr (.inl V)))] H := hP.sub [0, 1, 2, 3] rfl
        have hD : va_D A [(oF, .inr (2, [.int mo, .ref oS, .int th, .int om, .int sd, .int po, .int lr, .long lv, .int (nI d)])), (oS, .inr (1, [.ref oA, .ref oB, .int (nI h)])), (oA, .inl (cA, n, .inl P)), (oB, .inl (cB, n, .inr (.inl V)))] := hD.sub [0, 1, 2, 3] (by decide) rfl
        have hK : va_K (dC, dI) vwCl [(cA, .int), (cB, .long)] s := hK
        subst hw
        subst hQ9
        have e9 : fPS P h p0 p1 = fLB P h p1 := by simp only [fPS, if_neg s_1, if_neg s_6, if_neg s_8, if_neg s_14, if_pos s_16, if_neg b_18]
        rw [e9]
        exact W.iret (v := fLB P h p1) hx hb hr (fun t ht hW => ⟨⟨fLB P h p1, (), rfl, rfl, by rw [ht]; exact hP, va_K.moved hW.alike hK, hD⟩, hS.F ht⟩) hS.2.2 dX1_placeToStart_118
      · -- not taken at 103: ¬ 0 = 0
        exact absurd c_20 (by decide)
  refine lv_tableOut (tgt := 119) hx hb dX1_placeToStart_1 (sw_out4 s_1 s_6 s_8 s_14 s_16) (by decide) ?_
  refine lv_iconst (v := 0) hx hb dX1_placeToStart_119 (by decide) ?_
  subst hQ9
  have e9 : fPS P h p0 p1 = 0 := by simp only [fPS, if_neg s_1, if_neg s_6, if_neg s_8, if_neg s_14, if_neg s_16]
  rw [e9]
  exact W.iret (v := 0) hx hb hr (fun t ht hW => ⟨⟨0, (), rfl, rfl, by rw [ht]; exact hP, va_K.moved hW.alike hK, hD⟩, hS.F ht⟩) hS.2.2 dX1_placeToStart_120

set_option maxHeartbeats 1000000 in
set_option maxRecDepth 100000 in
theorem kX1_placeFromPosition (l : Launch) (dC : Nat → ClassId) (dI : Nat → Nat → Nat) (oF oS oA oB : Nat) (cA cB : ClassId) (n h d : Nat) (mo th om sd po lr : Int32) (lv : Int64) (P : Nat → Int32) (V : Nat → Int64) (p0 : Int32) (sz : Nat) (hh : h ≤ n) (hn : n ≤ 512) : Met l yX1_placeFromPosition wsX1_placeFromPosition ({ frames := 2, cells := 0, slots := 0, locals := 44 }) (va_Pc [.ref oF, .int p0] (fun U => U.heap.size = sz ∧ va_P (dC, dI) vwCl [(oF, .inr (2, [.int mo, .ref oS, .int th, .int om, .int sd, .int po, .int lr, .long lv, .int (nI d)])), (oS, .inr (1, [.ref oA, .ref oB, .int (nI h)])), (oA, .inl (cA, n, .inl P)), (oB, .inl (cB, n, .inr (.inl V)))] U.heap ∧ va_K (dC, dI) vwCl [(cA, .int), (cB, .long)] U ∧ va_D (fun _ => True) [(oF, .inr (2, [.int mo, .ref oS, .int th, .int om, .int sd, .int po, .int lr, .long lv, .int (nI d)])), (oS, .inr (1, [.ref oA, .ref oB, .int (nI h)])), (oA, .inl (cA, n, .inl P)), (oB, .inl (cB, n, .inr (.inl V)))])) (va_Qi (fun (r : Int32) (_ : Unit) => r = fPF sd po P h p0) (fun (_ : Unit) (t : State) => va_P (dC, dI) vwCl [(oF, .inr (2, [.int mo, .ref oS, .int th, .int om, .int sd, .int po, .int lr, .long lv, .int (nI d)])), (oS, .inr (1, [.ref oA, .ref oB, .int (nI h)])), (oA, .inl (cA, n, .inl P)), (oB, .inl (cB, n, .inr (.inl V)))] t.heap ∧ va_K (dC, dI) vwCl [(cA, .int), (cB, .long)] t ∧ va_D (va_A [(oF, .inr (2, [.int mo, .ref oS, .int th, .int om, .int sd, .int po, .int lr, .long lv, .int (nI d)])), (oS, .inr (1, [.ref oA, .ref oB, .int (nI h)])), (oA, .inl (cA, n, .inl P)), (oB, .inl (cB, n, .inr (.inl V)))] sz) [(oF, .inr (2, [.int mo, .ref oS, .int th, .int om, .int sd, .int po, .int lr, .long lv, .int (nI d)])), (oS, .inr (1, [.ref oA, .ref oB, .int (nI h)])), (oA, .inl (cA, n, .inl P)), (oB, .inl (cB, n, .inr (.inl V)))]) (va_A [(oF, .inr (2, [.int mo, .ref oS, .int th, .int om, .int sd, .int po, .int lr, .long lv, .int (nI d)])), (oS, .inr (1, [.ref oA, .ref oB, .int (nI h)])), (oA, .inl (cA, n, .inl P)), (oB, .inl (cB, n, .inr (.inl V)))] sz)) 0 0 (va_A [(oF, .inr (2, [.int mo, .ref oS, .int th, .int om, .int sd, .int po, .int lr, .long lv, .int (nI d)])), (oS, .inr (1, [.ref oA, .ref oB, .int (nI h)])), (oA, .inl (cA, n, .inl P)), (oB, .inl (cB, n, .inr (.inl V)))] sz) := by
  refine Met.ofW (cc := cX1_placeFromPosition) (maxL := 2) (ret := (some .int)) (by decide) rfl ?_
  intro p e s m args below meth c s₁ B hml hv
  obtain ⟨rfl, hsz, hP, hK, hD0⟩ := hv
  have hx := B.exec
  have hb := B.bytes
  have hr := B.returns
  have hts := atoms_spec (ws := wsX1_placeFromPosition) B.pre
  have hown : s.vm.findClass RX1 = some m.cls := findClass_of_methodNamed B.named
  have hlocks := B.notSynchronized
  subst hsz
  have hD := hD0.self (sz := s.heap.size)
  generalize hAe : va_A [(oF, .inr (2, [.int mo, .ref oS, .int th, .int om, .int sd, .int po, .int lr, .long lv, .int (nI d)])), (oS, .inr (1, [.ref oA, .ref oB, .int (nI h)])), (oA, .inl (cA, n, .inl P)), (oB, .inl (cB, n, .inr (.inl V)))] s.heap.size = A at hD ⊢
  have hA : ∀ q : Nat, s.heap.size ≤ q → A q := fun q h => by rw [← hAe]; exact Or.inr h
  have hS : va_S A s.heap s.heap [] := va_S.rf
  have hP : va_P (dC, dI) vwCl [(oF, .inr (2, [.int mo, .ref oS, .int th, .int om, .int sd, .int po, .int lr, .long lv, .int (nI d)])), (oS, .inr (1, [.ref oA, .ref oB, .int (nI h)])), (oA, .inl (cA, n, .inl P)), (oB, .inl (cB, n, .inr (.inl V)))] s.heap := hP
  have hl := lv_entry ([.ref oF, .int p0]) (n := 2) (Nat.le_of_ble_eq_true rfl)
  rw [lg_entry_eq]
  generalize (lg_sl ([.ref oF, .int p0]) ++ List.replicate (2 - (lg_sl ([.ref oF, .int p0])).length) Slot.unset).toArray = ls at hl ⊢
  have hl : lv_has ls 2 [(0, .ref oF), (1, .int p0)] := hl
  refine W_name (fun Q hQ9 => ?_)
  refine lv_aload_n hx hb dX1_placeFromPosition_0 rfl (lv_at hl 0 rfl) ?_
  refine va_get (D := (dC, dI)) (ci := 2) (v := .int sd) (C := RX1) (T := TX1) (N := 9) hx hb hts (by decide +kernel) hown hK hP 0 rfl rfl 4 (by decide) (hts (.fieldLink RX1 39 "RelativeFiles" "standing" "I") (by decide +kernel)) (fun _ h9 => h9) rfl dX1_placeFromPosition_1 ?_
  refine lv_iconst (v := 1) hx hb dX1_placeFromPosition_4 (by decide) ?_
  refine lv_icmp_ne (tgt := 27) hx hb dX1_placeFromPosition_5 (by decide) (fun c_1 => ?_) (fun c_1 => ?_)
  · -- taken at 5: ¬ sd = 1
    refine lv_iload_n hx hb dX1_placeFromPosition_27 rfl (lv_at hl 1 rfl) ?_
    refine lv_if_eq (tgt := 45) hx hb dX1_placeFromPosition_28 (by decide) (fun c_2 => ?_) (fun c_2 => ?_)
    · -- taken at 28: p0 = 0
      refine lv_aload_n hx hb dX1_placeFromPosition_45 rfl (lv_at hl 0 rfl) ?_
      refine va_get (D := (dC, dI)) (ci := 2) (v := .ref oS) (C := RX1) (T := TX1) (N := 9) hx hb hts (by decide +kernel) hown hK hP 0 rfl rfl 1 (by decide) (hts (.fieldLink RX1 28 "RelativeFiles" "shelf" "LRelativeFiles$Shelf;") (by decide +kernel)) (fun _ h9 => h9) rfl dX1_placeFromPosition_46 ?_
      refine lv_aload_n hx hb dX1_placeFromPosition_49 rfl (lv_at hl 0 rfl) ?_
      refine va_get (D := (dC, dI)) (ci := 2) (v := .int po) (C := RX1) (T := TX1) (N := 9) hx hb hts (by decide +kernel) hown hK hP 0 rfl rfl 5 (by decide) (hts (.fieldLink RX1 42 "RelativeFiles" "position" "I") (by decide +kernel)) (fun _ h9 => h9) rfl dX1_placeFromPosition_50 ?_
      have hPc := hP.sub (ws' := [(oS, .inr (1, [.ref oA, .ref oB, .int (nI h)])), (oA, .inl (cA, n, .inl P)), (oB, .inl (cB, n, .inr (.inl V)))]) [1, 2, 3] rfl
      have hDc := hD.sub (ws' := [(oS, .inr (1, [.ref oA, .ref oB, .int (nI h)])), (oA, .inl (cA, n, .inl P)), (oB, .inl (cB, n, .inr (.inl V)))]) [1, 2, 3] (by decide) rfl
      have hKc := hK.sub (tys' := [(cA, .int), (cB, .long)]) [0, 1] rfl
      have hFc := va_free (wc := [(oS, .inr (1, [.ref oA, .ref oB, .int (nI h)])), (oA, .inl (cA, n, .inl P)), (oB, .inl (cB, n, .inr (.inl V)))]) hD hS hA [1, 2, 3] rfl
      refine va_calli (va_runV (As := [.int po]) (rest := []) ⟨hx, hb, hml, hown, hts⟩ (kX0_firstAbove l dC dI oS oA oB cA cB n h P V po s.heap.size hh hn) (cwV 1 hts gX1_placeFromPosition_X0_firstAbove rfl rfl rfl (by decide +kernel) ⟨Nat.le_of_ble_eq_true rfl, Nat.le_of_ble_eq_true rfl⟩) ⟨fun a U g mk q => by obtain ⟨q0, q1, qP, qK, qD⟩ := q; exact ⟨q0, q1, qP, va_K.moved (u := U) (U := U.calling g mk a) (Vm.Alike.refl U.vm) qK, qD⟩, va_recv hKc hPc (ci := 1) (q0 := 0) rfl rfl, fun U hU hW => ⟨rfl, by rw [hU], by rw [hU]; exact hPc, va_K.moved hW.alike hKc, hDc.weaken (fun _ _ _ _ => trivial)⟩⟩ rfl rfl hl.1 rfl (lv_room (Nat.le_of_ble_eq_true rfl)) dX1_placeFromPosition_53 ⟨Nat.le_of_ble_eq_true rfl, Nat.le_of_ble_eq_true rfl⟩) hS (fun q _ h => hFc q h) hFc (fun r_3 u t H1 locs ht hvm hw hB hz1 hk1 hS => ?_)
      obtain ⟨hP1, hK1, hD1⟩ := hB
      rw [ht] at hP1
      have hK1 := va_K.moved hvm.symm hK1
      try dsimp only at hw
      obtain ⟨hP, hD⟩ := va_join (wr := [(oF, .inr (2, [.int mo, .ref oS, .int th, .int om, .int sd, .int po, .int lr, .long lv, .int (nI d)]))]) (w1 := [(oS, .inr (1, [.ref oA, .ref oB, .int (nI h)])), (oA, .inl (cA, n, .inl P)), (oB, .inl (cB, n, .inr (.inl V)))]) hP hD [1, 2, 3] [0] rfl rfl (by decide) (by decide) hk1 hFc hP1 hD1
      generalize H1 = H at hP hS ⊢
      have hP : va_P (dC, dI) vwCl [(oF, .inr (2, [.int mo, .ref oS, .int th, .int om, .int sd, .int po, .int lr, .long lv, .int (nI d)])), (oS, .inr (1, [.ref oA, .ref oB, .int (nI h)])), (oA, .inl (cA, n, .inl P)), (oB, .inl (cB, n, .inr (.inl V)))] H := hP.sub [0, 1, 2, 3] rfl
      have hD : va_D A [(oF, .inr (2, [.int mo, .ref oS, .int th, .int om, .int sd, .int po, .int lr, .long lv, .int (nI d)])), (oS, .inr (1, [.ref oA, .ref oB, .int (nI h)])), (oA, .inl (cA, n, .inl P)), (oB, .inl (cB, n, .inr (.inl V)))] := hD.sub [0, 1, 2, 3] (by decide) rfl
      have hK : va_K (dC, dI) vwCl [(cA, .int), (cB, .long)] s := hK
      subst hw
      subst hQ9
      have e9 : fPF sd po P h p0 = fFA P h po := by simp only [fPF, if_neg c_1, if_pos c_2]
      rw [e9]
      exact W.iret (v := fFA P h po) hx hb hr (fun t ht hW => ⟨⟨fFA P h po, (), rfl, rfl, by rw [ht]; exact hP, va_K.moved hW.alike hK, hD⟩, hS.F ht⟩) hS.2.2 dX1_placeFromPosition_56
    · -- not taken at 28: ¬ p0 = 0
      refine lv_aload_n hx hb dX1_placeFromPosition_31 rfl (lv_at hl 0 rfl) ?_
      refine va_get (D := (dC, dI)) (ci := 2) (v := .ref oS) (C := RX1) (T := TX1) (N := 9) hx hb hts (by decide +kernel) hown hK hP 0 rfl rfl 1 (by decide) (hts (.fieldLink RX1 28 "RelativeFiles" "shelf" "LRelativeFiles$Shelf;") (by decide +kernel)) (fun _ h9 => h9) rfl dX1_placeFromPosition_32 ?_
      refine lv_aload_n hx hb dX1_placeFromPosition_35 rfl (lv_at hl 0 rfl) ?_
      refine va_get (D := (dC, dI)) (ci := 2) (v := .int po) (C := RX1) (T := TX1) (N := 9) hx hb hts (by decide +kernel) hown hK hP 0 rfl rfl 5 (by decide) (hts (.fieldLink RX1 42 "RelativeFiles" "position" "I") (by decide +kernel)) (fun _ h9 => h9) rfl dX1_placeFromPosition_36 ?_
      have hPc := hP.sub (ws' := [(oS, .inr (1, [.ref oA, .ref oB, .int (nI h)])), (oA, .inl (cA, n, .inl P)), (oB, .inl (cB, n, .inr (.inl V)))]) [1, 2, 3] rfl
      have hDc := hD.sub (ws' := [(oS, .inr (1, [.ref oA, .ref oB, .int (nI h)])), (oA, .inl (cA, n, .inl P)), (oB, .inl (cB, n, .inr (.inl V)))]) [1, 2, 3] (by decide) rfl
      have hKc := hK.sub (tys' := [(cA, .int), (cB, .long)]) [0, 1] rfl
      have hFc := va_free (wc := [(oS, .inr (1, [.ref oA, .ref oB, .int (nI h)])), (oA, .inl (cA, n, .inl P)), (oB, .inl (cB, n, .inr (.inl V)))]) hD hS hA [1, 2, 3] rfl
      refine va_calli (va_runV (As := [.int po]) (rest := []) ⟨hx, hb, hml, hown, hts⟩ (kX0_lastBelow l dC dI oS oA oB cA cB n h P V po s.heap.size hh hn) (cwV 1 hts gX1_placeFromPosition_X0_lastBelow rfl rfl rfl (by decide +kernel) ⟨Nat.le_of_ble_eq_true rfl, Nat.le_of_ble_eq_true rfl⟩) ⟨fun a U g mk q => by obtain ⟨q0, q1, qP, qK, qD⟩ := q; exact ⟨q0, q1, qP, va_K.moved (u := U) (U := U.calling g mk a) (Vm.Alike.refl U.vm) qK, qD⟩, va_recv hKc hPc (ci := 1) (q0 := 0) rfl rfl, fun U hU hW => ⟨rfl, by rw [hU], by rw [hU]; exact hPc, va_K.moved hW.alike hKc, hDc.weaken (fun _ _ _ _ => trivial)⟩⟩ rfl rfl hl.1 rfl (lv_room (Nat.le_of_ble_eq_true rfl)) dX1_placeFromPosition_39 ⟨Nat.le_of_ble_eq_true rfl, Nat.le_of_ble_eq_true rfl⟩) hS (fun q _ h => hFc q h) hFc (fun r_4 u t H1 locs ht hvm hw hB hz1 hk1 hS => ?_)
      obtain ⟨hP1, hK1, hD1⟩ := hB
      rw [ht] at hP1
      have hK1 := va_K.moved hvm.symm hK1
      try dsimp only at hw
      obtain ⟨hP, hD⟩ := va_join (wr := [(oF, .inr (2, [.int mo, .ref oS, .int th, .int om, .int sd, .int po, .int lr, .long lv, .int (nI d)]))]) (w1 := [(oS, .inr (1, [.ref oA, .ref oB, .int (nI h)])), (oA, .inl (cA, n, .inl P)), (oB, .inl (cB, n, .inr (.inl V)))]) hP hD [1, 2, 3] [0] rfl rfl (by decide) (by decide) hk1 hFc hP1 hD1
      generalize H1 = H at hP hS ⊢
      have hP : va_P (dC, dI) vwCl [(oF, .inr (2, [.int mo, .ref oS, .int th, .int om, .int sd, .int po, .int lr, .long lv, .int (nI d)])), (oS, .inr (1, [.ref oA, .ref oB, .int (nI h)])), (oA, .inl (cA, n, .inl P)), (oB, .inl (cB, n, .inr (.inl V)))] H := hP.sub [0, 1, 2, 3] rfl
      have hD : va_D A [(oF, .inr (2, [.int mo, .ref oS, .int th, .int om, .int sd, .int po, .int lr, .long lv, .int (nI d)])), (oS, .inr (1, [.ref oA, .ref oB, .int (nI h)])), (oA, .inl (cA, n, .inl P)), (oB, .inl (cB, n, .inr (.inl V)))] := hD.sub [0, 1, 2, 3] (by decide) rfl
      have hK : va_K (dC, dI) vwCl [(cA, .int), (cB, .long)] s := hK
      subst hw
      refine lv_goto (tgt := 56) hx hb dX1_placeFromPosition_42 (by decide) ?_
      subst hQ9
      have e9 : fPF sd po P h p0 = fLB P h po := by simp only [fPF, if_neg c_1, if_neg c_2]
      rw [e9]
      exact W.iret (v := fLB P h po) hx hb hr (fun t ht hW => ⟨⟨fLB P h po, (), rfl, rfl, by rw [ht]; exact hP, va_K.moved hW.alike hK, hD⟩, hS.F ht⟩) hS.2.2 dX1_placeFromPosition_56
  · -- not taken at 5: sd = 1
    refine lv_aload_n hx hb dX1_placeFromPosition_8 rfl (lv_at hl 0 rfl) ?_
    refine va_get (D := (dC, dI)) (ci := 2) (v := .ref oS) (C := RX1) (T := TX1) (N := 9) hx hb hts (by decide +kernel) hown hK hP 0 rfl rfl 1 (by decide) (hts (.fieldLink RX1 28 "RelativeFiles" "shelf" "LRelativeFiles$Shelf;") (by decide +kernel)) (fun _ h9 => h9) rfl dX1_placeFromPosition_9 ?_
    refine lv_aload_n hx hb dX1_placeFromPosition_12 rfl (lv_at hl 0 rfl) ?_
    refine va_get (D := (dC, dI)) (ci := 2) (v := .int po) (C := RX1) (T := TX1) (N := 9) hx hb hts (by decide +kernel) hown hK hP 0 rfl rfl 5 (by decide) (hts (.fieldLink RX1 42 "RelativeFiles" "position" "I") (by decide +kernel)) (fun _ h9 => h9) rfl dX1_placeFromPosition_13 ?_
    have hPc := hP.sub (ws' := [(oS, .inr (1, [.ref oA, .ref oB, .int (nI h)])), (oA, .inl (cA, n, .inl P)), (oB, .inl (cB, n, .inr (.inl V)))]) [1, 2, 3] rfl
    have hDc := hD.sub (ws' := [(oS, .inr (1, [.ref oA, .ref oB, .int (nI h)])), (oA, .inl (cA, n, .inl P)), (oB, .inl (cB, n, .inr (.inl V)))]) [1, 2, 3] (by decide) rfl
    have hKc := hK.sub (tys' := [(cA, .int), (cB, .long)]) [0, 1] rfl
    have hFc := va_free (wc := [(oS, .inr (1, [.ref oA, .ref oB, .int (nI h)])), (oA, .inl (cA, n, .inl P)), (oB, .inl (cB, n, .inr (.inl V)))]) hD hS hA [1, 2, 3] rfl
    refine va_calli (va_runV (As := [.int po]) (rest := []) ⟨hx, hb, hml, hown, hts⟩ (kX0_has l dC dI oS oA oB cA cB n h P V po s.heap.size hh hn) (cwV 1 hts gX1_placeFromPosition_X0_has rfl rfl rfl (by decide +kernel) ⟨Nat.le_of_ble_eq_true rfl, Nat.le_of_ble_eq_true rfl⟩) ⟨fun a U g mk q => by obtain ⟨q0, q1, qP, qK, qD⟩ := q; exact ⟨q0, q1, qP, va_K.moved (u := U) (U := U.calling g mk a) (Vm.Alike.refl U.vm) qK, qD⟩, va_recv hKc hPc (ci := 1) (q0 := 0) rfl rfl, fun U hU hW => ⟨rfl, by rw [hU], by rw [hU]; exact hPc, va_K.moved hW.alike hKc, hDc.weaken (fun _ _ _ _ => trivial)⟩⟩ rfl rfl hl.1 rfl (lv_room (Nat.le_of_ble_eq_true rfl)) dX1_placeFromPosition_16 ⟨Nat.le_of_ble_eq_true rfl, Nat.le_of_ble_eq_true rfl⟩) hS (fun q _ h => hFc q h) hFc (fun r_5 u t H1 locs ht hvm hw hB hz1 hk1 hS => ?_)
    obtain ⟨hP1, hK1, hD1⟩ := hB
    rw [ht] at hP1
    have hK1 := va_K.moved hvm.symm hK1
    try dsimp only at hw
    obtain ⟨hP, hD⟩ := va_join (wr := [(oF, .inr (2, [.int mo, .ref oS, .int th, .int om, .int sd, .int po, .int lr, .long lv, .int (nI d)]))]) (w1 := [(oS, .inr (1, [.ref oA, .ref oB, .int (nI h)])), (oA, .inl (cA, n, .inl P)), (oB, .inl (cB, n, .inr (.inl V)))]) hP hD [1, 2, 3] [0] rfl rfl (by decide) (by decide) hk1 hFc hP1 hD1
    generalize H1 = H at hP hS ⊢
    have hP : va_P (dC, dI) vwCl [(oF, .inr (2, [.int mo, .ref oS, .int th, .int om, .int sd, .int po, .int lr, .long lv, .int (nI d)])), (oS, .inr (1, [.ref oA, .ref oB, .int (nI h)])), (oA, .inl (cA, n, .inl P)), (oB, .inl (cB, n, .inr (.inl V)))] H := hP.sub [0, 1, 2, 3] rfl
    have hD : va_D A [(oF, .inr (2, [.int mo, .ref oS, .int th, .int om, .int sd, .int po, .int lr, .long lv, .int (nI d)])), (oS, .inr (1, [.ref oA, .ref oB, .int (nI h)])), (oA, .inl (cA, n, .inl P)), (oB, .inl (cB, n, .inr (.inl V)))] := hD.sub [0, 1, 2, 3] (by decide) rfl
    have hK : va_K (dC, dI) vwCl [(cA, .int), (cB, .long)] s := hK
    rcases hw with ⟨b_6, hw⟩ | ⟨b_6, hw⟩
    · -- hasS P h po
      subst hw
      refine lv_if_eq (tgt := 27) hx hb dX1_placeFromPosition_19 (by decide) (fun c_7 => ?_) (fun c_7 => ?_)
      · -- taken at 19: 1 = 0
        exact absurd c_7 (by decide)
      · -- not taken at 19: ¬ 1 = 0
        refine lv_aload_n hx hb dX1_placeFromPosition_22 rfl (lv_at hl 0 rfl) ?_
        refine va_get (D := (dC, dI)) (ci := 2) (v := .int po) (C := RX1) (T := TX1) (N := 9) hx hb hts (by decide +kernel) hown hK hP 0 rfl rfl 5 (by decide) (hts (.fieldLink RX1 42 "RelativeFiles" "position" "I") (by decide +kernel)) (fun _ h9 => h9) rfl dX1_placeFromPosition_23 ?_
        subst hQ9
        have e9 : fPF sd po P h p0 = po := by simp only [fPF, if_pos c_1, if_pos b_6]
        rw [e9]
        exact W.iret (v := po) hx hb hr (fun t ht hW => ⟨⟨po, (), rfl, rfl, by rw [ht]; exact hP, va_K.moved hW.alike hK, hD⟩, hS.F ht⟩) hS.2.2 dX1_placeFromPosition_26
    · -- ¬ (hasS P h po)
      subst hw
      refine lv_if_eq (tgt := 27) hx hb dX1_placeFromPosition_19 (by decide) (fun c_8 => ?_) (fun c_8 => ?_)
      · -- taken at 19: 0 = 0
        refine lv_iload_n hx hb dX1_placeFromPosition_27 rfl (lv_at hl 1 rfl) ?_
        refine lv_if_eq (tgt := 45) hx hb dX1_placeFromPosition_28 (by decide) (fun c_9 => ?_) (fun c_9 => ?_)
        · -- taken at 28: p0 = 0
          refine lv_aload_n hx hb dX1_placeFromPosition_45 rfl (lv_at hl 0 rfl) ?_
          refine va_get (D := (dC, dI)) (ci := 2) (v := .ref oS) (C := RX1) (T := TX1) (N := 9) hx hb hts (by decide +kernel) hown hK hP 0 rfl rfl 1 (by decide) (hts (.fieldLink RX1 28 "RelativeFiles" "shelf" "LRelativeFiles$Shelf;") (by decide +kernel)) (fun _ h9 => h9) rfl dX1_placeFromPosition_46 ?_
          refine lv_aload_n hx hb dX1_placeFromPosition_49 rfl (lv_at hl 0 rfl) ?_
          refine va_get (D := (dC, dI)) (ci := 2) (v := .int po) (C := RX1) (T := TX1) (N := 9) hx hb hts (by decide +kernel) hown hK hP 0 rfl rfl 5 (by decide) (hts (.fieldLink RX1 42 "RelativeFiles" "position" "I") (by decide +kernel)) (fun _ h9 => h9) rfl dX1_placeFromPosition_50 ?_
          have hPc := hP.sub (ws' := [(oS, .inr (1, [.ref oA, .ref oB, .int (nI h)])), (oA, .inl (cA, n, .inl P)), (oB, .inl (cB, n, .inr (.inl V)))]) [1, 2, 3] rfl
          have hDc := hD.sub (ws' := [(oS, .inr (1, [.ref oA, .ref oB, .int (nI h)])), (oA, .inl (cA, n, .inl P)), (oB, .inl (cB, n, .inr (.inl V)))]) [1, 2, 3] (by decide) rfl
          have hKc := hK.sub (tys' := [(cA, .int), (cB, .long)]) [0, 1] rfl
          have hFc := va_free (wc := [(oS, .inr (1, [.ref oA, .ref oB, .int (nI h)])), (oA, .inl (cA, n, .inl P)), (oB, .inl (cB, n, .inr (.inl V)))]) hD hS hA [1, 2, 3] rfl
          refine va_calli (va_runV (As := [.int po]) (rest := []) ⟨hx, hb, hml, hown, hts⟩ (kX0_firstAbove l dC dI oS oA oB cA cB n h P V po H.size hh hn) (cwV 1 hts gX1_placeFromPosition_X0_firstAbove rfl rfl rfl (by decide +kernel) ⟨Nat.le_of_ble_eq_true rfl, Nat.le_of_ble_eq_true rfl⟩) ⟨fun a U g mk q => by obtain ⟨q0, q1, qP, qK, qD⟩ := q; exact ⟨q0, q1, qP, va_K.moved (u := U) (U := U.calling g mk a) (Vm.Alike.refl U.vm) qK, qD⟩, va_recv hKc hPc (ci := 1) (q0 := 0) rfl rfl, fun U hU hW => ⟨rfl, by rw [hU], by rw [hU]; exact hPc, va_K.moved hW.alike hKc, hDc.weaken (fun _ _ _ _ => trivial)⟩⟩ rfl rfl hl.1 rfl (lv_room (Nat.le_of_ble_eq_true rfl)) dX1_placeFromPosition_53 ⟨Nat.le_of_ble_eq_true rfl, Nat.le_of_ble_eq_true rfl⟩) hS (fun q _ h => hFc q h) hFc (fun r_10 u t H1 locs ht hvm hw hB hz1 hk1 hS => ?_)
          obtain ⟨hP1, hK1, hD1⟩ := hB
          rw [ht] at hP1
          have hK1 := va_K.moved hvm.symm hK1
          try dsimp only at hw
          obtain ⟨hP, hD⟩ := va_join (wr := [(oF, .inr (2, [.int mo, .ref oS, .int th, .int om, .int sd, .int po, .int lr, .long lv, .int (nI d)]))]) (w1 := [(oS, .inr (1, [.ref oA, .ref oB, .int (nI h)])), (oA, .inl (cA, n, .inl P)), (oB, .inl (cB, n, .inr (.inl V)))]) hP hD [1, 2, 3] [0] rfl rfl (by decide) (by decide) hk1 hFc hP1 hD1
          generalize H1 = H at hP hS ⊢
          have hP : va_P (dC, dI) vwCl [(oF, .inr (2, [.int mo, .ref oS, .int th, .int om, .int sd, .int po, .int lr, .long lv, .int (nI d)])), (oS, .inr (1, [.ref oA, .ref oB, .int (nI h)])), (oA, .inl (cA, n, .inl P)), (oB, .inl (cB, n, .inr (.inl V)))] H := hP.sub [0, 1, 2, 3] rfl
          have hD : va_D A [(oF, .inr (2, [.int mo, .ref oS, .int th, .int om, .int sd, .int po, .int lr, .long lv, .int (nI d)])), (oS, .inr (1, [.ref oA, .ref oB, .int (nI h)])), (oA, .inl (cA, n, .inl P)), (oB, .inl (cB, n, .inr (.inl V)))] := hD.sub [0, 1, 2, 3] (by decide) rfl
          have hK : va_K (dC, dI) vwCl [(cA, .int), (cB, .long)] s := hK
          subst hw
          subst hQ9
          have e9 : fPF sd po P h p0 = fFA P h po := by simp only [fPF, if_pos c_1, if_neg b_6, if_pos c_9]
          rw [e9]
          exact W.iret (v := fFA P h po) hx hb hr (fun t ht hW => ⟨⟨fFA P h po, (), rfl, rfl, by rw [ht]; exact hP, va_K.moved hW.alike hK, hD⟩, hS.F ht⟩) hS.2.2 dX1_placeFromPosition_56
        · -- not taken at 28: ¬ p0 = 0
          refine lv_aload_n hx hb dX1_placeFromPosition_31 rfl (lv_at hl 0 rfl) ?_
          refine va_get (D := (dC, dI)) (ci := 2) (v := .ref oS) (C := RX1) (T := TX1) (N := 9) hx hb hts (by decide +kernel) hown hK hP 0 rfl rfl 1 (by decide) (hts (.fieldLink RX1 28 "RelativeFiles" "shelf" "LRelativeFiles$Shelf;") (by decide +kernel)) (fun _ h9 => h9) rfl dX1_placeFromPosition_32 ?_
          refine lv_aload_n hx hb dX1_placeFromPosition_35 rfl (lv_at hl 0 rfl) ?_
          refine va_get (D := (dC, dI)) (ci := 2) (v := .int po) (C := RX1) (T := TX1) (N := 9) hx hb hts (by decide +kernel) hown hK hP 0 rfl rfl 5 (by decide) (hts (.fieldLink RX1 42 "RelativeFiles" "position" "I") (by decide +kernel)) (fun _ h9 => h9) rfl dX1_placeFromPosition_36 ?_
          have hPc := hP.sub (ws' := [(oS, .inr (1, [.ref oA, .ref oB, .int (nI h)])), (oA, .inl (cA, n, .inl P)), (oB, .inl (cB, n, .inr (.inl V)))]) [1, 2, 3] rfl
          have hDc := hD.sub (ws' := [(oS, .inr (1, [.ref oA, .ref oB, .int (nI h)])), (oA, .inl (cA, n, .inl P)), (oB, .inl (cB, n, .inr (.inl V)))]) [1, 2, 3] (by decide) rfl
          have hKc := hK.sub (tys' := [(cA, .int), (cB, .long)]) [0, 1] rfl
          have hFc := va_free (wc := [(oS, .inr (1, [.ref oA, .ref oB, .int (nI h)])), (oA, .inl (cA, n, .inl P)), (oB, .inl (cB, n, .inr (.inl V)))]) hD hS hA [1, 2, 3] rfl
          refine va_calli (va_runV (As := [.int po]) (rest := []) ⟨hx, hb, hml, hown, hts⟩ (kX0_lastBelow l dC dI oS oA oB cA cB n h P V po H.size hh hn) (cwV 1 hts gX1_placeFromPosition_X0_lastBelow rfl rfl rfl (by decide +kernel) ⟨Nat.le_of_ble_eq_true rfl, Nat.le_of_ble_eq_true rfl⟩) ⟨fun a U g mk q => by obtain ⟨q0, q1, qP, qK, qD⟩ := q; exact ⟨q0, q1, qP, va_K.moved (u := U) (U := U.calling g mk a) (Vm.Alike.refl U.vm) qK, qD⟩, va_recv hKc hPc (ci := 1) (q0 := 0) rfl rfl, fun U hU hW => ⟨rfl, by rw [hU], by rw [hU]; exact hPc, va_K.moved hW.alike hKc, hDc.weaken (fun _ _ _ _ => trivial)⟩⟩ rfl rfl hl.1 rfl (lv_room (Nat.le_of_ble_eq_true rfl)) dX1_placeFromPosition_39 ⟨Nat.le_of_ble_eq_true rfl, Nat.le_of_ble_eq_true rfl⟩) hS (fun q _ h => hFc q h) hFc (fun r_11 u t H1 locs ht hvm hw hB hz1 hk1 hS => ?_)
          obtain ⟨hP1, hK1, hD1⟩ := hB
          rw [ht] at hP1
          have hK1 := va_K.moved hvm.symm hK1
          try dsimp only at hw
          obtain ⟨hP, hD⟩ := va_join (wr := [(oF, .inr (2, [.int mo, .ref oS, .int th, .int om, .int sd, .int po, .int lr, .long lv, .int (nI d)]))]) (w1 := [(oS, .inr (1, [.ref oA, .ref oB, .int (nI h)])), (oA, .inl (cA, n, .inl P)), (oB, .inl (cB, n, .inr (.inl V)))]) hP hD [1, 2, 3] [0] rfl rfl (by decide) (by decide) hk1 hFc hP1 hD1
          generalize H1 = H at hP hS ⊢
          have hP : va_P (dC, dI) vwCl [(oF, .inr (2, [.int mo, .ref oS, .int th, .int om, .int sd, .int po, .int lr, .long lv, .int (nI d)])), (oS, .inr (1, [.ref oA, .ref oB, .int (nI h)])), (oA, .inl (cA, n, .inl P)), (oB, .inl (cB, n, .inr (.inl V)))] H := hP.sub [0, 1, 2, 3] rfl
          have hD : va_D A [(oF, .inr (2, [.int mo, .ref oS, .int th, .int om, .int sd, .int po, .int lr, .long lv, .int (nI d)])), (oS, .inr (1, [.ref oA, .ref oB, .int (nI h)])), (oA, .inl (cA, n, .inl P)), (oB, .inl (cB, n, .inr (.inl V)))] := hD.sub [0, 1, 2, 3] (by decide) rfl
          have hK : va_K (dC, dI) vwCl [(cA, .int), (cB, .long)] s := hK
          subst hw
          refine lv_goto (tgt := 56) hx hb dX1_placeFromPosition_42 (by decide) ?_
          subst hQ9
          have e9 : fPF sd po P h p0 = fLB P h po := by simp only [fPF, if_pos c_1, if_neg b_6, if_neg c_9]
          rw [e9]
          exact W.iret (v := fLB P h po) hx hb hr (fun t ht hW => ⟨⟨fLB P h po, (), rfl, rfl, by rw [ht]; exact hP, va_K.moved hW.alike hK, hD⟩, hS.F ht⟩) hS.2.2 dX1_placeFromPosition_56
      · -- not taken at 19: ¬ 0 = 0
        exact absurd c_8 (by decide)

set_option maxHeartbeats 1000000 in
set_option maxRecDepth 100000 in
theorem kX1_closeFile (l : Launch) (dC : Nat → ClassId) (dI : Nat → Nat → Nat) (oF oS oA oB : Nat) (cA cB : ClassId) (n h d : Nat) (mo th om sd po lr : Int32) (lv : Int64) (P : Nat → Int32) (V : Nat → Int64) (sz : Nat) (hh : h ≤ n) (hn : n ≤ 512) : Met l yX1_closeFile wsX1_closeFile ({ frames := 1, cells := 0, slots := 0, locals := 22 }) (va_Pc [.ref oF] (fun U => U.heap.size = sz ∧ va_P (dC, dI) vwCl [(oF, .inr (2, [.int mo, .ref oS, .int th, .int om, .int sd, .int po, .int lr, .long lv, .int (nI d)])), (oS, .inr (1, [.ref oA, .ref oB, .int (nI h)])), (oA, .inl (cA, n, .inl P)), (oB, .inl (cB, n, .inr (.inl V)))] U.heap ∧ va_K (dC, dI) vwCl [(cA, .int), (cB, .long)] U ∧ va_D (fun _ => True) [(oF, .inr (2, [.int mo, .ref oS, .int th, .int om, .int sd, .int po, .int lr, .long lv, .int (nI d)])), (oS, .inr (1, [.ref oA, .ref oB, .int (nI h)])), (oA, .inl (cA, n, .inl P)), (oB, .inl (cB, n, .inr (.inl V)))])) (va_Qi (fun (r : Int32) (_ : Unit) => r = (fClose (th, om, sd, po, lr, lv, d, P, V, h)).1) (fun (_ : Unit) (t : State) => va_P (dC, dI) vwCl (wF oF oS oA oB cA cB n mo (fClose  (th, om, sd, po, lr, lv, d, P, V, h)).2) t.heap ∧ va_K (dC, dI) vwCl [(cA, .int), (cB, .long)] t ∧ va_D (va_A [(oF, .inr (2, [.int mo, .ref oS, .int th, .int om, .int sd, .int po, .int lr, .long lv, .int (nI d)])), (oS, .inr (1, [.ref oA, .ref oB, .int (nI h)])), (oA, .inl (cA, n, .inl P)), (oB, .inl (cB, n, .inr (.inl V)))] sz) (wF oF oS oA oB cA cB n mo (fClose  (th, om, sd, po, lr, lv, d, P, V, h)).2)) (va_A [(oF, .inr (2, [.int mo, .ref oS, .int th, .int om, .int sd, .int po, .int lr, .long lv, .int (nI d)])), (oS, .inr (1, [.ref oA, .ref oB, .int (nI h)])), (oA, .inl (cA, n, .inl P)), (oB, .inl (cB, n, .inr (.inl V)))] sz)) 0 0 (va_A [(oF, .inr (2, [.int mo, .ref oS, .int th, .int om, .int sd, .int po, .int lr, .long lv, .int (nI d)])), (oS, .inr (1, [.ref oA, .ref oB, .int (nI h)])), (oA, .inl (cA, n, .inl P)), (oB, .inl (cB, n, .inr (.inl V)))] sz) := by
  refine Met.ofW (cc := cX1_closeFile) (maxL := 1) (ret := (some .int)) (by decide) rfl ?_
  intro p e s m args below meth c s₁ B hml hv
  obtain ⟨rfl, hsz, hP, hK, hD0⟩ := hv
  have hx := B.exec
  have hb := B.bytes
  have hr := B.returns
  have hts := atoms_spec (ws := wsX1_closeFile) B.pre
  have hown : s.vm.findClass RX1 = some m.cls := findClass_of_methodNamed B.named
  have hlocks := B.notSynchronized
  subst hsz
  have hD := hD0.self (sz := s.heap.size)
  generalize hAe : va_A [(oF, .inr (2, [.int mo, .ref oS, .int th, .int om, .int sd, .int po, .int lr, .long lv, .int (nI d)])), (oS, .inr (1, [.ref oA, .ref oB, .int (nI h)])), (oA, .inl (cA, n, .inl P)), (oB, .inl (cB, n, .inr (.inl V)))] s.heap.size = A at hD ⊢
  have hA : ∀ q : Nat, s.heap.size ≤ q → A q := fun q h => by rw [← hAe]; exact Or.inr h
  have hS : va_S A s.heap s.heap [] := va_S.rf
  have hP : va_P (dC, dI) vwCl [(oF, .inr (2, [.int mo, .ref oS, .int th, .int om, .int sd, .int po, .int lr, .long lv, .int (nI d)])), (oS, .inr (1, [.ref oA, .ref oB, .int (nI h)])), (oA, .inl (cA, n, .inl P)), (oB, .inl (cB, n, .inr (.inl V)))] s.heap := hP
  have hl := lv_entry ([.ref oF]) (n := 1) (Nat.le_of_ble_eq_true rfl)
  rw [lg_entry_eq]
  generalize (lg_sl ([.ref oF]) ++ List.replicate (1 - (lg_sl ([.ref oF])).length) Slot.unset).toArray = ls at hl ⊢
  have hl : lv_has ls 1 [(0, .ref oF)] := hl
  refine W_name (fun Q hQ9 => ?_)
  refine lv_aload_n hx hb dX1_closeFile_0 rfl (lv_at hl 0 rfl) ?_
  refine va_get (D := (dC, dI)) (ci := 2) (v := .int om) (C := RX1) (T := TX1) (N := 9) hx hb hts (by decide +kernel) hown hK hP 0 rfl rfl 3 (by decide) (hts (.fieldLink RX1 36 "RelativeFiles" "openMode" "I") (by decide +kernel)) (fun _ h9 => h9) rfl dX1_closeFile_1 ?_
  refine lv_iconst (v := (-1)) hx hb dX1_closeFile_4 (by decide) ?_
  refine lv_icmp_ne (tgt := 11) hx hb dX1_closeFile_5 (by decide) (fun c_1 => ?_) (fun c_1 => ?_)
  · -- taken at 5: ¬ om = (-1)
    refine lv_aload_n hx hb dX1_closeFile_11 rfl (lv_at hl 0 rfl) ?_
    refine lv_iconst (v := 0) hx hb dX1_closeFile_12 (by decide) ?_
    refine lv_iconst (v := 0) hx hb dX1_closeFile_13 (by decide) ?_
    have hPc := hP.sub (ws' := [(oF, .inr (2, [.int mo, .ref oS, .int th, .int om, .int sd, .int po, .int lr, .long lv, .int (nI d)])), (oS, .inr (1, [.ref oA, .ref oB, .int (nI h)])), (oA, .inl (cA, n, .inl P)), (oB, .inl (cB, n, .inr (.inl V)))]) [0, 1, 2, 3] rfl
    have hDc := hD.sub (ws' := [(oF, .inr (2, [.int mo, .ref oS, .int th, .int om, .int sd, .int po, .int lr, .long lv, .int (nI d)])), (oS, .inr (1, [.ref oA, .ref oB, .int (nI h)])), (oA, .inl (cA, n, .inl P)), (oB, .inl (cB, n, .inr (.inl V)))]) [0, 1, 2, 3] (by decide) rfl
    have hKc := hK.sub (tys' := [(cA, .int), (cB, .long)]) [0, 1] rfl
    have hFc := va_free (wc := [(oF, .inr (2, [.int mo, .ref oS, .int th, .int om, .int sd, .int po, .int lr, .long lv, .int (nI d)])), (oS, .inr (1, [.ref oA, .ref oB, .int (nI h)])), (oA, .inl (cA, n, .inl P)), (oB, .inl (cB, n, .inr (.inl V)))]) hD hS hA [0, 1, 2, 3] rfl
    refine va_callv (va_runV (As := [.int 0, .int 0]) (rest := []) ⟨hx, hb, hml, hown, hts⟩ (kX1_stand l dC dI oF oS oA oB cA cB n h d mo th om sd po lr lv P V 0 0 s.heap.size hh hn) (cwV 2 hts gX1_closeFile_X1_stand rfl rfl rfl (by decide +kernel) ⟨Nat.le_of_ble_eq_true rfl, Nat.le_of_ble_eq_true rfl⟩) ⟨fun a U g mk q => by obtain ⟨q0, q1, qP, qK, qD⟩ := q; exact ⟨q0, q1, qP, va_K.moved (u := U) (U := U.calling g mk a) (Vm.Alike.refl U.vm) qK, qD⟩, va_recv hKc hPc (ci := 2) (q0 := 0) rfl rfl, fun U hU hW => ⟨rfl, by rw [hU], by rw [hU]; exact hPc, va_K.moved hW.alike hKc, hDc.weaken (fun _ _ _ _ => trivial)⟩⟩ rfl rfl hl.1 rfl (lv_room (Nat.le_of_ble_eq_true rfl)) dX1_closeFile_14 ⟨Nat.le_of_ble_eq_true rfl, Nat.le_of_ble_eq_true rfl⟩) hS (fun q _ h => hFc q h) hFc (fun u t H1 locs ht hvm hw hB hz1 hk1 hS => ?_)
    obtain ⟨hP1, hK1, hD1⟩ := hB
    rw [ht] at hP1
    have hK1 := va_K.moved hvm.symm hK1
    try dsimp only at hw
    obtain ⟨hP, hD⟩ := va_join (wr := []) (w1 := [(oF, .inr (2, [.int mo, .ref oS, .int th, .int om, .int 0, .int 0, .int 0, .long lv, .int (nI d)])), (oS, .inr (1, [.ref oA, .ref oB, .int (nI h)])), (oA, .inl (cA, n, .inl P)), (oB, .inl (cB, n, .inr (.inl V)))]) hP hD [0, 1, 2, 3] [] rfl rfl (by decide) (by decide) hk1 hFc hP1 hD1
    generalize H1 = H at hP hS ⊢
    have hP : va_P (dC, dI) vwCl [(oF, .inr (2, [.int mo, .ref oS, .int th, .int om, .int 0, .int 0, .int 0, .long lv, .int (nI d)])), (oS, .inr (1, [.ref oA, .ref oB, .int (nI h)])), (oA, .inl (cA, n, .inl P)), (oB, .inl (cB, n, .inr (.inl V)))] H := hP.sub [0, 1, 2, 3] rfl
    have hD : va_D A [(oF, .inr (2, [.int mo, .ref oS, .int th, .int om, .int 0, .int 0, .int 0, .long lv, .int (nI d)])), (oS, .inr (1, [.ref oA, .ref oB, .int (nI h)])), (oA, .inl (cA, n, .inl P)), (oB, .inl (cB, n, .inr (.inl V)))] := hD.sub [0, 1, 2, 3] (by decide) rfl
    have hK : va_K (dC, dI) vwCl [(cA, .int), (cB, .long)] s := hK
    refine lv_aload_n hx hb dX1_closeFile_17 rfl (lv_at hl 0 rfl) ?_
    refine lv_iconst (v := (-1)) hx hb dX1_closeFile_18 (by decide) ?_
    refine va_put (D := (dC, dI)) (ci := 2) (v := .int (-1)) (ty := .int) (C := RX1) (T := TX1) (N := 9) hx hb hts (by decide +kernel) tyX1 tyX1_ok nmX1 hown hK hP hD hS 0 rfl rfl 3 (by decide) (hts (.fieldLink RX1 36 "RelativeFiles" "openMode" "I") (by decide +kernel)) (fun _ h9 => h9) rfl (by decide +kernel) rfl rfl (Nat.le_of_ble_eq_true rfl) dX1_closeFile_19 (fun H locs hP hD hS => ?_)
    have hP : va_P (dC, dI) vwCl [(oF, .inr (2, [.int mo, .ref oS, .int th, .int (-1), .int 0, .int 0, .int 0, .long lv, .int (nI d)])), (oS, .inr (1, [.ref oA, .ref oB, .int (nI h)])), (oA, .inl (cA, n, .inl P)), (oB, .inl (cB, n, .inr (.inl V)))] H := hP
    have hD : va_D A [(oF, .inr (2, [.int mo, .ref oS, .int th, .int (-1), .int 0, .int 0, .int 0, .long lv, .int (nI d)])), (oS, .inr (1, [.ref oA, .ref oB, .int (nI h)])), (oA, .inl (cA, n, .inl P)), (oB, .inl (cB, n, .inr (.inl V)))] := hD
    refine lv_iconst (v := 0) hx hb dX1_closeFile_22 (by decide) ?_
    subst hQ9
    have e9 : fClose (th, om, sd, po, lr, lv, d, P, V, h) = (0, (th, (-1), 0, 0, 0, lv, d, P, V, h)) := by simp only [fClose, if_neg c_1]
    rw [e9]
    exact W.iret (v := 0) hx hb hr (fun t ht hW => ⟨⟨0, (), rfl, rfl, by rw [ht]; exact hP, va_K.moved hW.alike hK, hD⟩, hS.F ht⟩) hS.2.2 dX1_closeFile_23
  · -- not taken at 5: om = (-1)
    refine lv_bipush (v := 42) hx hb dX1_closeFile_8 (by decide) ?_
    subst hQ9
    have e9 : fClose (th, om, sd, po, lr, lv, d, P, V, h) = (42, (th, om, sd, po, lr, lv, d, P, V, h)) := by simp only [fClose, if_pos c_1]
    rw [e9]
    exact W.iret (v := 42) hx hb hr (fun t ht hW => ⟨⟨42, (), rfl, rfl, by rw [ht]; exact hP, va_K.moved hW.alike hK, hD⟩, hS.F ht⟩) hS.2.2 dX1_closeFile_10

set_option maxHeartbeats 1000000 in
set_option maxRecDepth 100000 in
theorem kX1_openFile (l : Launch) (dC : Nat → ClassId) (dI : Nat → Nat → Nat) (oF oS oA oB : Nat) (cA cB : ClassId) (n h d : Nat) (mo th om sd po lr : Int32) (lv : Int64) (P : Nat → Int32) (V : Nat → Int64) (p0 : Int32) (sz : Nat) (hh : h ≤ n) (hn : n ≤ 512) : Met l yX1_openFile wsX1_openFile ({ frames := 1, cells := 0, slots := 0, locals := 22 }) (va_Pc [.ref oF, .int p0] (fun U => U.heap.size = sz ∧ va_P (dC, dI) vwCl [(oF, .inr (2, [.int mo, .ref oS, .int th, .int om, .int sd, .int po, .int lr, .long lv, .int (nI d)])), (oS, .inr (1, [.ref oA, .ref oB, .int (nI h)])), (oA, .inl (cA, n, .inl P)), (oB, .inl (cB, n, .inr (.inl V)))] U.heap ∧ va_K (dC, dI) vwCl [(cA, .int), (cB, .long)] U ∧ va_D (fun _ => True) [(oF, .inr (2, [.int mo, .ref oS, .int th, .int om, .int sd, .int po, .int lr, .long lv, .int (nI d)])), (oS, .inr (1, [.ref oA, .ref oB, .int (nI h)])), (oA, .inl (cA, n, .inl P)), (oB, .inl (cB, n, .inr (.inl V)))])) (va_Qi (fun (r : Int32) (_ : Unit) => r = (fOpF p0 (th, om, sd, po, lr, lv, d, P, V, h)).1) (fun (_ : Unit) (t : State) => va_P (dC, dI) vwCl (wF oF oS oA oB cA cB n mo (fOpF p0 (th, om, sd, po, lr, lv, d, P, V, h)).2) t.heap ∧ va_K (dC, dI) vwCl [(cA, .int), (cB, .long)] t ∧ va_D (va_A [(oF, .inr (2, [.int mo, .ref oS, .int th, .int om, .int sd, .int po, .int lr, .long lv, .int (nI d)])), (oS, .inr (1, [.ref oA, .ref oB, .int (nI h)])), (oA, .inl (cA, n, .inl P)), (oB, .inl (cB, n, .inr (.inl V)))] sz) (wF oF oS oA oB cA cB n mo (fOpF p0 (th, om, sd, po, lr, lv, d, P, V, h)).2)) (va_A [(oF, .inr (2, [.int mo, .ref oS, .int th, .int om, .int sd, .int po, .int lr, .long lv, .int (nI d)])), (oS, .inr (1, [.ref oA, .ref oB, .int (nI h)])), (oA, .inl (cA, n, .inl P)), (oB, .inl (cB, n, .inr (.inl V)))] sz)) 0 0 (va_A [(oF, .inr (2, [.int mo, .ref oS, .int th, .int om, .int sd, .int po, .int lr, .long lv, .int (nI d)])), (oS, .inr (1, [.ref oA, .ref oB, .int (nI h)])), (oA, .inl (cA, n, .inl P)), (oB, .inl (cB, n, .inr (.inl V)))] sz) := by
  refine Met.ofW (cc := cX1_openFile) (maxL := 3) (ret := (some .int)) (by decide) rfl ?_
  intro p e s m args below meth c s₁ B hml hv
  obtain ⟨rfl, hsz, hP, hK, hD0⟩ := hv
  have hx := B.exec
  have hb := B.bytes
  have hr := B.returns
  have hts := atoms_spec (ws := wsX1_openFile) B.pre
  have hown : s.vm.findClass RX1 = some m.cls := findClass_of_methodNamed B.named
  have hlocks := B.notSynchronized
  subst hsz
  have hD := hD0.self (sz := s.heap.size)
  generalize hAe : va_A [(oF, .inr (2, [.int mo, .ref oS, .int th, .int om, .int sd, .int po, .int lr, .long lv, .int (nI d)])), (oS, .inr (1, [.ref oA, .ref oB, .int (nI h)])), (oA, .inl (cA, n, .inl P)), (oB, .inl (cB, n, .inr (.inl V)))] s.heap.size = A at hD ⊢
  have hA : ∀ q : Nat, s.heap.size ≤ q → A q := fun q h => by rw [← hAe]; exact Or.inr h
  have hS : va_S A s.heap s.heap [] := va_S.rf
  have hP : va_P (dC, dI) vwCl [(oF, .inr (2, [.int mo, .ref oS, .int th, .int om, .int sd, .int po, .int lr, .long lv, .int (nI d)])), (oS, .inr (1, [.ref oA, .ref oB, .int (nI h)])), (oA, .inl (cA, n, .inl P)), (oB, .inl (cB, n, .inr (.inl V)))] s.heap := hP
  have hl := lv_entry ([.ref oF, .int p0]) (n := 3) (Nat.le_of_ble_eq_true rfl)
  rw [lg_entry_eq]
  generalize (lg_sl ([.ref oF, .int p0]) ++ List.replicate (3 - (lg_sl ([.ref oF, .int p0])).length) Slot.unset).toArray = ls at hl ⊢
  have hl : lv_has ls 3 [(0, .ref oF), (1, .int p0)] := hl
  refine W_name (fun Q hQ9 => ?_)
  refine lv_aload_n hx hb dX1_openFile_0 rfl (lv_at hl 0 rfl) ?_
  refine va_get (D := (dC, dI)) (ci := 2) (v := .int om) (C := RX1) (T := TX1) (N := 9) hx hb hts (by decide +kernel) hown hK hP 0 rfl rfl 3 (by decide) (hts (.fieldLink RX1 36 "RelativeFiles" "openMode" "I") (by decide +kernel)) (fun _ h9 => h9) rfl dX1_openFile_1 ?_
  refine lv_iconst (v := (-1)) hx hb dX1_openFile_4 (by decide) ?_
  refine lv_icmp_eq (tgt := 11) hx hb dX1_openFile_5 (by decide) (fun c_1 => ?_) (fun c_1 => ?_)
  · -- taken at 5: om = (-1)
    refine lv_aload_n hx hb dX1_openFile_11 rfl (lv_at hl 0 rfl) ?_
    refine lv_iconst (v := 0) hx hb dX1_openFile_12 (by decide) ?_
    refine lv_iconst (v := 0) hx hb dX1_openFile_13 (by decide) ?_
    have hPc := hP.sub (ws' := [(oF, .inr (2, [.int mo, .ref oS, .int th, .int om, .int sd, .int po, .int lr, .long lv, .int (nI d)])), (oS, .inr (1, [.ref oA, .ref oB, .int (nI h)])), (oA, .inl (cA, n, .inl P)), (oB, .inl (cB, n, .inr (.inl V)))]) [0, 1, 2, 3] rfl
    have hDc := hD.sub (ws' := [(oF, .inr (2, [.int mo, .ref oS, .int th, .int om, .int sd, .int po, .int lr, .long lv, .int (nI d)])), (oS, .inr (1, [.ref oA, .ref oB, .int (nI h)])), (oA, .inl (cA, n, .inl P)), (oB, .inl (cB, n, .inr (.inl V)))]) [0, 1, 2, 3] (by decide) rfl
    have hKc := hK.sub (tys' := [(cA, .int), (cB, .long)]) [0, 1] rfl
    have hFc := va_free (wc := [(oF, .inr (2, [.int mo, .ref oS, .int th, .int om, .int sd, .int po, .int lr, .long lv, .int (nI d)])), (oS, .inr (1, [.ref oA, .ref oB, .int (nI h)])), (oA, .inl (cA, n, .inl P)), (oB, .inl (cB, n, .inr (.inl V)))]) hD hS hA [0, 1, 2, 3] rfl
    refine va_callv (va_runV (As := [.int 0, .int 0]) (rest := []) ⟨hx, hb, hml, hown, hts⟩ (kX1_stand l dC dI oF oS oA oB cA cB n h d mo th om sd po lr lv P V 0 0 s.heap.size hh hn) (cwV 2 hts gX1_openFile_X1_stand rfl rfl rfl (by decide +kernel) ⟨Nat.le_of_ble_eq_true rfl, Nat.le_of_ble_eq_true rfl⟩) ⟨fun a U g mk q => by obtain ⟨q0, q1, qP, qK, qD⟩ := q; exact ⟨q0, q1, qP, va_K.moved (u := U) (U := U.calling g mk a) (Vm.Alike.refl U.vm) qK, qD⟩, va_recv hKc hPc (ci := 2) (q0 := 0) rfl rfl, fun U hU hW => ⟨rfl, by rw [hU], by rw [hU]; exact hPc, va_K.moved hW.alike hKc, hDc.weaken (fun _ _ _ _ => trivial)⟩⟩ rfl rfl hl.1 rfl (lv_room (Nat.le_of_ble_eq_true rfl)) dX1_openFile_14 ⟨Nat.le_of_ble_eq_true rfl, Nat.le_of_ble_eq_true rfl⟩) hS (fun q _ h => hFc q h) hFc (fun u t H1 locs ht hvm hw hB hz1 hk1 hS => ?_)
    obtain ⟨hP1, hK1, hD1⟩ := hB
    rw [ht] at hP1
    have hK1 := va_K.moved hvm.symm hK1
    try dsimp only at hw
    obtain ⟨hP, hD⟩ := va_join (wr := []) (w1 := [(oF, .inr (2, [.int mo, .ref oS, .int th, .int om, .int 0, .int 0, .int 0, .long lv, .int (nI d)])), (oS, .inr (1, [.ref oA, .ref oB, .int (nI h)])), (oA, .inl (cA, n, .inl P)), (oB, .inl (cB, n, .inr (.inl V)))]) hP hD [0, 1, 2, 3] [] rfl rfl (by decide) (by decide) hk1 hFc hP1 hD1
    generalize H1 = H at hP hS ⊢
    have hP : va_P (dC, dI) vwCl [(oF, .inr (2, [.int mo, .ref oS, .int th, .int om, .int 0, .int 0, .int 0, .long lv, .int (nI d)])), (oS, .inr (1, [.ref oA, .ref oB, .int (nI h)])), (oA, .inl (cA, n, .inl P)), (oB, .inl (cB, n, .inr (.inl V)))] H := hP.sub [0, 1, 2, 3] rfl
    have hD : va_D A [(oF, .inr (2, [.int mo, .ref oS, .int th, .int om, .int 0, .int 0, .int 0, .long lv, .int (nI d)])), (oS, .inr (1, [.ref oA, .ref oB, .int (nI h)])), (oA, .inl (cA, n, .inl P)), (oB, .inl (cB, n, .inr (.inl V)))] := hD.sub [0, 1, 2, 3] (by decide) rfl
    have hK : va_K (dC, dI) vwCl [(cA, .int), (cB, .long)] s := hK
    refine lv_aload_n hx hb dX1_openFile_17 rfl (lv_at hl 0 rfl) ?_
    refine va_get (D := (dC, dI)) (ci := 2) (v := .int th) (C := RX1) (T := TX1) (N := 9) hx hb hts (by decide +kernel) hown hK hP 0 rfl rfl 2 (by decide) (hts (.fieldLink RX1 32 "RelativeFiles" "there" "Z") (by decide +kernel)) (fun _ h9 => h9) rfl dX1_openFile_18 ?_
    refine lv_istore_n (lv' := [(2, .int th), (0, .ref oF), (1, .int p0)]) hx hb dX1_openFile_21 rfl hl (by decide) rfl (fun ls hl => ?_)
    refine lv_iload_n hx hb dX1_openFile_22 rfl (lv_at hl 0 rfl) ?_
    refine lv_if_ne (tgt := 38) hx hb dX1_openFile_23 (by decide) (fun c_3 => ?_) (fun c_3 => ?_)
    · -- taken at 23: ¬ th = 0
      refine lv_iload_n hx hb dX1_openFile_38 rfl (lv_at hl 2 rfl) ?_
      refine lv_iconst (v := 1) hx hb dX1_openFile_39 (by decide) ?_
      refine lv_icmp_ne (tgt := 50) hx hb dX1_openFile_40 (by decide) (fun c_4 => ?_) (fun c_4 => ?_)
      · -- taken at 40: ¬ p0 = 1
        refine lv_aload_n hx hb dX1_openFile_50 rfl (lv_at hl 1 rfl) ?_
        refine lv_iconst (v := 1) hx hb dX1_openFile_51 (by decide) ?_
        refine va_put (D := (dC, dI)) (ci := 2) (v := .int 1) (ty := .boolean) (C := RX1) (T := TX1) (N := 9) hx hb hts (by decide +kernel) tyX1 tyX1_ok nmX1 hown hK hP hD hS 0 rfl rfl 2 (by decide) (hts (.fieldLink RX1 32 "RelativeFiles" "there" "Z") (by decide +kernel)) (fun _ h9 => h9) rfl (by decide +kernel) (by decide) (by decide) (Nat.le_of_ble_eq_true rfl) dX1_openFile_52 (fun H locs hP hD hS => ?_)
        have hP : va_P (dC, dI) vwCl [(oF, .inr (2, [.int mo, .ref oS, .int 1, .int om, .int 0, .int 0, .int 0, .long lv, .int (nI d)])), (oS, .inr (1, [.ref oA, .ref oB, .int (nI h)])), (oA, .inl (cA, n, .inl P)), (oB, .inl (cB, n, .inr (.inl V)))] H := hP
        have hD : va_D A [(oF, .inr (2, [.int mo, .ref oS, .int 1, .int om, .int 0, .int 0, .int 0, .long lv, .int (nI d)])), (oS, .inr (1, [.ref oA, .ref oB, .int (nI h)])), (oA, .inl (cA, n, .inl P)), (oB, .inl (cB, n, .inr (.inl V)))] := hD
        refine lv_aload_n hx hb dX1_openFile_55 rfl (lv_at hl 1 rfl) ?_
        refine lv_iload_n hx hb dX1_openFile_56 rfl (lv_at hl 2 rfl) ?_
        refine va_put (D := (dC, dI)) (ci := 2) (v := .int p0) (ty := .int) (C := RX1) (T := TX1) (N := 9) hx hb hts (by decide +kernel) tyX1 tyX1_ok nmX1 hown hK hP hD hS 0 rfl rfl 3 (by decide) (hts (.fieldLink RX1 36 "RelativeFiles" "openMode" "I") (by decide +kernel)) (fun _ h9 => h9) rfl (by decide +kernel) rfl rfl (Nat.le_of_ble_eq_true rfl) dX1_openFile_57 (fun H locs hP hD hS => ?_)
        have hP : va_P (dC, dI) vwCl [(oF, .inr (2, [.int mo, .ref oS, .int 1, .int p0, .int 0, .int 0, .int 0, .long lv, .int (nI d)])), (oS, .inr (1, [.ref oA, .ref oB, .int (nI h)])), (oA, .inl (cA, n, .inl P)), (oB, .inl (cB, n, .inr (.inl V)))] H := hP
        have hD : va_D A [(oF, .inr (2, [.int mo, .ref oS, .int 1, .int p0, .int 0, .int 0, .int 0, .long lv, .int (nI d)])), (oS, .inr (1, [.ref oA, .ref oB, .int (nI h)])), (oA, .inl (cA, n, .inl P)), (oB, .inl (cB, n, .inr (.inl V)))] := hD
        refine lv_iload_n hx hb dX1_openFile_60 rfl (lv_at hl 2 rfl) ?_
        refine lv_iconst (v := 3) hx hb dX1_openFile_61 (by decide) ?_
        refine lv_icmp_ne (tgt := 73) hx hb dX1_openFile_62 (by decide) (fun c_5 => ?_) (fun c_5 => ?_)
        · -- taken at 62: ¬ p0 = 3
          refine lv_iconst (v := 0) hx hb dX1_openFile_73 (by decide) ?_
          subst hQ9
          have e9 : fOpF p0 (th, om, sd, po, lr, lv, d, P, V, h) = (0, (1, p0, 0, 0, 0, lv, d, P, V, h)) := by simp only [fOpF, fOpF2, if_pos c_1, if_neg c_3, if_neg c_4, if_neg c_5]
          rw [e9]
          exact W.iret (v := 0) hx hb hr (fun t ht hW => ⟨⟨0, (), rfl, rfl, by rw [ht]; exact hP, va_K.moved hW.alike hK, hD⟩, hS.F ht⟩) hS.2.2 dX1_openFile_74
        · -- not taken at 62: p0 = 3
          refine lv_iload_n hx hb dX1_openFile_65 rfl (lv_at hl 0 rfl) ?_
          refine lv_if_ne (tgt := 73) hx hb dX1_openFile_66 (by decide) (fun c_6 => ?_) (fun c_6 => ?_)
          · -- taken at 66: ¬ th = 0
            refine lv_iconst (v := 0) hx hb dX1_openFile_73 (by decide) ?_
            subst hQ9
            have e9 : fOpF p0 (th, om, sd, po, lr, lv, d, P, V, h) = (0, (1, p0, 0, 0, 0, lv, d, P, V, h)) := by simp only [fOpF, fOpF2, if_pos c_1, if_neg c_3, if_neg c_4, if_pos c_5]
            rw [e9]
            exact W.iret (v := 0) hx hb hr (fun t ht hW => ⟨⟨0, (), rfl, rfl, by rw [ht]; exact hP, va_K.moved hW.alike hK, hD⟩, hS.F ht⟩) hS.2.2 dX1_openFile_74
          · -- not taken at 66: th = 0
            exact absurd c_6 c_3
      · -- not taken at 40: p0 = 1
        refine lv_aload_n hx hb dX1_openFile_43 rfl (lv_at hl 1 rfl) ?_
        refine va_get (D := (dC, dI)) (ci := 2) (v := .ref oS) (C := RX1) (T := TX1) (N := 9) hx hb hts (by decide +kernel) hown hK hP 0 rfl rfl 1 (by decide) (hts (.fieldLink RX1 28 "RelativeFiles" "shelf" "LRelativeFiles$Shelf;") (by decide +kernel)) (fun _ h9 => h9) rfl dX1_openFile_44 ?_
        have hPc := hP.sub (ws' := [(oS, .inr (1, [.ref oA, .ref oB, .int (nI h)])), (oA, .inl (cA, n, .inl P)), (oB, .inl (cB, n, .inr (.inl V)))]) [1, 2, 3] rfl
        have hDc := hD.sub (ws' := [(oS, .inr (1, [.ref oA, .ref oB, .int (nI h)])), (oA, .inl (cA, n, .inl P)), (oB, .inl (cB, n, .inr (.inl V)))]) [1, 2, 3] (by decide) rfl
        have hKc := hK.sub (tys' := [(cA, .int), (cB, .long)]) [0, 1] rfl
        have hFc := va_free (wc := [(oS, .inr (1, [.ref oA, .ref oB, .int (nI h)])), (oA, .inl (cA, n, .inl P)), (oB, .inl (cB, n, .inr (.inl V)))]) hD hS hA [1, 2, 3] rfl
        refine va_callv (va_runV (As := []) (rest := []) ⟨hx, hb, hml, hown, hts⟩ (kX0_clear l dC dI oS oA oB cA cB n h P V  H.size hh hn) (cwV 0 hts gX1_openFile_X0_clear rfl rfl rfl (by decide +kernel) ⟨Nat.le_of_ble_eq_true rfl, Nat.le_of_ble_eq_true rfl⟩) ⟨fun a U g mk q => by obtain ⟨q0, q1, qP, qK, qD⟩ := q; exact ⟨q0, q1, qP, va_K.moved (u := U) (U := U.calling g mk a) (Vm.Alike.refl U.vm) qK, qD⟩, va_recv hKc hPc (ci := 1) (q0 := 0) rfl rfl, fun U hU hW => ⟨rfl, by rw [hU], by rw [hU]; exact hPc, va_K.moved hW.alike hKc, hDc.weaken (fun _ _ _ _ => trivial)⟩⟩ rfl rfl hl.1 rfl (lv_room (Nat.le_of_ble_eq_true rfl)) dX1_openFile_47 ⟨Nat.le_of_ble_eq_true rfl, Nat.le_of_ble_eq_true rfl⟩) hS (fun q _ h => hFc q h) hFc (fun u t H1 locs ht hvm hw hB hz1 hk1 hS => ?_)
        obtain ⟨hP1, hK1, hD1⟩ := hB
        rw [ht] at hP1
        have hK1 := va_K.moved hvm.symm hK1
        try dsimp only at hw
        obtain ⟨hP, hD⟩ := va_join (wr := [(oF, .inr (2, [.int mo, .ref oS, .int th, .int om, .int 0, .int 0, .int 0, .long lv, .int (nI d)]))]) (w1 := [(oS, .inr (1, [.ref oA, .ref oB, .int (nI 0)])), (oA, .inl (cA, n, .inl P)), (oB, .inl (cB, n, .inr (.inl V)))]) hP hD [1, 2, 3] [0] rfl rfl (by decide) (by decide) hk1 hFc hP1 hD1
        generalize H1 = H at hP hS ⊢
        have hP : va_P (dC, dI) vwCl [(oF, .inr (2, [.int mo, .ref oS, .int th, .int om, .int 0, .int 0, .int 0, .long lv, .int (nI d)])), (oS, .inr (1, [.ref oA, .ref oB, .int (nI 0)])), (oA, .inl (cA, n, .inl P)), (oB, .inl (cB, n, .inr (.inl V)))] H := hP.sub [0, 1, 2, 3] rfl
        have hD : va_D A [(oF, .inr (2, [.int mo, .ref oS, .int th, .int om, .int 0, .int 0, .int 0, .long lv, .int (nI d)])), (oS, .inr (1, [.ref oA, .ref oB, .int (nI 0)])), (oA, .inl (cA, n, .inl P)), (oB, .inl (cB, n, .inr (.inl V)))] := hD.sub [0, 1, 2, 3] (by decide) rfl
        have hK : va_K (dC, dI) vwCl [(cA, .int), (cB, .long)] s := hK
        refine lv_aload_n hx hb dX1_openFile_50 rfl (lv_at hl 1 rfl) ?_
        refine lv_iconst (v := 1) hx hb dX1_openFile_51 (by decide) ?_
        refine va_put (D := (dC, dI)) (ci := 2) (v := .int 1) (ty := .boolean) (C := RX1) (T := TX1) (N := 9) hx hb hts (by decide +kernel) tyX1 tyX1_ok nmX1 hown hK hP hD hS 0 rfl rfl 2 (by decide) (hts (.fieldLink RX1 32 "RelativeFiles" "there" "Z") (by decide +kernel)) (fun _ h9 => h9) rfl (by decide +kernel) (by decide) (by decide) (Nat.le_of_ble_eq_true rfl) dX1_openFile_52 (fun H locs hP hD hS => ?_)
        have hP : va_P (dC, dI) vwCl [(oF, .inr (2, [.int mo, .ref oS, .int 1, .int om, .int 0, .int 0, .int 0, .long lv, .int (nI d)])), (oS, .inr (1, [.ref oA, .ref oB, .int (nI 0)])), (oA, .inl (cA, n, .inl P)), (oB, .inl (cB, n, .inr (.inl V)))] H := hP
        have hD : va_D A [(oF, .inr (2, [.int mo, .ref oS, .int 1, .int om, .int 0, .int 0, .int 0, .long lv, .int (nI d)])), (oS, .inr (1, [.ref oA, .ref oB, .int (nI 0)])), (oA, .inl (cA, n, .inl P)), (oB, .inl (cB, n, .inr (.inl V)))] := hD
        refine lv_aload_n hx hb dX1_openFile_55 rfl (lv_at hl 1 rfl) ?_
        refine lv_iload_n hx hb dX1_openFile_56 rfl (lv_at hl 2 rfl) ?_
        refine va_put (D := (dC, dI)) (ci := 2) (v := .int p0) (ty := .int) (C := RX1) (T := TX1) (N := 9) hx hb hts (by decide +kernel) tyX1 tyX1_ok nmX1 hown hK hP hD hS 0 rfl rfl 3 (by decide) (hts (.fieldLink RX1 36 "RelativeFiles" "openMode" "I") (by decide +kernel)) (fun _ h9 => h9) rfl (by decide +kernel) rfl rfl (Nat.le_of_ble_eq_true rfl) dX1_openFile_57 (fun H locs hP hD hS => ?_)
        have hP : va_P (dC, dI) vwCl [(oF, .inr (2, [.int mo, .ref oS, .int 1, .int p0, .int 0, .int 0, .int 0, .long lv, .int (nI d)])), (oS, .inr (1, [.ref oA, .ref oB, .int (nI 0)])), (oA, .inl (cA, n, .inl P)), (oB, .inl (cB, n, .inr (.inl V)))] H := hP
        have hD : va_D A [(oF, .inr (2, [.int mo, .ref oS, .int 1, .int p0, .int 0, .int 0, .int 0, .long lv, .int (nI d)])), (oS, .inr (1, [.ref oA, .ref oB, .int (nI 0)])), (oA, .inl (cA, n, .inl P)), (oB, .inl (cB, n, .inr (.inl V)))] := hD
        refine lv_iload_n hx hb dX1_openFile_60 rfl (lv_at hl 2 rfl) ?_
        refine lv_iconst (v := 3) hx hb dX1_openFile_61 (by decide) ?_
        refine lv_icmp_ne (tgt := 73) hx hb dX1_openFile_62 (by decide) (fun c_8 => ?_) (fun c_8 => ?_)
        · -- taken at 62: ¬ p0 = 3
          refine lv_iconst (v := 0) hx hb dX1_openFile_73 (by decide) ?_
          subst hQ9
          have e9 : fOpF p0 (th, om, sd, po, lr, lv, d, P, V, h) = (0, (1, p0, 0, 0, 0, lv, d, P, V, 0)) := by simp only [fOpF, fOpF2, if_pos c_1, if_neg c_3, if_pos c_4, if_neg c_8]
          rw [e9]
          exact W.iret (v := 0) hx hb hr (fun t ht hW => ⟨⟨0, (), rfl, rfl, by rw [ht]; exact hP, va_K.moved hW.alike hK, hD⟩, hS.F ht⟩) hS.2.2 dX1_openFile_74
        · -- not taken at 62: p0 = 3
          refine lv_iload_n hx hb dX1_openFile_65 rfl (lv_at hl 0 rfl) ?_
          refine lv_if_ne (tgt := 73) hx hb dX1_openFile_66 (by decide) (fun c_9 => ?_) (fun c_9 => ?_)
          · -- taken at 66: ¬ th = 0
            refine lv_iconst (v := 0) hx hb dX1_openFile_73 (by decide) ?_
            subst hQ9
            have e9 : fOpF p0 (th, om, sd, po, lr, lv, d, P, V, h) = (0, (1, p0, 0, 0, 0, lv, d, P, V, 0)) := by simp only [fOpF, fOpF2, if_pos c_1, if_neg c_3, if_pos c_4, if_pos c_8]
            rw [e9]
            exact W.iret (v := 0) hx hb hr (fun t ht hW => ⟨⟨0, (), rfl, rfl, by rw [ht]; exact hP, va_K.moved hW.alike hK, hD⟩, hS.F ht⟩) hS.2.2 dX1_openFile_74
          · -- not taken at 66: th = 0
            exact absurd c_9 c_3
    · -- not taken at 23: th = 0
      refine lv_iload_n hx hb dX1_openFile_26 rfl (lv_at hl 2 rfl) ?_
      refine lv_if_eq (tgt := 35) hx hb dX1_openFile_27 (by decide) (fun c_10 => ?_) (fun c_10 => ?_)
      · -- taken at 27: p0 = 0
        refine lv_bipush (v := 35) hx hb dX1_openFile_35 (by decide) ?_
        subst hQ9
        have e9 : fOpF p0 (th, om, sd, po, lr, lv, d, P, V, h) = (35, (th, om, 0, 0, 0, lv, d, P, V, h)) := by simp only [fOpF, fOpF2, if_pos c_1, if_pos c_3, if_pos c_10]
        rw [e9]
        exact W.iret (v := 35) hx hb hr (fun t ht hW => ⟨⟨35, (), rfl, rfl, by rw [ht]; exact hP, va_K.moved hW.alike hK, hD⟩, hS.F ht⟩) hS.2.2 dX1_openFile_37
      · -- not taken at 27: ¬ p0 = 0
        refine lv_iload_n hx hb dX1_openFile_30 rfl (lv_at hl 2 rfl) ?_
        refine lv_iconst (v := 2) hx hb dX1_openFile_31 (by decide) ?_
        refine lv_icmp_ne (tgt := 38) hx hb dX1_openFile_32 (by decide) (fun c_11 => ?_) (fun c_11 => ?_)
        · -- taken at 32: ¬ p0 = 2
          refine lv_iload_n hx hb dX1_openFile_38 rfl (lv_at hl 2 rfl) ?_
          refine lv_iconst (v := 1) hx hb dX1_openFile_39 (by decide) ?_
          refine lv_icmp_ne (tgt := 50) hx hb dX1_openFile_40 (by decide) (fun c_12 => ?_) (fun c_12 => ?_)
          · -- taken at 40: ¬ p0 = 1
            refine lv_aload_n hx hb dX1_openFile_50 rfl (lv_at hl 1 rfl) ?_
            refine lv_iconst (v := 1) hx hb dX1_openFile_51 (by decide) ?_
            refine va_put (D := (dC, dI)) (ci := 2) (v := .int 1) (ty := .boolean) (C := RX1) (T := TX1) (N := 9) hx hb hts (by decide +kernel) tyX1 tyX1_ok nmX1 hown hK hP hD hS 0 rfl rfl 2 (by decide) (hts (.fieldLink RX1 32 "RelativeFiles" "there" "Z") (by decide +kernel)) (fun _ h9 => h9) rfl (by decide +kernel) (by decide) (by decide) (Nat.le_of_ble_eq_true rfl) dX1_openFile_52 (fun H locs hP hD hS => ?_)
            have hP : va_P (dC, dI) vwCl [(oF, .inr (2, [.int mo, .ref oS, .int 1, .int om, .int 0, .int 0, .int 0, .long lv, .int (nI d)])), (oS, .inr (1, [.ref oA, .ref oB, .int (nI h)])), (oA, .inl (cA, n, .inl P)), (oB, .inl (cB, n, .inr (.inl V)))] H := hP
            have hD : va_D A [(oF, .inr (2, [.int mo, .ref oS, .int 1, .int om, .int 0, .int 0, .int 0, .long lv, .int (nI d)])), (oS, .inr (1, [.ref oA, .ref oB, .int (nI h)])), (oA, .inl (cA, n, .inl P)), (oB, .inl (cB, n, .inr (.inl V)))] := hD
            refine lv_aload_n hx hb dX1_openFile_55 rfl (lv_at hl 1 rfl) ?_
            refine lv_iload_n hx hb dX1_openFile_56 rfl (lv_at hl 2 rfl) ?_
            refine va_put (D := (dC, dI)) (ci := 2) (v := .int p0) (ty := .int) (C := RX1) (T := TX1) (N := 9) hx hb hts (by decide +kernel) tyX1 tyX1_ok nmX1 hown hK hP hD hS 0 rfl rfl 3 (by decide) (hts (.fieldLink RX1 36 "RelativeFiles" "openMode" "I") (by decide +kernel)) (fun _ h9 => h9) rfl (by decide +kernel) rfl rfl (Nat.le_of_ble_eq_true rfl) dX1_openFile_57 (fun H locs hP hD hS => ?_)
            have hP : va_P (dC, dI) vwCl [(oF, .inr (2, [.int mo, .ref oS, .int 1, .int p0, .int 0, .int 0, .int 0, .long lv, .int (nI d)])), (oS, .inr (1, [.ref oA, .ref oB, .int (nI h)])), (oA, .inl (cA, n, .inl P)), (oB, .inl (cB, n, .inr (.inl V)))] H := hP
            have hD : va_D A [(oF, .inr (2, [.int mo, .ref oS, .int 1, .int p0, .int 0, .int 0, .int 0, .long lv, .int (nI d)])), (oS, .inr (1, [.ref oA, .ref oB, .int (nI h)])), (oA, .inl (cA, n, .inl P)), (oB, .inl (cB, n, .inr (.inl V)))] := hD
            refine lv_iload_n hx hb dX1_openFile_60 rfl (lv_at hl 2 rfl) ?_
            refine lv_iconst (v := 3) hx hb dX1_openFile_61 (by decide) ?_
            refine lv_icmp_ne (tgt := 73) hx hb dX1_openFile_62 (by decide) (fun c_13 => ?_) (fun c_13 => ?_)
            · -- taken at 62: ¬ p0 = 3
              refine lv_iconst (v := 0) hx hb dX1_openFile_73 (by decide) ?_
              subst hQ9
              have e9 : fOpF p0 (th, om, sd, po, lr, lv, d, P, V, h) = (0, (1, p0, 0, 0, 0, lv, d, P, V, h)) := by simp only [fOpF, fOpF2, if_pos c_1, if_pos c_3, if_neg c_10, if_neg c_11, if_neg c_12, if_neg c_13]
              rw [e9]
              exact W.iret (v := 0) hx hb hr (fun t ht hW => ⟨⟨0, (), rfl, rfl, by rw [ht]; exact hP, va_K.moved hW.alike hK, hD⟩, hS.F ht⟩) hS.2.2 dX1_openFile_74
            · -- not taken at 62: p0 = 3
              refine lv_iload_n hx hb dX1_openFile_65 rfl (lv_at hl 0 rfl) ?_
              refine lv_if_ne (tgt := 73) hx hb dX1_openFile_66 (by decide) (fun c_14 => ?_) (fun c_14 => ?_)
              · -- taken at 66: ¬ th = 0
                exact absurd c_3 c_14
              · -- not taken at 66: th = 0
                refine lv_iconst (v := 5) hx hb dX1_openFile_69 (by decide) ?_
                refine lv_goto (tgt := 74) hx hb dX1_openFile_70 (by decide) ?_
                subst hQ9
                have e9 : fOpF p0 (th, om, sd, po, lr, lv, d, P, V, h) = (5, (1, p0, 0, 0, 0, lv, d, P, V, h)) := by simp only [fOpF, fOpF2, if_pos c_1, if_pos c_3, if_neg c_10, if_neg c_11, if_neg c_12, if_pos c_13]
                rw [e9]
                exact W.iret (v := 5) hx hb hr (fun t ht hW => ⟨⟨5, (), rfl, rfl, by rw [ht]; exact hP, va_K.moved hW.alike hK, hD⟩, hS.F ht⟩) hS.2.2 dX1_openFile_74
          · -- not taken at 40: p0 = 1
            refine lv_aload_n hx hb dX1_openFile_43 rfl (lv_at hl 1 rfl) ?_
            refine va_get (D := (dC, dI)) (ci := 2) (v := .ref oS) (C := RX1) (T := TX1) (N := 9) hx hb hts (by decide +kernel) hown hK hP 0 rfl rfl 1 (by decide) (hts (.fieldLink RX1 28 "RelativeFiles" "shelf" "LRelativeFiles$Shelf;") (by decide +kernel)) (fun _ h9 => h9) rfl dX1_openFile_44 ?_
            have hPc := hP.sub (ws' := [(oS, .inr (1, [.ref oA, .ref oB, .int (nI h)])), (oA, .inl (cA, n, .inl P)), (oB, .inl (cB, n, .inr (.inl V)))]) [1, 2, 3] rfl
            have hDc := hD.sub (ws' := [(oS, .inr (1, [.ref oA, .ref oB, .int (nI h)])), (oA, .inl (cA, n, .inl P)), (oB, .inl (cB, n, .inr (.inl V)))]) [1, 2, 3] (by decide) rfl
            have hKc := hK.sub (tys' := [(cA, .int), (cB, .long)]) [0, 1] rfl
            have hFc := va_free (wc := [(oS, .inr (1, [.ref oA, .ref oB, .int (nI h)])), (oA, .inl (cA, n, .inl P)), (oB, .inl (cB, n, .inr (.inl V)))]) hD hS hA [1, 2, 3] rfl
            refine va_callv (va_runV (As := []) (rest := []) ⟨hx, hb, hml, hown, hts⟩ (kX0_clear l dC dI oS oA oB cA cB n h P V  H.size hh hn) (cwV 0 hts gX1_openFile_X0_clear rfl rfl rfl (by decide +kernel) ⟨Nat.le_of_ble_eq_true rfl, Nat.le_of_ble_eq_true rfl⟩) ⟨fun a U g mk q => by obtain ⟨q0, q1, qP, qK, qD⟩ := q; exact ⟨q0, q1, qP, va_K.moved (u := U) (U := U.calling g mk a) (Vm.Alike.refl U.vm) qK, qD⟩, va_recv hKc hPc (ci := 1) (q0 := 0) rfl rfl, fun U hU hW => ⟨rfl, by rw [hU], by rw [hU]; exact hPc, va_K.moved hW.alike hKc, hDc.weaken (fun _ _ _ _ => trivial)⟩⟩ rfl rfl hl.1 rfl (lv_room (Nat.le_of_ble_eq_true rfl)) dX1_openFile_47 ⟨Nat.le_of_ble_eq_true rfl, Nat.le_of_ble_eq_true rfl⟩) hS (fun q _ h => hFc q h) hFc (fun u t H1 locs ht hvm hw hB hz1 hk1 hS => ?_)
            obtain ⟨hP1, hK1, hD1⟩ := hB
            rw [ht] at hP1
            have hK1 := va_K.moved hvm.symm hK1
            try dsimp only at hw
            obtain ⟨hP, hD⟩ := va_join (wr := [(oF, .inr (2, [.int mo, .ref oS, .int th, .int om, .int 0, .int 0, .int 0, .long lv, .int (nI d)]))]) (w1 := [(oS, .inr (1, [.ref oA, .ref oB, .int (nI 0)])), (oA, .inl (cA, n, .inl P)), (oB, .inl (cB, n, .inr (.inl V)))]) hP hD [1, 2, 3] [0] rfl rfl (by decide) (by decide) hk1 hFc hP1 hD1
            generalize H1 = H at hP hS ⊢
            have hP : va_P (dC, dI) vwCl [(oF, .inr (2, [.int mo, .ref oS, .int th, .int om, .int 0, .int 0, .int 0, .long lv, .int (nI d)])), (oS, .inr (1, [.ref oA, .ref oB, .int (nI 0)])), (oA, .inl (cA, n, .inl P)), (oB, .inl (cB, n, .inr (.inl V)))] H := hP.sub [0, 1, 2, 3] rfl
            have hD : va_D A [(oF, .inr (2, [.int mo, .ref oS, .int th, .int om, .int 0, .int 0, .int 0, .long lv, .int (nI d)])), (oS, .inr (1, [.ref oA, .ref oB, .int (nI 0)])), (oA, .inl (cA, n, .inl P)), (oB, .inl (cB, n, .inr (.inl V)))] := hD.sub [0, 1, 2, 3] (by decide) rfl
            have hK : va_K (dC, dI) vwCl [(cA, .int), (cB, .long)] s := hK
            refine lv_aload_n hx hb dX1_openFile_50 rfl (lv_at hl 1 rfl) ?_
            refine lv_iconst (v := 1) hx hb dX1_openFile_51 (by decide) ?_
            refine va_put (D := (dC, dI)) (ci := 2) (v := .int 1) (ty := .boolean) (C := RX1) (T := TX1) (N := 9) hx hb hts (by decide +kernel) tyX1 tyX1_ok nmX1 hown hK hP hD hS 0 rfl rfl 2 (by decide) (hts (.fieldLink RX1 32 "RelativeFiles" "there" "Z") (by decide +kernel)) (fun _ h9 => h9) rfl (by decide +kernel) (by decide) (by decide) (Nat.le_of_ble_eq_true rfl) dX1_openFile_52 (fun H locs hP hD hS => ?_)
            have hP : va_P (dC, dI) vwCl [(oF, .inr (2, [.int mo, .ref oS, .int 1, .int om, .int 0, .int 0, .int 0, .long lv, .int (nI d)])), (oS, .inr (1, [.ref oA, .ref oB, .int (nI 0)])), (oA, .inl (cA, n, .inl P)), (oB, .inl (cB, n, .inr (.inl V)))] H := hP
            have hD : va_D A [(oF, .inr (2, [.int mo, .ref oS, .int 1, .int om, .int 0, .int 0, .int 0, .long lv, .int (nI d)])), (oS, .inr (1, [.ref oA, .ref oB, .int (nI 0)])), (oA, .inl (cA, n, .inl P)), (oB, .inl (cB, n, .inr (.inl V)))] := hD
            refine lv_aload_n hx hb dX1_openFile_55 rfl (lv_at hl 1 rfl) ?_
            refine lv_iload_n hx hb dX1_openFile_56 rfl (lv_at hl 2 rfl) ?_
            refine va_put (D := (dC, dI)) (ci := 2) (v := .int p0) (ty := .int) (C := RX1) (T := TX1) (N := 9) hx hb hts (by decide +kernel) tyX1 tyX1_ok nmX1 hown hK hP hD hS 0 rfl rfl 3 (by decide) (hts (.fieldLink RX1 36 "RelativeFiles" "openMode" "I") (by decide +kernel)) (fun _ h9 => h9) rfl (by decide +kernel) rfl rfl (Nat.le_of_ble_eq_true rfl) dX1_openFile_57 (fun H locs hP hD hS => ?_)
            have hP : va_P (dC, dI) vwCl [(oF, .inr (2, [.int mo, .ref oS, .int 1, .int p0, .int 0, .int 0, .int 0, .long lv, .int (nI d)])), (oS, .inr (1, [.ref oA, .ref oB, .int (nI 0)])), (oA, .inl (cA, n, .inl P)), (oB, .inl (cB, n, .inr (.inl V)))] H := hP
            have hD : va_D A [(oF, .inr (2, [.int mo, .ref oS, .int 1, .int p0, .int 0, .int 0, .int 0, .long lv, .int (nI d)])), (oS, .inr (1, [.ref oA, .ref oB, .int (nI 0)])), (oA, .inl (cA, n, .inl P)), (oB, .inl (cB, n, .inr (.inl V)))] := hD
            refine lv_iload_n hx hb dX1_openFile_60 rfl (lv_at hl 2 rfl) ?_
            refine lv_iconst (v := 3) hx hb dX1_openFile_61 (by decide) ?_
            refine lv_icmp_ne (tgt := 73) hx hb dX1_openFile_62 (by decide) (fun c_16 => ?_) (fun c_16 => ?_)
            · -- taken at 62: ¬ p0 = 3
              refine lv_iconst (v := 0) hx hb dX1_openFile_73 (by decide) ?_
              subst hQ9
              have e9 : fOpF p0 (th, om, sd, po, lr, lv, d, P, V, h) = (0, (1, p0, 0, 0, 0, lv, d, P, V, 0)) := by simp only [fOpF, fOpF2, if_pos c_1, if_pos c_3, if_neg c_10, if_neg c_11, if_pos c_12, if_neg c_16]
              rw [e9]
              exact W.iret (v := 0) hx hb hr (fun t ht hW => ⟨⟨0, (), rfl, rfl, by rw [ht]; exact hP, va_K.moved hW.alike hK, hD⟩, hS.F ht⟩) hS.2.2 dX1_openFile_74
            · -- not taken at 62: p0 = 3
              refine lv_iload_n hx hb dX1_openFile_65 rfl (lv_at hl 0 rfl) ?_
              refine lv_if_ne (tgt := 73) hx hb dX1_openFile_66 (by decide) (fun c_17 => ?_) (fun c_17 => ?_)
              · -- taken at 66: ¬ th = 0
                exact absurd c_3 c_17
              · -- not taken at 66: th = 0
                refine lv_iconst (v := 5) hx hb dX1_openFile_69 (by decide) ?_
                refine lv_goto (tgt := 74) hx hb dX1_openFile_70 (by decide) ?_
                subst hQ9
                have e9 : fOpF p0 (th, om, sd, po, lr, lv, d, P, V, h) = (5, (1, p0, 0, 0, 0, lv, d, P, V, 0)) := by simp only [fOpF, fOpF2, if_pos c_1, if_pos c_3, if_neg c_10, if_neg c_11, if_pos c_12, if_pos c_16]
                rw [e9]
                exact W.iret (v := 5) hx hb hr (fun t ht hW => ⟨⟨5, (), rfl, rfl, by rw [ht]; exact hP, va_K.moved hW.alike hK, hD⟩, hS.F ht⟩) hS.2.2 dX1_openFile_74
        · -- not taken at 32: p0 = 2
          refine lv_bipush (v := 35) hx hb dX1_openFile_35 (by decide) ?_
          subst hQ9
          have e9 : fOpF p0 (th, om, sd, po, lr, lv, d, P, V, h) = (35, (th, om, 0, 0, 0, lv, d, P, V, h)) := by simp only [fOpF, fOpF2, if_pos c_1, if_pos c_3, if_neg c_10, if_pos c_11]
          rw [e9]
          exact W.iret (v := 35) hx hb hr (fun t ht hW => ⟨⟨35, (), rfl, rfl, by rw [ht]; exact hP, va_K.moved hW.alike hK, hD⟩, hS.F ht⟩) hS.2.2 dX1_openFile_37
  · -- not taken at 5: ¬ om = (-1)
    refine lv_bipush (v := 41) hx hb dX1_openFile_8 (by decide) ?_
    subst hQ9
    have e9 : fOpF p0 (th, om, sd, po, lr, lv, d, P, V, h) = (41, (th, om, sd, po, lr, lv, d, P, V, h)) := by simp only [fOpF, fOpF2, if_neg c_1]
    rw [e9]
    exact W.iret (v := 41) hx hb hr (fun t ht hW => ⟨⟨41, (), rfl, rfl, by rw [ht]; exact hP, va_K.moved hW.alike hK, hD⟩, hS.F ht⟩) hS.2.2 dX1_openFile_10
end
section
set_option maxHeartbeats 1000000 in
set_option maxRecDepth 100000 in
theorem kX1_open (l : Launch) (dC : Nat → ClassId) (dI : Nat → Nat → Nat) (oF oS oA oB : Nat) (cA cB : ClassId) (n h d : Nat) (mo th om sd po lr : Int32) (lv : Int64) (P : Nat → Int32) (V : Nat → Int64) (p0 : Int32) (sz : Nat) (hh : h ≤ n) (hn : n ≤ 512) : Met l yX1_open wsX1_open ({ frames := 2, cells := 0, slots := 0, locals := 44 }) (va_Pc [.ref oF, .int p0] (fun U => U.heap.size = sz ∧ va_P (dC, dI) vwCl [(oF, .inr (2, [.int mo, .ref oS, .int th, .int om, .int sd, .int po, .int lr, .long lv, .int (nI d)])), (oS, .inr (1, [.ref oA, .ref oB, .int (nI h)])), (oA, .inl (cA, n, .inl P)), (oB, .inl (cB, n, .inr (.inl V)))] U.heap ∧ va_K (dC, dI) vwCl [(cA, .int), (cB, .long)] U ∧ va_D (fun _ => True) [(oF, .inr (2, [.int mo, .ref oS, .int th, .int om, .int sd, .int po, .int lr, .long lv, .int (nI d)])), (oS, .inr (1, [.ref oA, .ref oB, .int (nI h)])), (oA, .inl (cA, n, .inl P)), (oB, .inl (cB, n, .inr (.inl V)))])) (va_Qi (fun (r : Int32) (_ : Unit) => r = (fOpen p0 (th, om, sd, po, lr, lv, d, P, V, h)).1) (fun (_ : Unit) (t : State) => va_P (dC, dI) vwCl (wF oF oS oA oB cA cB n mo (fOpen p0 (th, om, sd, po, lr, lv, d, P, V, h)).2) t.heap ∧ va_K (dC, dI) vwCl [(cA, .int), (cB, .long)] t ∧ va_D (va_A [(oF, .inr (2, [.int mo, .ref oS, .int th, .int om, .int sd, .int po, .int lr, .long lv, .int (nI d)])), (oS, .inr (1, [.ref oA, .ref oB, .int (nI h)])), (oA, .inl (cA, n, .inl P)), (oB, .inl (cB, n, .inr (.inl V)))] sz) (wF oF oS oA oB cA cB n mo (fOpen p0 (th, om, sd, po, lr, lv, d, P, V, h)).2)) (va_A [(oF, .inr (2, [.int mo, .ref oS, .int th, .int om, .int sd, .int po, .int lr, .long lv, .int (nI d)])), (oS, .inr (1, [.ref oA, .ref oB, .int (nI h)])), (oA, .inl (cA, n, .inl P)), (oB, .inl (cB, n, .inr (.inl V)))] sz)) 0 0 (va_A [(oF, .inr (2, [.int mo, .ref oS, .int th, .int om, .int sd, .int po, .int lr, .long lv, .int (nI d)])), (oS, .inr (1, [.ref oA, .ref oB, .int (nI h)])), (oA, .inl (cA, n, .inl P)), (oB, .inl (cB, n, .inr (.inl V)))] sz) := by
  refine Met.ofW (cc := cX1_open) (maxL := 2) (ret := (some .int)) (by decide) rfl ?_
  intro p e s m args below meth c s₁ B hml hv
  obtain ⟨rfl, hsz, hP, hK, hD0⟩ := hv
  have hx := B.exec
  have hb := B.bytes
  have hr := B.returns
  have hts := atoms_spec (ws := wsX1_open) B.pre
  have hown : s.vm.findClass RX1 = some m.cls := findClass_of_methodNamed B.named
  have hlocks := B.notSynchronized
  subst hsz
  have hD := hD0.self (sz := s.heap.size)
  generalize hAe : va_A [(oF, .inr (2, [.int mo, .ref oS, .int th, .int om, .int sd, .int po, .int lr, .long lv, .int (nI d)])), (oS, .inr (1, [.ref oA, .ref oB, .int (nI h)])), (oA, .inl (cA, n, .inl P)), (oB, .inl (cB, n, .inr (.inl V)))] s.heap.size = A at hD ⊢
  have hA : ∀ q : Nat, s.heap.size ≤ q → A q := fun q h => by rw [← hAe]; exact Or.inr h
  have hS : va_S A s.heap s.heap [] := va_S.rf
  have hP : va_P (dC, dI) vwCl [(oF, .inr (2, [.int mo, .ref oS, .int th, .int om, .int sd, .int po, .int lr, .long lv, .int (nI d)])), (oS, .inr (1, [.ref oA, .ref oB, .int (nI h)])), (oA, .inl (cA, n, .inl P)), (oB, .inl (cB, n, .inr (.inl V)))] s.heap := hP
  have hl := lv_entry ([.ref oF, .int p0]) (n := 2) (Nat.le_of_ble_eq_true rfl)
  rw [lg_entry_eq]
  generalize (lg_sl ([.ref oF, .int p0]) ++ List.replicate (2 - (lg_sl ([.ref oF, .int p0])).length) Slot.unset).toArray = ls at hl ⊢
  have hl : lv_has ls 2 [(0, .ref oF), (1, .int p0)] := hl
  refine W_name (fun Q hQ9 => ?_)
  refine lv_iload_n hx hb dX1_open_0 rfl (lv_at hl 1 rfl) ?_
  refine lv_if_lt (tgt := 9) hx hb dX1_open_1 (by decide) (fun c_1 => ?_) (fun c_1 => ?_)
  · -- taken at 1: p0 < 0
    refine lv_iconst (v := (-1)) hx hb dX1_open_9 (by decide) ?_
    subst hQ9
    have e9 : fOpen p0 (th, om, sd, po, lr, lv, d, P, V, h) = ((-1), (th, om, sd, po, lr, lv, d, P, V, h)) := by simp only [fOpen, if_pos c_1]
    rw [e9]
    exact W.iret (v := (-1)) hx hb hr (fun t ht hW => ⟨⟨(-1), (), rfl, rfl, by rw [ht]; exact hP, va_K.moved hW.alike hK, hD⟩, hS.F ht⟩) hS.2.2 dX1_open_10
  · -- not taken at 1: ¬ p0 < 0
    refine lv_iload_n hx hb dX1_open_4 rfl (lv_at hl 1 rfl) ?_
    refine lv_iconst (v := 4) hx hb dX1_open_5 (by decide) ?_
    refine lv_icmp_le (tgt := 11) hx hb dX1_open_6 (by decide) (fun c_2 => ?_) (fun c_2 => ?_)
    · -- taken at 6: p0 ≤ 4
      refine lv_iload_n hx hb dX1_open_11 rfl (lv_at hl 1 rfl) ?_
      refine lv_iconst (v := 4) hx hb dX1_open_12 (by decide) ?_
      refine lv_icmp_ne (tgt := 23) hx hb dX1_open_13 (by decide) (fun c_3 => ?_) (fun c_3 => ?_)
      · -- taken at 13: ¬ p0 = 4
        refine lv_aload_n hx hb dX1_open_23 rfl (lv_at hl 0 rfl) ?_
        refine lv_iload_n hx hb dX1_open_24 rfl (lv_at hl 1 rfl) ?_
        have hPc := hP.sub (ws' := [(oF, .inr (2, [.int mo, .ref oS, .int th, .int om, .int sd, .int po, .int lr, .long lv, .int (nI d)])), (oS, .inr (1, [.ref oA, .ref oB, .int (nI h)])), (oA, .inl (cA, n, .inl P)), (oB, .inl (cB, n, .inr (.inl V)))]) [0, 1, 2, 3] rfl
        have hDc := hD.sub (ws' := [(oF, .inr (2, [.int mo, .ref oS, .int th, .int om, .int sd, .int po, .int lr, .long lv, .int (nI d)])), (oS, .inr (1, [.ref oA, .ref oB, .int (nI h)])), (oA, .inl (cA, n, .inl P)), (oB, .inl (cB, n, .inr (.inl V)))]) [0, 1, 2, 3] (by decide) rfl
        have hKc := hK.sub (tys' := [(cA, .int), (cB, .long)]) [0, 1] rfl
        have hFc := va_free (wc := [(oF, .inr (2, [.int mo, .ref oS, .int th, .int om, .int sd, .int po, .int lr, .long lv, .int (nI d)])), (oS, .inr (1, [.ref oA, .ref oB, .int (nI h)])), (oA, .inl (cA, n, .inl P)), (oB, .inl (cB, n, .inr (.inl V)))]) hD hS hA [0, 1, 2, 3] rfl
        refine va_calli (va_runV (As := [.int p0]) (rest := []) ⟨hx, hb, hml, hown, hts⟩ (kX1_openFile l dC dI oF oS oA oB cA cB n h d mo th om sd po lr lv P V p0 s.heap.size hh hn) (cwV 1 hts gX1_open_X1_openFile rfl rfl rfl (by decide +kernel) ⟨Nat.le_of_ble_eq_true rfl, Nat.le_of_ble_eq_true rfl⟩) ⟨fun a U g mk q => by obtain ⟨q0, q1, qP, qK, qD⟩ := q; exact ⟨q0, q1, qP, va_K.moved (u := U) (U := U.calling g mk a) (Vm.Alike.refl U.vm) qK, qD⟩, va_recv hKc hPc (ci := 2) (q0 := 0) rfl rfl, fun U hU hW => ⟨rfl, by rw [hU], by rw [hU]; exact hPc, va_K.moved hW.alike hKc, hDc.weaken (fun _ _ _ _ => trivial)⟩⟩ rfl rfl hl.1 rfl (lv_room (Nat.le_of_ble_eq_true rfl)) dX1_open_25 ⟨Nat.le_of_ble_eq_true rfl, Nat.le_of_ble_eq_true rfl⟩) hS (fun q _ h => hFc q h) hFc (fun r_4 u t H1 locs ht hvm hw hB hz1 hk1 hS => ?_)
        obtain ⟨hP1, hK1, hD1⟩ := hB
        rw [ht] at hP1
        have hK1 := va_K.moved hvm.symm hK1
        try dsimp only at hw
        obtain ⟨hP, hD⟩ := va_join (wr := []) (w1 := (wF oF oS oA oB cA cB n mo (fOpF p0 (th, om, sd, po, lr, lv, d, P, V, h)).2)) hP hD [0, 1, 2, 3] [] rfl rfl (by decide) (by decide) hk1 hFc hP1 hD1
        generalize H1 = H at hP hS ⊢
        have hP : va_P (dC, dI) vwCl (wF oF oS oA oB cA cB n mo (fOpF p0 (th, om, sd, po, lr, lv, d, P, V, h)).2) H := hP
        have hD : va_D A (wF oF oS oA oB cA cB n mo (fOpF p0 (th, om, sd, po, lr, lv, d, P, V, h)).2) := hD
        subst hw
        subst hQ9
        have e9 : fOpen p0 (th, om, sd, po, lr, lv, d, P, V, h) = fOpF p0 (th, om, sd, po, lr, lv, d, P, V, h) := by simp only [fOpen, if_neg c_1, if_pos c_2, if_neg c_3]
        rw [e9]
        exact W.iret (v := (fOpF p0 (th, om, sd, po, lr, lv, d, P, V, h)).1) hx hb hr (fun t ht hW => ⟨⟨(fOpF p0 (th, om, sd, po, lr, lv, d, P, V, h)).1, (), rfl, rfl, by rw [ht]; exact hP, va_K.moved hW.alike hK, hD⟩, hS.F ht⟩) hS.2.2 dX1_open_28
      · -- not taken at 13: p0 = 4
        refine lv_aload_n hx hb dX1_open_16 rfl (lv_at hl 0 rfl) ?_
        have hPc := hP.sub (ws' := [(oF, .inr (2, [.int mo, .ref oS, .int th, .int om, .int sd, .int po, .int lr, .long lv, .int (nI d)])), (oS, .inr (1, [.ref oA, .ref oB, .int (nI h)])), (oA, .inl (cA, n, .inl P)), (oB, .inl (cB, n, .inr (.inl V)))]) [0, 1, 2, 3] rfl
        have hDc := hD.sub (ws' := [(oF, .inr (2, [.int mo, .ref oS, .int th, .int om, .int sd, .int po, .int lr, .long lv, .int (nI d)])), (oS, .inr (1, [.ref oA, .ref oB, .int (nI h)])), (oA, .inl (cA, n, .inl P)), (oB, .inl (cB, n, .inr (.inl V)))]) [0, 1, 2, 3] (by decide) rfl
        have hKc := hK.sub (tys' := [(cA, .int), (cB, .long)]) [0, 1] rfl
        have hFc := va_free (wc := [(oF, .inr (2, [.int mo, .ref oS, .int th, .int om, .int sd, .int po, .int lr, .long lv, .int (nI d)])), (oS, .inr (1, [.ref oA, .ref oB, .int (nI h)])), (oA, .inl (cA, n, .inl P)), (oB, .inl (cB, n, .inr (.inl V)))]) hD hS hA [0, 1, 2, 3] rfl
        refine va_calli (va_runV (As := []) (rest := []) ⟨hx, hb, hml, hown, hts⟩ (kX1_closeFile l dC dI oF oS oA oB cA cB n h d mo th om sd po lr lv P V  s.heap.size hh hn) (cwV 0 hts gX1_open_X1_closeFile rfl rfl rfl (by decide +kernel) ⟨Nat.le_of_ble_eq_true rfl, Nat.le_of_ble_eq_true rfl⟩) ⟨fun a U g mk q => by obtain ⟨q0, q1, qP, qK, qD⟩ := q; exact ⟨q0, q1, qP, va_K.moved (u := U) (U := U.calling g mk a) (Vm.Alike.refl U.vm) qK, qD⟩, va_recv hKc hPc (ci := 2) (q0 := 0) rfl rfl, fun U hU hW => ⟨rfl, by rw [hU], by rw [hU]; exact hPc, va_K.moved hW.alike hKc, hDc.weaken (fun _ _ _ _ => trivial)⟩⟩ rfl rfl hl.1 rfl (lv_room (Nat.le_of_ble_eq_true rfl)) dX1_open_17 ⟨Nat.le_of_ble_eq_true rfl, Nat.le_of_ble_eq_true rfl⟩) hS (fun q _ h => hFc q h) hFc (fun r_5 u t H1 locs ht hvm hw hB hz1 hk1 hS => ?_)
        obtain ⟨hP1, hK1, hD1⟩ := hB
        rw [ht] at hP1
        have hK1 := va_K.moved hvm.symm hK1
        try dsimp only at hw
        obtain ⟨hP, hD⟩ := va_join (wr := []) (w1 := (wF oF oS oA oB cA cB n mo (fClose (th, om, sd, po, lr, lv, d, P, V, h)).2)) hP hD [0, 1, 2, 3] [] rfl rfl (by decide) (by decide) hk1 hFc hP1 hD1
        generalize H1 = H at hP hS ⊢
        have hP : va_P (dC, dI) vwCl (wF oF oS oA oB cA cB n mo (fClose (th, om, sd, po, lr, lv, d, P, V, h)).2) H := hP
        have hD : va_D A (wF oF oS oA oB cA cB n mo (fClose (th, om, sd, po, lr, lv, d, P, V, h)).2) := hD
        subst hw
        refine lv_goto (tgt := 28) hx hb dX1_open_20 (by decide) ?_
        subst hQ9
        have e9 : fOpen p0 (th, om, sd, po, lr, lv, d, P, V, h) = fClose (th, om, sd, po, lr, lv, d, P, V, h) := by simp only [fOpen, if_neg c_1, if_pos c_2, if_pos c_3]
        rw [e9]
        exact W.iret (v := (fClose (th, om, sd, po, lr, lv, d, P, V, h)).1) hx hb hr (fun t ht hW => ⟨⟨(fClose (th, om, sd, po, lr, lv, d, P, V, h)).1, (), rfl, rfl, by rw [ht]; exact hP, va_K.moved hW.alike hK, hD⟩, hS.F ht⟩) hS.2.2 dX1_open_28
    · -- not taken at 6: ¬ p0 ≤ 4
      refine lv_iconst (v := (-1)) hx hb dX1_open_9 (by decide) ?_
      subst hQ9
      have e9 : fOpen p0 (th, om, sd, po, lr, lv, d, P, V, h) = ((-1), (th, om, sd, po, lr, lv, d, P, V, h)) := by simp only [fOpen, if_neg c_1, if_neg c_2]
      rw [e9]
      exact W.iret (v := (-1)) hx hb hr (fun t ht hW => ⟨⟨(-1), (), rfl, rfl, by rw [ht]; exact hP, va_K.moved hW.alike hK, hD⟩, hS.F ht⟩) hS.2.2 dX1_open_10

set_option maxHeartbeats 1000000 in
set_option maxRecDepth 100000 in
theorem kX1_write (l : Launch) (dC : Nat → ClassId) (dI : Nat → Nat → Nat) (oF oS oA oB : Nat) (cA cB : ClassId) (n h d : Nat) (mo th om sd po lr : Int32) (lv : Int64) (P : Nat → Int32) (V : Nat → Int64) (p0 : Int32) (p1 : Int64) (sz : Nat) (hh : h ≤ n) (hn : n ≤ 512) (hd : d ≤ 9) (hfree : ∀ x : Int32, isPl mo x → ¬ hasS P h x → h < n) : Met l yX1_write wsX1_write ({ frames := 3, cells := 0, slots := 0, locals := 61 }) (va_Pc [.ref oF, .int p0, .long p1] (fun U => U.heap.size = sz ∧ va_P (dC, dI) vwCl [(oF, .inr (2, [.int mo, .ref oS, .int th, .int om, .int sd, .int po, .int lr, .long lv, .int (nI d)])), (oS, .inr (1, [.ref oA, .ref oB, .int (nI h)])), (oA, .inl (cA, n, .inl P)), (oB, .inl (cB, n, .inr (.inl V)))] U.heap ∧ va_K (dC, dI) vwCl [(cA, .int), (cB, .long)] U ∧ va_D (fun _ => True) [(oF, .inr (2, [.int mo, .ref oS, .int th, .int om, .int sd, .int po, .int lr, .long lv, .int (nI d)])), (oS, .inr (1, [.ref oA, .ref oB, .int (nI h)])), (oA, .inl (cA, n, .inl P)), (oB, .inl (cB, n, .inr (.inl V)))])) (va_Qi (fun (r : Int32) (_ : Unit) => r = (fWrite mo p0 p1 (th, om, sd, po, lr, lv, d, P, V, h)).1) (fun (_ : Unit) (t : State) => va_P (dC, dI) vwCl (wF oF oS oA oB cA cB n mo (fWrite mo p0 p1 (th, om, sd, po, lr, lv, d, P, V, h)).2) t.heap ∧ va_K (dC, dI) vwCl [(cA, .int), (cB, .long)] t ∧ va_D (va_A [(oF, .inr (2, [.int mo, .ref oS, .int th, .int om, .int sd, .int po, .int lr, .long lv, .int (nI d)])), (oS, .inr (1, [.ref oA, .ref oB, .int (nI h)])), (oA, .inl (cA, n, .inl P)), (oB, .inl (cB, n, .inr (.inl V)))] sz) (wF oF oS oA oB cA cB n mo (fWrite mo p0 p1 (th, om, sd, po, lr, lv, d, P, V, h)).2)) (va_A [(oF, .inr (2, [.int mo, .ref oS, .int th, .int om, .int sd, .int po, .int lr, .long lv, .int (nI d)])), (oS, .inr (1, [.ref oA, .ref oB, .int (nI h)])), (oA, .inl (cA, n, .inl P)), (oB, .inl (cB, n, .inr (.inl V)))] sz)) 0 0 (va_A [(oF, .inr (2, [.int mo, .ref oS, .int th, .int om, .int sd, .int po, .int lr, .long lv, .int (nI d)])), (oS, .inr (1, [.ref oA, .ref oB, .int (nI h)])), (oA, .inl (cA, n, .inl P)), (oB, .inl (cB, n, .inr (.inl V)))] sz) := by
  refine Met.ofW (cc := cX1_write) (maxL := 5) (ret := (some .int)) (by decide) rfl ?_
  intro p e s m args below meth c s₁ B hml hv
  obtain ⟨rfl, hsz, hP, hK, hD0⟩ := hv
  have hx := B.exec
  have hb := B.bytes
  have hr := B.returns
  have hts := atoms_spec (ws := wsX1_write) B.pre
  have hown : s.vm.findClass RX1 = some m.cls := findClass_of_methodNamed B.named
  have hlocks := B.notSynchronized
  subst hsz
  have hD := hD0.self (sz := s.heap.size)
  generalize hAe : va_A [(oF, .inr (2, [.int mo, .ref oS, .int th, .int om, .int sd, .int po, .int lr, .long lv, .int (nI d)])), (oS, .inr (1, [.ref oA, .ref oB, .int (nI h)])), (oA, .inl (cA, n, .inl P)), (oB, .inl (cB, n, .inr (.inl V)))] s.heap.size = A at hD ⊢
  have hA : ∀ q : Nat, s.heap.size ≤ q → A q := fun q h => by rw [← hAe]; exact Or.inr h
  have hS : va_S A s.heap s.heap [] := va_S.rf
  have hP : va_P (dC, dI) vwCl [(oF, .inr (2, [.int mo, .ref oS, .int th, .int om, .int sd, .int po, .int lr, .long lv, .int (nI d)])), (oS, .inr (1, [.ref oA, .ref oB, .int (nI h)])), (oA, .inl (cA, n, .inl P)), (oB, .inl (cB, n, .inr (.inl V)))] s.heap := hP
  have hl := lv_entry ([.ref oF, .int p0, .long p1]) (n := 5) (Nat.le_of_ble_eq_true rfl)
  rw [lg_entry_eq]
  generalize (lg_sl ([.ref oF, .int p0, .long p1]) ++ List.replicate (5 - (lg_sl ([.ref oF, .int p0, .long p1])).length) Slot.unset).toArray = ls at hl ⊢
  have hl : lv_has ls 5 [(0, .ref oF), (1, .int p0), (2, .long p1)] := hl
  refine W_name (fun Q hQ9 => ?_)
  refine lv_aload_n hx hb dX1_write_0 rfl (lv_at hl 0 rfl) ?_
  refine va_get (D := (dC, dI)) (ci := 2) (v := .int om) (C := RX1) (T := TX1) (N := 9) hx hb hts (by decide +kernel) hown hK hP 0 rfl rfl 3 (by decide) (hts (.fieldLink RX1 36 "RelativeFiles" "openMode" "I") (by decide +kernel)) (fun _ h9 => h9) rfl dX1_write_1 ?_
  refine lv_iconst (v := (-1)) hx hb dX1_write_4 (by decide) ?_
  refine lv_icmp_ne (tgt := 11) hx hb dX1_write_5 (by decide) (fun c_1 => ?_) (fun c_1 => ?_)
  · -- taken at 5: ¬ om = (-1)
    refine lv_aload_n hx hb dX1_write_11 rfl (lv_at hl 0 rfl) ?_
    refine va_get (D := (dC, dI)) (ci := 2) (v := .int om) (C := RX1) (T := TX1) (N := 9) hx hb hts (by decide +kernel) hown hK hP 0 rfl rfl 3 (by decide) (hts (.fieldLink RX1 36 "RelativeFiles" "openMode" "I") (by decide +kernel)) (fun _ h9 => h9) rfl dX1_write_12 ?_
    refine lv_if_ne (tgt := 21) hx hb dX1_write_15 (by decide) (fun c_2 => ?_) (fun c_2 => ?_)
    · -- taken at 15: ¬ om = 0
      refine lv_aload_n hx hb dX1_write_21 rfl (lv_at hl 0 rfl) ?_
      refine lv_iconst (v := 0) hx hb dX1_write_22 (by decide) ?_
      refine va_put (D := (dC, dI)) (ci := 2) (v := .int 0) (ty := .int) (C := RX1) (T := TX1) (N := 9) hx hb hts (by decide +kernel) tyX1 tyX1_ok nmX1 hown hK hP hD hS 0 rfl rfl 6 (by decide) (hts (.fieldLink RX1 45 "RelativeFiles" "lastRead" "I") (by decide +kernel)) (fun _ h9 => h9) rfl (by decide +kernel) rfl rfl (Nat.le_of_ble_eq_true rfl) dX1_write_23 (fun H locs hP hD hS => ?_)
      have hP : va_P (dC, dI) vwCl [(oF, .inr (2, [.int mo, .ref oS, .int th, .int om, .int sd, .int po, .int 0, .long lv, .int (nI d)])), (oS, .inr (1, [.ref oA, .ref oB, .int (nI h)])), (oA, .inl (cA, n, .inl P)), (oB, .inl (cB, n, .inr (.inl V)))] H := hP
      have hD : va_D A [(oF, .inr (2, [.int mo, .ref oS, .int th, .int om, .int sd, .int po, .int 0, .long lv, .int (nI d)])), (oS, .inr (1, [.ref oA, .ref oB, .int (nI h)])), (oA, .inl (cA, n, .inl P)), (oB, .inl (cB, n, .inr (.inl V)))] := hD
      refine lv_iload_n hx hb dX1_write_26 rfl (lv_at hl 1 rfl) ?_
      refine lv_iconst (v := (-1)) hx hb dX1_write_27 (by decide) ?_
      refine lv_icmp_ne (tgt := 38) hx hb dX1_write_28 (by decide) (fun c_3 => ?_) (fun c_3 => ?_)
      · -- taken at 28: ¬ p0 = (-1)
        refine lv_iload_n hx hb dX1_write_38 rfl (lv_at hl 1 rfl) ?_
        refine lv_istore (lv' := [(4, .int p0), (0, .ref oF), (1, .int p0), (2, .long p1)]) hx hb dX1_write_39 hl (by decide) rfl (fun ls hl => ?_)
        refine lv_aload_n hx hb dX1_write_41 rfl (lv_at hl 1 rfl) ?_
        refine lv_iload hx hb dX1_write_42 (lv_at hl 0 rfl) ?_
        have hPc := hP.sub (ws' := [(oF, .inr (2, [.int mo, .ref oS, .int th, .int om, .int sd, .int po, .int 0, .long lv, .int (nI d)])), (oS, .inr (1, [.ref oA, .ref oB, .int (nI h)])), (oA, .inl (cA, n, .inl P)), (oB, .inl (cB, n, .inr (.inl V)))]) [0, 1, 2, 3] rfl
        have hDc := hD.sub (ws' := [(oF, .inr (2, [.int mo, .ref oS, .int th, .int om, .int sd, .int po, .int 0, .long lv, .int (nI d)])), (oS, .inr (1, [.ref oA, .ref oB, .int (nI h)])), (oA, .inl (cA, n, .inl P)), (oB, .inl (cB, n, .inr (.inl V)))]) [0, 1, 2, 3] (by decide) rfl
        have hKc := hK.sub (tys' := [(cA, .int), (cB, .long)]) [0, 1] rfl
        have hFc := va_free (wc := [(oF, .inr (2, [.int mo, .ref oS, .int th, .int om, .int sd, .int po, .int 0, .long lv, .int (nI d)])), (oS, .inr (1, [.ref oA, .ref oB, .int (nI h)])), (oA, .inl (cA, n, .inl P)), (oB, .inl (cB, n, .inr (.inl V)))]) hD hS hA [0, 1, 2, 3] rfl
        refine va_calli (va_runV (As := [.int p0]) (rest := []) ⟨hx, hb, hml, hown, hts⟩ (kX1_isPlace l dC dI oF oS oA oB cA cB n h d mo th om sd po 0 lv P V p0 H.size hh hn) (cwV 1 hts gX1_write_X1_isPlace rfl rfl rfl (by decide +kernel) ⟨Nat.le_of_ble_eq_true rfl, Nat.le_of_ble_eq_true rfl⟩) ⟨fun a U g mk q => by obtain ⟨q0, q1, qP, qK, qD⟩ := q; exact ⟨q0, q1, qP, va_K.moved (u := U) (U := U.calling g mk a) (Vm.Alike.refl U.vm) qK, qD⟩, va_recv hKc hPc (ci := 2) (q0 := 0) rfl rfl, fun U hU hW => ⟨rfl, by rw [hU], by rw [hU]; exact hPc, va_K.moved hW.alike hKc, hDc.weaken (fun _ _ _ _ => trivial)⟩⟩ rfl rfl hl.1 rfl (lv_room (Nat.le_of_ble_eq_true rfl)) dX1_write_44 ⟨Nat.le_of_ble_eq_true rfl, Nat.le_of_ble_eq_true rfl⟩) hS (fun q _ h => hFc q h) hFc (fun r_4 u t H1 locs ht hvm hw hB hz1 hk1 hS => ?_)
        obtain ⟨hP1, hK1, hD1⟩ := hB
        rw [ht] at hP1
        have hK1 := va_K.moved hvm.symm hK1
        try dsimp only at hw
        obtain ⟨hP, hD⟩ := va_join (wr := []) (w1 := [(oF, .inr (2, [.int mo, .ref oS, .int th, .int om, .int sd, .int po, .int 0, .long lv, .int (nI d)])), (oS, .inr (1, [.ref oA, .ref oB, .int (nI h)])), (oA, .inl (cA, n, .inl P)), (oB, .inl (cB, n, .inr (.inl V)))]) hP hD [0, 1, 2, 3] [] rfl rfl (by decide) (by decide) hk1 hFc hP1 hD1
        generalize H1 = H at hP hS ⊢
        have hP : va_P (dC, dI) vwCl [(oF, .inr (2, [.int mo, .ref oS, .int th, .int om, .int sd, .int po, .int 0, .long lv, .int (nI d)])), (oS, .inr (1, [.ref oA, .ref oB, .int (nI h)])), (oA, .inl (cA, n, .inl P)), (oB, .inl (cB, n, .inr (.inl V)))] H := hP.sub [0, 1, 2, 3] rfl
        have hD : va_D A [(oF, .inr (2, [.int mo, .ref oS, .int th, .int om, .int sd, .int po, .int 0, .long lv, .int (nI d)])), (oS, .inr (1, [.ref oA, .ref oB, .int (nI h)])), (oA, .inl (cA, n, .inl P)), (oB, .inl (cB, n, .inr (.inl V)))] := hD.sub [0, 1, 2, 3] (by decide) rfl
        have hK : va_K (dC, dI) vwCl [(cA, .int), (cB, .long)] s := hK
        rcases hw with ⟨b_5, hw⟩ | ⟨b_5, hw⟩
        · -- isPl mo p0
          subst hw
          refine lv_if_eq (tgt := 59) hx hb dX1_write_47 (by decide) (fun c_6 => ?_) (fun c_6 => ?_)
          · -- taken at 47: 1 = 0
            exact absurd c_6 (by decide)
          · -- not taken at 47: ¬ 1 = 0
            refine lv_aload_n hx hb dX1_write_50 rfl (lv_at hl 1 rfl) ?_
            refine lv_iload hx hb dX1_write_51 (lv_at hl 0 rfl) ?_
            have hPc := hP.sub (ws' := [(oF, .inr (2, [.int mo, .ref oS, .int th, .int om, .int sd, .int po, .int 0, .long lv, .int (nI d)])), (oS, .inr (1, [.ref oA, .ref oB, .int (nI h)])), (oA, .inl (cA, n, .inl P)), (oB, .inl (cB, n, .inr (.inl V)))]) [0, 1, 2, 3] rfl
            have hDc := hD.sub (ws' := [(oF, .inr (2, [.int mo, .ref oS, .int th, .int om, .int sd, .int po, .int 0, .long lv, .int (nI d)])), (oS, .inr (1, [.ref oA, .ref oB, .int (nI h)])), (oA, .inl (cA, n, .inl P)), (oB, .inl (cB, n, .inr (.inl V)))]) [0, 1, 2, 3] (by decide) rfl
            have hKc := hK.sub (tys' := [(cA, .int), (cB, .long)]) [0, 1] rfl
            have hFc := va_free (wc := [(oF, .inr (2, [.int mo, .ref oS, .int th, .int om, .int sd, .int po, .int 0, .long lv, .int (nI d)])), (oS, .inr (1, [.ref oA, .ref oB, .int (nI h)])), (oA, .inl (cA, n, .inl P)), (oB, .inl (cB, n, .inr (.inl V)))]) hD hS hA [0, 1, 2, 3] rfl
            refine va_calli (va_runV (As := [.int p0]) (rest := []) ⟨hx, hb, hml, hown, hts⟩ (kX1_isTooLong l dC dI oF oS oA oB cA cB n h d mo th om sd po 0 lv P V p0 H.size hh hn hd) (cwV 1 hts gX1_write_X1_isTooLong rfl rfl rfl (by decide +kernel) ⟨Nat.le_of_ble_eq_true rfl, Nat.le_of_ble_eq_true rfl⟩) ⟨fun a U g mk q => by obtain ⟨q0, q1, qP, qK, qD⟩ := q; exact ⟨q0, q1, qP, va_K.moved (u := U) (U := U.calling g mk a) (Vm.Alike.refl U.vm) qK, qD⟩, va_recv hKc hPc (ci := 2) (q0 := 0) rfl rfl, fun U hU hW => ⟨rfl, by rw [hU], by rw [hU]; exact hPc, va_K.moved hW.alike hKc, hDc.weaken (fun _ _ _ _ => trivial)⟩⟩ rfl rfl hl.1 rfl (lv_room (Nat.le_of_ble_eq_true rfl)) dX1_write_53 ⟨Nat.le_of_ble_eq_true rfl, Nat.le_of_ble_eq_true rfl⟩) hS (fun q _ h => hFc q h) hFc (fun r_7 u t H1 locs ht hvm hw hB hz1 hk1 hS => ?_)
            obtain ⟨hP1, hK1, hD1⟩ := hB
            rw [ht] at hP1
            have hK1 := va_K.moved hvm.symm hK1
            try dsimp only at hw
            obtain ⟨hP, hD⟩ := va_join (wr := []) (w1 := [(oF, .inr (2, [.int mo, .ref oS, .int th, .int om, .int sd, .int po, .int 0, .long lv, .int (nI d)])), (oS, .inr (1, [.ref oA, .ref oB, .int (nI h)])), (oA, .inl (cA, n, .inl P)), (oB, .inl (cB, n, .inr (.inl V)))]) hP hD [0, 1, 2, 3] [] rfl rfl (by decide) (by decide) hk1 hFc hP1 hD1
            generalize H1 = H at hP hS ⊢
            have hP : va_P (dC, dI) vwCl [(oF, .inr (2, [.int mo, .ref oS, .int th, .int om, .int sd, .int po, .int 0, .long lv, .int (nI d)])), (oS, .inr (1, [.ref oA, .ref oB, .int (nI h)])), (oA, .inl (cA, n, .inl P)), (oB, .inl (cB, n, .inr (.inl V)))] H := hP.sub [0, 1, 2, 3] rfl
            have hD : va_D A [(oF, .inr (2, [.int mo, .ref oS, .int th, .int om, .int sd, .int po, .int 0, .long lv, .int (nI d)])), (oS, .inr (1, [.ref oA, .ref oB, .int (nI h)])), (oA, .inl (cA, n, .inl P)), (oB, .inl (cB, n, .inr (.inl V)))] := hD.sub [0, 1, 2, 3] (by decide) rfl
            have hK : va_K (dC, dI) vwCl [(cA, .int), (cB, .long)] s := hK
            rcases hw with ⟨b_8, hw⟩ | ⟨b_8, hw⟩
            · -- tooL p0 d
              subst hw
              refine lv_if_eq (tgt := 62) hx hb dX1_write_56 (by decide) (fun c_9 => ?_) (fun c_9 => ?_)
              · -- taken at 56: 1 = 0
                exact absurd c_9 (by decide)
              · -- not taken at 56: ¬ 1 = 0
                refine lv_bipush (v := 24) hx hb dX1_write_59 (by decide) ?_
                subst hQ9
                have e9 : fWrite mo p0 p1 (th, om, sd, po, lr, lv, d, P, V, h) = (24, (th, om, sd, po, 0, lv, d, P, V, h)) := by simp only [fWrite, fWr2, if_neg c_1, if_neg c_2, if_neg c_3, if_pos b_5, if_pos b_8]
                rw [e9]
                exact W.iret (v := 24) hx hb hr (fun t ht hW => ⟨⟨24, (), rfl, rfl, by rw [ht]; exact hP, va_K.moved hW.alike hK, hD⟩, hS.F ht⟩) hS.2.2 dX1_write_61
            · -- ¬ (tooL p0 d)
              subst hw
              refine lv_if_eq (tgt := 62) hx hb dX1_write_56 (by decide) (fun c_10 => ?_) (fun c_10 => ?_)
              · -- taken at 56: 0 = 0
                refine lv_aload_n hx hb dX1_write_62 rfl (lv_at hl 1 rfl) ?_
                refine va_get (D := (dC, dI)) (ci := 2) (v := .ref oS) (C := RX1) (T := TX1) (N := 9) hx hb hts (by decide +kernel) hown hK hP 0 rfl rfl 1 (by decide) (hts (.fieldLink RX1 28 "RelativeFiles" "shelf" "LRelativeFiles$Shelf;") (by decide +kernel)) (fun _ h9 => h9) rfl dX1_write_63 ?_
                refine lv_iload hx hb dX1_write_66 (lv_at hl 0 rfl) ?_
                have hPc := hP.sub (ws' := [(oS, .inr (1, [.ref oA, .ref oB, .int (nI h)])), (oA, .inl (cA, n, .inl P)), (oB, .inl (cB, n, .inr (.inl V)))]) [1, 2, 3] rfl
                have hDc := hD.sub (ws' := [(oS, .inr (1, [.ref oA, .ref oB, .int (nI h)])), (oA, .inl (cA, n, .inl P)), (oB, .inl (cB, n, .inr (.inl V)))]) [1, 2, 3] (by decide) rfl
                have hKc := hK.sub (tys' := [(cA, .int), (cB, .long)]) [0, 1] rfl
                have hFc := va_free (wc := [(oS, .inr (1, [.ref oA, .ref oB, .int (nI h)])), (oA, .inl (cA, n, .inl P)), (oB, .inl (cB, n, .inr (.inl V)))]) hD hS hA [1, 2, 3] rfl
                refine va_calli (va_runV (As := [.int p0]) (rest := []) ⟨hx, hb, hml, hown, hts⟩ (kX0_has l dC dI oS oA oB cA cB n h P V p0 H.size hh hn) (cwV 1 hts gX1_write_X0_has rfl rfl rfl (by decide +kernel) ⟨Nat.le_of_ble_eq_true rfl, Nat.le_of_ble_eq_true rfl⟩) ⟨fun a U g mk q => by obtain ⟨q0, q1, qP, qK, qD⟩ := q; exact ⟨q0, q1, qP, va_K.moved (u := U) (U := U.calling g mk a) (Vm.Alike.refl U.vm) qK, qD⟩, va_recv hKc hPc (ci := 1) (q0 := 0) rfl rfl, fun U hU hW => ⟨rfl, by rw [hU], by rw [hU]; exact hPc, va_K.moved hW.alike hKc, hDc.weaken (fun _ _ _ _ => trivial)⟩⟩ rfl rfl hl.1 rfl (lv_room (Nat.le_of_ble_eq_true rfl)) dX1_write_68 ⟨Nat.le_of_ble_eq_true rfl, Nat.le_of_ble_eq_true rfl⟩) hS (fun q _ h => hFc q h) hFc (fun r_11 u t H1 locs ht hvm hw hB hz1 hk1 hS => ?_)
                obtain ⟨hP1, hK1, hD1⟩ := hB
                rw [ht] at hP1
                have hK1 := va_K.moved hvm.symm hK1
                try dsimp only at hw
                obtain ⟨hP, hD⟩ := va_join (wr := [(oF, .inr (2, [.int mo, .ref oS, .int th, .int om, .int sd, .int po, .int 0, .long lv, .int (nI d)]))]) (w1 := [(oS, .inr (1, [.ref oA, .ref oB, .int (nI h)])), (oA, .inl (cA, n, .inl P)), (oB, .inl (cB, n, .inr (.inl V)))]) hP hD [1, 2, 3] [0] rfl rfl (by decide) (by decide) hk1 hFc hP1 hD1
                generalize H1 = H at hP hS ⊢
                have hP : va_P (dC, dI) vwCl [(oF, .inr (2, [.int mo, .ref oS, .int th, .int om, .int sd, .int po, .int 0, .long lv, .int (nI d)])), (oS, .inr (1, [.ref oA, .ref oB, .int (nI h)])), (oA, .inl (cA, n, .inl P)), (oB, .inl (cB, n, .inr (.inl V)))] H := hP.sub [0, 1, 2, 3] rfl
                have hD : va_D A [(oF, .inr (2, [.int mo, .ref oS, .int th, .int om, .int sd, .int po, .int 0, .long lv, .int (nI d)])), (oS, .inr (1, [.ref oA, .ref oB, .int (nI h)])), (oA, .inl (cA, n, .inl P)), (oB, .inl (cB, n, .inr (.inl V)))] := hD.sub [0, 1, 2, 3] (by decide) rfl
                have hK : va_K (dC, dI) vwCl [(cA, .int), (cB, .long)] s := hK
                rcases hw with ⟨b_12, hw⟩ | ⟨b_12, hw⟩
                · -- hasS P h p0
                  subst hw
                  refine lv_if_eq (tgt := 77) hx hb dX1_write_71 (by decide) (fun c_13 => ?_) (fun c_13 => ?_)
                  · -- taken at 71: 1 = 0
                    exact absurd c_13 (by decide)
                  · -- not taken at 71: ¬ 1 = 0
                    refine lv_bipush (v := 22) hx hb dX1_write_74 (by decide) ?_
                    subst hQ9
                    have e9 : fWrite mo p0 p1 (th, om, sd, po, lr, lv, d, P, V, h) = (22, (th, om, sd, po, 0, lv, d, P, V, h)) := by simp only [fWrite, fWr2, if_neg c_1, if_neg c_2, if_neg c_3, if_pos b_5, if_neg b_8, if_pos b_12]
                    rw [e9]
                    exact W.iret (v := 22) hx hb hr (fun t ht hW => ⟨⟨22, (), rfl, rfl, by rw [ht]; exact hP, va_K.moved hW.alike hK, hD⟩, hS.F ht⟩) hS.2.2 dX1_write_76
                · -- ¬ (hasS P h p0)
                  subst hw
                  refine lv_if_eq (tgt := 77) hx hb dX1_write_71 (by decide) (fun c_14 => ?_) (fun c_14 => ?_)
                  · -- taken at 71: 0 = 0
                    refine lv_aload_n hx hb dX1_write_77 rfl (lv_at hl 1 rfl) ?_
                    refine va_get (D := (dC, dI)) (ci := 2) (v := .ref oS) (C := RX1) (T := TX1) (N := 9) hx hb hts (by decide +kernel) hown hK hP 0 rfl rfl 1 (by decide) (hts (.fieldLink RX1 28 "RelativeFiles" "shelf" "LRelativeFiles$Shelf;") (by decide +kernel)) (fun _ h9 => h9) rfl dX1_write_78 ?_
                    refine lv_iload hx hb dX1_write_81 (lv_at hl 0 rfl) ?_
                    refine lv_lload_n hx hb dX1_write_83 rfl (lv_at hl 3 rfl) ?_
                    have hlt : h < n := hfree _ b_5 b_12
                    have hPc := hP.sub (ws' := [(oS, .inr (1, [.ref oA, .ref oB, .int (nI h)])), (oA, .inl (cA, n, .inl P)), (oB, .inl (cB, n, .inr (.inl V)))]) [1, 2, 3] rfl
                    have hDc := hD.sub (ws' := [(oS, .inr (1, [.ref oA, .ref oB, .int (nI h)])), (oA, .inl (cA, n, .inl P)), (oB, .inl (cB, n, .inr (.inl V)))]) [1, 2, 3] (by decide) rfl
                    have hKc := hK.sub (tys' := [(cA, .int), (cB, .long)]) [0, 1] rfl
                    have hFc := va_free (wc := [(oS, .inr (1, [.ref oA, .ref oB, .int (nI h)])), (oA, .inl (cA, n, .inl P)), (oB, .inl (cB, n, .inr (.inl V)))]) hD hS hA [1, 2, 3] rfl
                    refine va_calli (va_runV (As := [.int p0, .long p1]) (rest := []) ⟨hx, hb, hml, hown, hts⟩ (kX0_add l dC dI oS oA oB cA cB n h P V p0 p1 H.size hh hn hlt) (cwV 2 hts gX1_write_X0_add rfl rfl rfl (by decide +kernel) ⟨Nat.le_of_ble_eq_true rfl, Nat.le_of_ble_eq_true rfl⟩) ⟨fun a U g mk q => by obtain ⟨q0, q1, qP, qK, qD⟩ := q; exact ⟨q0, q1, qP, va_K.moved (u := U) (U := U.calling g mk a) (Vm.Alike.refl U.vm) qK, qD⟩, va_recv hKc hPc (ci := 1) (q0 := 0) rfl rfl, fun U hU hW => ⟨rfl, by rw [hU], by rw [hU]; exact hPc, va_K.moved hW.alike hKc, hDc.weaken (fun _ _ _ _ => trivial)⟩⟩ rfl rfl hl.1 rfl (lv_room (Nat.le_of_ble_eq_true rfl)) dX1_write_84 ⟨Nat.le_of_ble_eq_true rfl, Nat.le_of_ble_eq_true rfl⟩) hS (fun q _ h => hFc q h) hFc (fun r_15 u t H1 locs ht hvm hw hB hz1 hk1 hS => ?_)
                    obtain ⟨hP1, hK1, hD1⟩ := hB
                    rw [ht] at hP1
                    have hK1 := va_K.moved hvm.symm hK1
                    try dsimp only at hw
                    obtain ⟨hP, hD⟩ := va_join (wr := [(oF, .inr (2, [.int mo, .ref oS, .int th, .int om, .int sd, .int po, .int 0, .long lv, .int (nI d)]))]) (w1 := [(oS, .inr (1, [.ref oA, .ref oB, .int (nI (h + 1))])), (oA, .inl (cA, n, .inl (insA P (rk P p0 h) p0 h))), (oB, .inl (cB, n, .inr (.inl (insA V (rk P p0 h) p1 h))))]) hP hD [1, 2, 3] [0] rfl rfl (by decide) (by decide) hk1 hFc hP1 hD1
                    generalize H1 = H at hP hS ⊢
                    have hP : va_P (dC, dI) vwCl [(oF, .inr (2, [.int mo, .ref oS, .int th, .int om, .int sd, .int po, .int 0, .long lv, .int (nI d)])), (oS, .inr (1, [.ref oA, .ref oB, .int (nI (h + 1))])), (oA, .inl (cA, n, .inl (insA P (rk P p0 h) p0 h))), (oB, .inl (cB, n, .inr (.inl (insA V (rk P p0 h) p1 h))))] H := hP.sub [0, 1, 2, 3] rfl
                    have hD : va_D A [(oF, .inr (2, [.int mo, .ref oS, .int th, .int om, .int sd, .int po, .int 0, .long lv, .int (nI d)])), (oS, .inr (1, [.ref oA, .ref oB, .int (nI (h + 1))])), (oA, .inl (cA, n, .inl (insA P (rk P p0 h) p0 h))), (oB, .inl (cB, n, .inr (.inl (insA V (rk P p0 h) p1 h))))] := hD.sub [0, 1, 2, 3] (by decide) rfl
                    have hK : va_K (dC, dI) vwCl [(cA, .int), (cB, .long)] s := hK
                    subst hw
                    refine lv_if_ne (tgt := 93) hx hb dX1_write_87 (by decide) (fun c_16 => ?_) (fun c_16 => ?_)
                    · -- taken at 87: ¬ 1 = 0
                      refine lv_aload_n hx hb dX1_write_93 rfl (lv_at hl 1 rfl) ?_
                      refine lv_lload_n hx hb dX1_write_94 rfl (lv_at hl 3 rfl) ?_
                      refine va_put (D := (dC, dI)) (ci := 2) (v := .long p1) (ty := .long) (C := RX1) (T := TX1) (N := 9) hx hb hts (by decide +kernel) tyX1 tyX1_ok nmX1 hown hK hP hD hS 0 rfl rfl 7 (by decide) (hts (.fieldLink RX1 48 "RelativeFiles" "lastValue" "J") (by decide +kernel)) (fun _ h9 => h9) rfl (by decide +kernel) rfl rfl (Nat.le_of_ble_eq_true rfl) dX1_write_95 (fun H locs hP hD hS => ?_)
                      have hP : va_P (dC, dI) vwCl [(oF, .inr (2, [.int mo, .ref oS, .int th, .int om, .int sd, .int po, .int 0, .long p1, .int (nI d)])), (oS, .inr (1, [.ref oA, .ref oB, .int (nI (h + 1))])), (oA, .inl (cA, n, .inl (insA P (rk P p0 h) p0 h))), (oB, .inl (cB, n, .inr (.inl (insA V (rk P p0 h) p1 h))))] H := hP
                      have hD : va_D A [(oF, .inr (2, [.int mo, .ref oS, .int th, .int om, .int sd, .int po, .int 0, .long p1, .int (nI d)])), (oS, .inr (1, [.ref oA, .ref oB, .int (nI (h + 1))])), (oA, .inl (cA, n, .inl (insA P (rk P p0 h) p0 h))), (oB, .inl (cB, n, .inr (.inl (insA V (rk P p0 h) p1 h))))] := hD
                      refine lv_iconst (v := 0) hx hb dX1_write_98 (by decide) ?_
                      subst hQ9
                      have e9 : fWrite mo p0 p1 (th, om, sd, po, lr, lv, d, P, V, h) = (0, (th, om, sd, po, 0, p1, d, insA P (rk P p0 h) p0 h, insA V (rk P p0 h) p1 h, (h + 1))) := by simp only [fWrite, fWr2, if_neg c_1, if_neg c_2, if_neg c_3, if_pos b_5, if_neg b_8, if_neg b_12]
                      rw [e9]
                      exact W.iret (v := 0) hx hb hr (fun t ht hW => ⟨⟨0, (), rfl, rfl, by rw [ht]; exact hP, va_K.moved hW.alike hK, hD⟩, hS.F ht⟩) hS.2.2 dX1_write_99
                    · -- not taken at 87: 1 = 0
                      exact absurd c_16 (by decide)
                  · -- not taken at 71: ¬ 0 = 0
                    exact absurd c_14 (by decide)
              · -- not taken at 56: ¬ 0 = 0
                exact absurd c_10 (by decide)
        · -- ¬ (isPl mo p0)
          subst hw
          refine lv_if_eq (tgt := 59) hx hb dX1_write_47 (by decide) (fun c_17 => ?_) (fun c_17 => ?_)
          · -- taken at 47: 0 = 0
            refine lv_bipush (v := 24) hx hb dX1_write_59 (by decide) ?_
            subst hQ9
            have e9 : fWrite mo p0 p1 (th, om, sd, po, lr, lv, d, P, V, h) = (24, (th, om, sd, po, 0, lv, d, P, V, h)) := by simp only [fWrite, fWr2, if_neg c_1, if_neg c_2, if_neg c_3, if_neg b_5]
            rw [e9]
            exact W.iret (v := 24) hx hb hr (fun t ht hW => ⟨⟨24, (), rfl, rfl, by rw [ht]; exact hP, va_K.moved hW.alike hK, hD⟩, hS.F ht⟩) hS.2.2 dX1_write_61
          · -- not taken at 47: ¬ 0 = 0
            exact absurd c_17 (by decide)
      · -- not taken at 28: p0 = (-1)
        refine lv_aload_n hx hb dX1_write_31 rfl (lv_at hl 0 rfl) ?_
        have hPc := hP.sub (ws' := [(oF, .inr (2, [.int mo, .ref oS, .int th, .int om, .int sd, .int po, .int 0, .long lv, .int (nI d)])), (oS, .inr (1, [.ref oA, .ref oB, .int (nI h)])), (oA, .inl (cA, n, .inl P)), (oB, .inl (cB, n, .inr (.inl V)))]) [0, 1, 2, 3] rfl
        have hDc := hD.sub (ws' := [(oF, .inr (2, [.int mo, .ref oS, .int th, .int om, .int sd, .int po, .int 0, .long lv, .int (nI d)])), (oS, .inr (1, [.ref oA, .ref oB, .int (nI h)])), (oA, .inl (cA, n, .inl P)), (oB, .inl (cB, n, .inr (.inl V)))]) [0, 1, 2, 3] (by decide) rfl
        have hKc := hK.sub (tys' := [(cA, .int), (cB, .long)]) [0, 1] rfl
        have hFc := va_free (wc := [(oF, .inr (2, [.int mo, .ref oS, .int th, .int om, .int sd, .int po, .int 0, .long lv, .int (nI d)])), (oS, .inr (1, [.ref oA, .ref oB, .int (nI h)])), (oA, .inl (cA, n, .inl P)), (oB, .inl (cB, n, .inr (.inl V)))]) hD hS hA [0, 1, 2, 3] rfl
        refine va_calli (va_runV (As := []) (rest := []) ⟨hx, hb, hml, hown, hts⟩ (kX1_placeInOrder l dC dI oF oS oA oB cA cB n h d mo th om sd po 0 lv P V  H.size hh hn) (cwV 0 hts gX1_write_X1_placeInOrder rfl rfl rfl (by decide +kernel) ⟨Nat.le_of_ble_eq_true rfl, Nat.le_of_ble_eq_true rfl⟩) ⟨fun a U g mk q => by obtain ⟨q0, q1, qP, qK, qD⟩ := q; exact ⟨q0, q1, qP, va_K.moved (u := U) (U := U.calling g mk a) (Vm.Alike.refl U.vm) qK, qD⟩, va_recv hKc hPc (ci := 2) (q0 := 0) rfl rfl, fun U hU hW => ⟨rfl, by rw [hU], by rw [hU]; exact hPc, va_K.moved hW.alike hKc, hDc.weaken (fun _ _ _ _ => trivial)⟩⟩ rfl rfl hl.1 rfl (lv_room (Nat.le_of_ble_eq_true rfl)) dX1_write_32 ⟨Nat.le_of_ble_eq_true rfl, Nat.le_of_ble_eq_true rfl⟩) hS (fun q _ h => hFc q h) hFc (fun r_18 u t H1 locs ht hvm hw hB hz1 hk1 hS => ?_)
        obtain ⟨hP1, hK1, hD1⟩ := hB
        rw [ht] at hP1
        have hK1 := va_K.moved hvm.symm hK1
        try dsimp only at hw
        obtain ⟨hP, hD⟩ := va_join (wr := []) (w1 := [(oF, .inr (2, [.int mo, .ref oS, .int th, .int om, .int sd, .int po, .int 0, .long lv, .int (nI d)])), (oS, .inr (1, [.ref oA, .ref oB, .int (nI h)])), (oA, .inl (cA, n, .inl P)), (oB, .inl (cB, n, .inr (.inl V)))]) hP hD [0, 1, 2, 3] [] rfl rfl (by decide) (by decide) hk1 hFc hP1 hD1
        generalize H1 = H at hP hS ⊢
        have hP : va_P (dC, dI) vwCl [(oF, .inr (2, [.int mo, .ref oS, .int th, .int om, .int sd, .int po, .int 0, .long lv, .int (nI d)])), (oS, .inr (1, [.ref oA, .ref oB, .int (nI h)])), (oA, .inl (cA, n, .inl P)), (oB, .inl (cB, n, .inr (.inl V)))] H := hP.sub [0, 1, 2, 3] rfl
        have hD : va_D A [(oF, .inr (2, [.int mo, .ref oS, .int th, .int om, .int sd, .int po, .int 0, .long lv, .int (nI d)])), (oS, .inr (1, [.ref oA, .ref oB, .int (nI h)])), (oA, .inl (cA, n, .inl P)), (oB, .inl (cB, n, .inr (.inl V)))] := hD.sub [0, 1, 2, 3] (by decide) rfl
        have hK : va_K (dC, dI) vwCl [(cA, .int), (cB, .long)] s := hK
        subst hw
        refine lv_goto (tgt := 39) hx hb dX1_write_35 (by decide) ?_
        refine lv_istore (lv' := [(4, .int (fPO om P h)), (0, .ref oF), (1, .int p0), (2, .long p1)]) hx hb dX1_write_39 hl (by decide) rfl (fun ls hl => ?_)
        refine lv_aload_n hx hb dX1_write_41 rfl (lv_at hl 1 rfl) ?_
        refine lv_iload hx hb dX1_write_42 (lv_at hl 0 rfl) ?_
        have hPc := hP.sub (ws' := [(oF, .inr (2, [.int mo, .ref oS, .int th, .int om, .int sd, .int po, .int 0, .long lv, .int (nI d)])), (oS, .inr (1, [.ref oA, .ref oB, .int (nI h)])), (oA, .inl (cA, n, .inl P)), (oB, .inl (cB, n, .inr (.inl V)))]) [0, 1, 2, 3] rfl
        have hDc := hD.sub (ws' := [(oF, .inr (2, [.int mo, .ref oS, .int th, .int om, .int sd, .int po, .int 0, .long lv, .int (nI d)])), (oS, .inr (1, [.ref oA, .ref oB, .int (nI h)])), (oA, .inl (cA, n, .inl P)), (oB, .inl (cB, n, .inr (.inl V)))]) [0, 1, 2, 3] (by decide) rfl
        have hKc := hK.sub (tys' := [(cA, .int), (cB, .long)]) [0, 1] rfl
        have hFc := va_free (wc := [(oF, .inr (2, [.int mo, .ref oS, .int th, .int om, .int sd, .int po, .int 0, .long lv, .int (nI d)])), (oS, .inr (1, [.ref oA, .ref oB, .int (nI h)])), (oA, .inl (cA, n, .inl P)), (oB, .inl (cB, n, .inr (.inl V)))]) hD hS hA [0, 1, 2, 3] rfl
        refine va_calli (va_runV (As := [.int (fPO om P h)]) (rest := []) ⟨hx, hb, hml, hown, hts⟩ (kX1_isPlace l dC dI oF oS oA oB cA cB n h d mo th om sd po 0 lv P V (fPO om P h) H.size hh hn) (cwV 1 hts gX1_write_X1_isPlace rfl rfl rfl (by decide +kernel) ⟨Nat.le_of_ble_eq_true rfl, Nat.le_of_ble_eq_true rfl⟩) ⟨fun a U g mk q => by obtain ⟨q0, q1, qP, qK, qD⟩ := q; exact ⟨q0, q1, qP, va_K.moved (u := U) (U := U.calling g mk a) (Vm.Alike.refl U.vm) qK, qD⟩, va_recv hKc hPc (ci := 2) (q0 := 0) rfl rfl, fun U hU hW => ⟨rfl, by rw [hU], by rw [hU]; exact hPc, va_K.moved hW.alike hKc, hDc.weaken (fun _ _ _ _ => trivial)⟩⟩ rfl rfl hl.1 rfl (lv_room (Nat.le_of_ble_eq_true rfl)) dX1_write_44 ⟨Nat.le_of_ble_eq_true rfl, Nat.le_of_ble_eq_true rfl⟩) hS (fun q _ h => hFc q h) hFc (fun r_19 u t H1 locs ht hvm hw hB hz1 hk1 hS => ?_)
        obtain ⟨hP1, hK1, hD1⟩ := hB
        rw [ht] at hP1
        have hK1 := va_K.moved hvm.symm hK1
        try dsimp only at hw
        obtain ⟨hP, hD⟩ := va_join (wr := []) (w1 := [(oF, .inr (2, [.int mo, .ref oS, .int th, .int om, .int sd, .int po, .int 0, .long lv, .int (nI d)])), (oS, .inr (1, [.ref oA, .ref oB, .int (nI h)])), (oA, .inl (cA, n, .inl P)), (oB, .inl (cB, n, .inr (.inl V)))]) hP hD [0, 1, 2, 3] [] rfl rfl (by decide) (by decide) hk1 hFc hP1 hD1
        generalize H1 = H at hP hS ⊢
        have hP : va_P (dC, dI) vwCl [(oF, .inr (2, [.int mo, .ref oS, .int th, .int om, .int sd, .int po, .int 0, .long lv, .int (nI d)])), (oS, .inr (1, [.ref oA, .ref oB, .int (nI h)])), (oA, .inl (cA, n, .inl P)), (oB, .inl (cB, n, .inr (.inl V)))] H := hP.sub [0, 1, 2, 3] rfl
        have hD : va_D A [(oF, .inr (2, [.int mo, .ref oS, .int th, .int om, .int sd, .int po, .int 0, .long lv, .int (nI d)])), (oS, .inr (1, [.ref oA, .ref oB, .int (nI h)])), (oA, .inl (cA, n, .inl P)), (oB, .inl (cB, n, .inr (.inl V)))] := hD.sub [0, 1, 2, 3] (by decide) rfl
        have hK : va_K (dC, dI) vwCl [(cA, .int), (cB, .long)] s := hK
        rcases hw with ⟨b_20, hw⟩ | ⟨b_20, hw⟩
        · -- isPl mo (fPO om P h)
          subst hw
          refine lv_if_eq (tgt := 59) hx hb dX1_write_47 (by decide) (fun c_21 => ?_) (fun c_21 => ?_)
          · -- taken at 47: 1 = 0
            exact absurd c_21 (by decide)
          · -- not taken at 47: ¬ 1 = 0
            refine lv_aload_n hx hb dX1_write_50 rfl (lv_at hl 1 rfl) ?_
            refine lv_iload hx hb dX1_write_51 (lv_at hl 0 rfl) ?_
            have hPc := hP.sub (ws' := [(oF, .inr (2, [.int mo, .ref oS, .int th, .int om, .int sd, .int po, .int 0, .long lv, .int (nI d)])), (oS, .inr (1, [.ref oA, .ref oB, .int (nI h)])), (oA, .inl (cA, n, .inl P)), (oB, .inl (cB, n, .inr (.inl V)))]) [0, 1, 2, 3] rfl
            have hDc := hD.sub (ws' := [(oF, .inr (2, [.int mo, .ref oS, .int th, .int om, .int sd, .int po, .int 0, .long lv, .int (nI d)])), (oS, .inr (1, [.ref oA, .ref oB, .int (nI h)])), (oA, .inl (cA, n, .inl P)), (oB, .inl (cB, n, .inr (.inl V)))]) [0, 1, 2, 3] (by decide) rfl
            have hKc := hK.sub (tys' := [(cA, .int), (cB, .long)]) [0, 1] rfl
            have hFc := va_free (wc := [(oF, .inr (2, [.int mo, .ref oS, .int th, .int om, .int sd, .int po, .int 0, .long lv, .int (nI d)])), (oS, .inr (1, [.ref oA, .ref oB, .int (nI h)])), (oA, .inl (cA, n, .inl P)), (oB, .inl (cB, n, .inr (.inl V)))]) hD hS hA [0, 1, 2, 3] rfl
            refine va_calli (va_runV (As := [.int (fPO om P h)]) (rest := []) ⟨hx, hb, hml, hown, hts⟩ (kX1_isTooLong l dC dI oF oS oA oB cA cB n h d mo th om sd po 0 lv P V (fPO om P h) H.size hh hn hd) (cwV 1 hts gX1_write_X1_isTooLong rfl rfl rfl (by decide +kernel) ⟨Nat.le_of_ble_eq_true rfl, Nat.le_of_ble_eq_true rfl⟩) ⟨fun a U g mk q => by obtain ⟨q0, q1, qP, qK, qD⟩ := q; exact ⟨q0, q1, qP, va_K.moved (u := U) (U := U.calling g mk a) (Vm.Alike.refl U.vm) qK, qD⟩, va_recv hKc hPc (ci := 2) (q0 := 0) rfl rfl, fun U hU hW => ⟨rfl, by rw [hU], by rw [hU]; exact hPc, va_K.moved hW.alike hKc, hDc.weaken (fun _ _ _ _ => trivial)⟩⟩ rfl rfl hl.1 rfl (lv_room (Nat.le_of_ble_eq_true rfl)) dX1_write_53 ⟨Nat.le_of_ble_eq_true rfl, Nat.le_of_ble_eq_true rfl⟩) hS (fun q _ h => hFc q h) hFc (fun r_22 u t H1 locs ht hvm hw hB hz1 hk1 hS => ?_)
            obtain ⟨hP1, hK1, hD1⟩ := hB
            rw [ht] at hP1
            have hK1 := va_K.moved hvm.symm hK1
            try dsimp only at hw
            obtain ⟨hP, hD⟩ := va_join (wr := []) (w1 := [(oF, .inr (2, [.int mo, .ref oS, .int th, .int om, .int sd, .int po, .int 0, .long lv, .int (nI d)])), (oS, .inr (1, [.ref oA, .ref oB, .int (nI h)])), (oA, .inl (cA, n, .inl P)), (oB, .inl (cB, n, .inr (.inl V)))]) hP hD [0, 1, 2, 3] [] rfl rfl (by decide) (by decide) hk1 hFc hP1 hD1
            generalize H1 = H at hP hS ⊢
            have hP : va_P (dC, dI) vwCl [(oF, .inr (2, [.int mo, .ref oS, .int th, .int om, .int sd, .int po, .int 0, .long lv, .int (nI d)])), (oS, .inr (1, [.ref oA, .ref oB, .int (nI h)])), (oA, .inl (cA, n, .inl P)), (oB, .inl (cB, n, .inr (.inl V)))] H := hP.sub [0, 1, 2, 3] rfl
            have hD : va_D A [(oF, .inr (2, [.int mo, .ref oS, .int th, .int om, .int sd, .int po, .int 0, .long lv, .int (nI d)])), (oS, .inr (1, [.ref oA, .ref oB, .int (nI h)])), (oA, .inl (cA, n, .inl P)), (oB, .inl (cB, n, .inr (.inl V)))] := hD.sub [0, 1, 2, 3] (by decide) rfl
            have hK : va_K (dC, dI) vwCl [(cA, .int), (cB, .long)] s := hK
            rcases hw with ⟨b_23, hw⟩ | ⟨b_23, hw⟩
            · -- tooL (fPO om P h) d
              subst hw
              refine lv_if_eq (tgt := 62) hx hb dX1_write_56 (by decide) (fun c_24 => ?_) (fun c_24 => ?_)
              · -- taken at 56: 1 = 0
                exact absurd c_24 (by decide)
              · -- not taken at 56: ¬ 1 = 0
                refine lv_bipush (v := 24) hx hb dX1_write_59 (by decide) ?_
                subst hQ9
                have e9 : fWrite mo p0 p1 (th, om, sd, po, lr, lv, d, P, V, h) = (24, (th, om, sd, po, 0, lv, d, P, V, h)) := by simp only [fWrite, fWr2, if_neg c_1, if_neg c_2, if_pos c_3, if_pos b_20, if_pos b_23]
                rw [e9]
                exact W.iret (v := 24) hx hb hr (fun t ht hW => ⟨⟨24, (), rfl, rfl, by rw [ht]; exact hP, va_K.moved hW.alike hK, hD⟩, hS.F ht⟩) hS.2.2 dX1_write_61
            · -- ¬ (tooL (fPO om P h) d)
              subst hw
              refine lv_if_eq (tgt := 62) hx hb dX1_write_56 (by decide) (fun c_25 => ?_) (fun c_25 => ?_)
              · -- taken at 56: 0 = 0
                refine lv_aload_n hx hb dX1_write_62 rfl (lv_at hl 1 rfl) ?_
                refine va_get (D := (dC, dI)) (ci := 2) (v := .ref oS) (C := RX1) (T := TX1) (N := 9) hx hb hts (by decide +kernel) hown hK hP 0 rfl rfl 1 (by decide) (hts (.fieldLink RX1 28 "RelativeFiles" "shelf" "LRelativeFiles$Shelf;") (by decide +kernel)) (fun _ h9 => h9) rfl dX1_write_63 ?_
                refine lv_iload hx hb dX1_write_66 (lv_at hl 0 rfl) ?_
                have hPc := hP.sub (ws' := [(oS, .inr (1, [.ref oA, .ref oB, .int (nI h)])), (oA, .inl (cA, n, .inl P)), (oB, .inl (cB, n, .inr (.inl V)))]) [1, 2, 3] rfl
                have hDc := hD.sub (ws' := [(oS, .inr (1, [.ref oA, .ref oB, .int (nI h)])), (oA, .inl (cA, n, .inl P)), (oB, .inl (cB, n, .inr (.inl V)))]) [1, 2, 3] (by decide) rfl
                have hKc := hK.sub (tys' := [(cA, .int), (cB, .long)]) [0, 1] rfl
                have hFc := va_free (wc := [(oS, .inr (1, [.ref oA, .ref oB, .int (nI h)])), (oA, .inl (cA, n, .inl P)), (oB, .inl (cB, n, .inr (.inl V)))]) hD hS hA [1, 2, 3] rfl
                refine va_calli (va_runV (As := [.int (fPO om P h)]) (rest := []) ⟨hx, hb, hml, hown, hts⟩ (kX0_has l dC dI oS oA oB cA cB n h P V (fPO om P h) H.size hh hn) (cwV 1 hts gX1_write_X0_has rfl rfl rfl (by decide +kernel) ⟨Nat.le_of_ble_eq_true rfl, Nat.le_of_ble_eq_true rfl⟩) ⟨fun a U g mk q => by obtain ⟨q0, q1, qP, qK, qD⟩ := q; exact ⟨q0, q1, qP, va_K.moved (u := U) (U := U.calling g mk a) (Vm.Alike.refl U.vm) qK, qD⟩, va_recv hKc hPc (ci := 1) (q0 := 0) rfl rfl, fun U hU hW => ⟨rfl, by rw [hU], by rw [hU]; exact hPc, va_K.moved hW.alike hKc, hDc.weaken (fun _ _ _ _ => trivial)⟩⟩ rfl rfl hl.1 rfl (lv_room (Nat.le_of_ble_eq_true rfl)) dX1_write_68 ⟨Nat.le_of_ble_eq_true rfl, Nat.le_of_ble_eq_true rfl⟩) hS (fun q _ h => hFc q h) hFc (fun r_26 u t H1 locs ht hvm hw hB hz1 hk1 hS => ?_)
                obtain ⟨hP1, hK1, hD1⟩ := hB
                rw [ht] at hP1
                have hK1 := va_K.moved hvm.symm hK1
                try dsimp only at hw
                obtain ⟨hP, hD⟩ := va_join (wr := [(oF, .inr (2, [.int mo, .ref oS, .int th, .int om, .int sd, .int po, .int 0, .long lv, .int (nI d)]))]) (w1 := [(oS, .inr (1, [.ref oA, .ref oB, .int (nI h)])), (oA, .inl (cA, n, .inl P)), (oB, .inl (cB, n, .inr (.inl V)))]) hP hD [1, 2, 3] [0] rfl rfl (by decide) (by decide) hk1 hFc hP1 hD1
                generalize H1 = H at hP hS ⊢
                have hP : va_P (dC, dI) vwCl [(oF, .inr (2, [.int mo, .ref oS, .int th, .int om, .int sd, .int po, .int 0, .long lv, .int (nI d)])), (oS, .inr (1, [.ref oA, .ref oB, .int (nI h)])), (oA, .inl (cA, n, .inl P)), (oB, .inl (cB, n, .inr (.inl V)))] H := hP.sub [0, 1, 2, 3] rfl
                have hD : va_D A [(oF, .inr (2, [.int mo, .ref oS, .int th, .int om, .int sd, .int po, .int 0, .long lv, .int (nI d)])), (oS, .inr (1, [.ref oA, .ref oB, .int (nI h)])), (oA, .inl (cA, n, .inl P)), (oB, .inl (cB, n, .inr (.inl V)))] := hD.sub [0, 1, 2, 3] (by decide) rfl
                have hK : va_K (dC, dI) vwCl [(cA, .int), (cB, .long)] s := hK
                rcases hw with ⟨b_27, hw⟩ | ⟨b_27, hw⟩
                · -- hasS P h (fPO om P h)
                  subst hw
                  refine lv_if_eq (tgt := 77) hx hb dX1_write_71 (by decide) (fun c_28 => ?_) (fun c_28 => ?_)
                  · -- taken at 71: 1 = 0
                    exact absurd c_28 (by decide)
                  · -- not taken at 71: ¬ 1 = 0
                    refine lv_bipush (v := 22) hx hb dX1_write_74 (by decide) ?_
                    subst hQ9
                    have e9 : fWrite mo p0 p1 (th, om, sd, po, lr, lv, d, P, V, h) = (22, (th, om, sd, po, 0, lv, d, P, V, h)) := by simp only [fWrite, fWr2, if_neg c_1, if_neg c_2, if_pos c_3, if_pos b_20, if_neg b_23, if_pos b_27]
                    rw [e9]
                    exact W.iret (v := 22) hx hb hr (fun t ht hW => ⟨⟨22, (), rfl, rfl, by rw [ht]; exact hP, va_K.moved hW.alike hK, hD⟩, hS.F ht⟩) hS.2.2 dX1_write_76
                · -- ¬ (hasS P h (fPO om P h))
                  subst hw
                  refine lv_if_eq (tgt := 77) hx hb dX1_write_71 (by decide) (fun c_29 => ?_) (fun c_29 => ?_)
                  · -- taken at 71: 0 = 0
                    refine lv_aload_n hx hb dX1_write_77 rfl (lv_at hl 1 rfl) ?_
                    refine va_get (D := (dC, dI)) (ci := 2) (v := .ref oS) (C := RX1) (T := TX1) (N := 9) hx hb hts (by decide +kernel) hown hK hP 0 rfl rfl 1 (by decide) (hts (.fieldLink RX1 28 "RelativeFiles" "shelf" "LRelativeFiles$Shelf;") (by decide +kernel)) (fun _ h9 => h9) rfl dX1_write_78 ?_
                    refine lv_iload hx hb dX1_write_81 (lv_at hl 0 rfl) ?_
                    refine lv_lload_n hx hb dX1_write_83 rfl (lv_at hl 3 rfl) ?_
                    have hlt : h < n := hfree _ b_20 b_27
                    have hPc := hP.sub (ws' := [(oS, .inr (1, [.ref oA, .ref oB, .int (nI h)])), (oA, .inl (cA, n, .inl P)), (oB, .inl (cB, n, .inr (.inl V)))]) [1, 2, 3] rfl
                    have hDc := hD.sub (ws' := [(oS, .inr (1, [.ref oA, .ref oB, .int (nI h)])), (oA, .inl (cA, n, .inl P)), (oB, .inl (cB, n, .inr (.inl V)))]) [1, 2, 3] (by decide) rfl
                    have hKc := hK.sub (tys' := [(cA, .int), (cB, .long)]) [0, 1] rfl
                    have hFc := va_free (wc := [(oS, .inr (1, [.ref oA, .ref oB, .int (nI h)])), (oA, .inl (cA, n, .inl P)), (oB, .inl (cB, n, .inr (.inl V)))]) hD hS hA [1, 2, 3] rfl
                    refine va_calli (va_runV (As := [.int (fPO om P h), .long p1]) (rest := []) ⟨hx, hb, hml, hown, hts⟩ (kX0_add l dC dI oS oA oB cA cB n h P V (fPO om P h) p1 H.size hh hn hlt) (cwV 2 hts gX1_write_X0_add rfl rfl rfl (by decide +kernel) ⟨Nat.le_of_ble_eq_true rfl, Nat.le_of_ble_eq_true rfl⟩) ⟨fun a U g mk q => by obtain ⟨q0, q1, qP, qK, qD⟩ := q; exact ⟨q0, q1, qP, va_K.moved (u := U) (U := U.calling g mk a) (Vm.Alike.refl U.vm) qK, qD⟩, va_recv hKc hPc (ci := 1) (q0 := 0) rfl rfl, fun U hU hW => ⟨rfl, by rw [hU], by rw [hU]; exact hPc, va_K.moved hW.alike hKc, hDc.weaken (fun _ _ _ _ => trivial)⟩⟩ rfl rfl hl.1 rfl (lv_room (Nat.le_of_ble_eq_true rfl)) dX1_write_84 ⟨Nat.le_of_ble_eq_true rfl, Nat.le_of_ble_eq_true rfl⟩) hS (fun q _ h => hFc q h) hFc (fun r_30 u t H1 locs ht hvm hw hB hz1 hk1 hS => ?_)
                    obtain ⟨hP1, hK1, hD1⟩ := hB
                    rw [ht] at hP1
                    have hK1 := va_K.moved hvm.symm hK1
                    try dsimp only at hw
                    obtain ⟨hP, hD⟩ := va_join (wr := [(oF, .inr (2, [.int mo, .ref oS, .int th, .int om, .int sd, .int po, .int 0, .long lv, .int (nI d)]))]) (w1 := [(oS, .inr (1, [.ref oA, .ref oB, .int (nI (h + 1))])), (oA, .inl (cA, n, .inl (insA P (rk P (fPO om P h) h) (fPO om P h) h))), (oB, .inl (cB, n, .inr (.inl (insA V (rk P (fPO om P h) h) p1 h))))]) hP hD [1, 2, 3] [0] rfl rfl (by decide) (by decide) hk1 hFc hP1 hD1
                    generalize H1 = H at hP hS ⊢
                    have hP : va_P (dC, dI) vwCl [(oF, .inr (2, [.int mo, .ref oS, .int th, .int om, .int sd, .int po, .int 0, .long lv, .int (nI d)])), (oS, .inr (1, [.ref oA, .ref oB, .int (nI (h + 1))])), (oA, .inl (cA, n, .inl (insA P (rk P (fPO om P h) h) (fPO om P h) h))), (oB, .inl (cB, n, .inr (.inl (insA V (rk P (fPO om P h) h) p1 h))))] H := hP.sub [0, 1, 2, 3] rfl
                    have hD : va_D A [(oF, .inr (2, [.int mo, .ref oS, .int th, .int om, .int sd, .int po, .int 0, .long lv, .int (nI d)])), (oS, .inr (1, [.ref oA, .ref oB, .int (nI (h + 1))])), (oA, .inl (cA, n, .inl (insA P (rk P (fPO om P h) h) (fPO om P h) h))), (oB, .inl (cB, n, .inr (.inl (insA V (rk P (fPO om P h) h) p1 h))))] := hD.sub [0, 1, 2, 3] (by decide) rfl
                    have hK : va_K (dC, dI) vwCl [(cA, .int), (cB, .long)] s := hK
                    subst hw
                    refine lv_if_ne (tgt := 93) hx hb dX1_write_87 (by decide) (fun c_31 => ?_) (fun c_31 => ?_)
                    · -- taken at 87: ¬ 1 = 0
                      refine lv_aload_n hx hb dX1_write_93 rfl (lv_at hl 1 rfl) ?_
                      refine lv_lload_n hx hb dX1_write_94 rfl (lv_at hl 3 rfl) ?_
                      refine va_put (D := (dC, dI)) (ci := 2) (v := .long p1) (ty := .long) (C := RX1) (T := TX1) (N := 9) hx hb hts (by decide +kernel) tyX1 tyX1_ok nmX1 hown hK hP hD hS 0 rfl rfl 7 (by decide) (hts (.fieldLink RX1 48 "RelativeFiles" "lastValue" "J") (by decide +kernel)) (fun _ h9 => h9) rfl (by decide +kernel) rfl rfl (Nat.le_of_ble_eq_true rfl) dX1_write_95 (fun H locs hP hD hS => ?_)
                      have hP : va_P (dC, dI) vwCl [(oF, .inr (2, [.int mo, .ref oS, .int th, .int om, .int sd, .int po, .int 0, .long p1, .int (nI d)])), (oS, .inr (1, [.ref oA, .ref oB, .int (nI (h + 1))])), (oA, .inl (cA, n, .inl (insA P (rk P (fPO om P h) h) (fPO om P h) h))), (oB, .inl (cB, n, .inr (.inl (insA V (rk P (fPO om P h) h) p1 h))))] H := hP
                      have hD : va_D A [(oF, .inr (2, [.int mo, .ref oS, .int th, .int om, .int sd, .int po, .int 0, .long p1, .int (nI d)])), (oS, .inr (1, [.ref oA, .ref oB, .int (nI (h + 1))])), (oA, .inl (cA, n, .inl (insA P (rk P (fPO om P h) h) (fPO om P h) h))), (oB, .inl (cB, n, .inr (.inl (insA V (rk P (fPO om P h) h) p1 h))))] := hD
                      refine lv_iconst (v := 0) hx hb dX1_write_98 (by decide) ?_
                      subst hQ9
                      have e9 : fWrite mo p0 p1 (th, om, sd, po, lr, lv, d, P, V, h) = (0, (th, om, sd, po, 0, p1, d, insA P (rk P (fPO om P h) h) (fPO om P h) h, insA V (rk P (fPO om P h) h) p1 h, (h + 1))) := by simp only [fWrite, fWr2, if_neg c_1, if_neg c_2, if_pos c_3, if_pos b_20, if_neg b_23, if_neg b_27]
                      rw [e9]
                      exact W.iret (v := 0) hx hb hr (fun t ht hW => ⟨⟨0, (), rfl, rfl, by rw [ht]; exact hP, va_K.moved hW.alike hK, hD⟩, hS.F ht⟩) hS.2.2 dX1_write_99
                    · -- not taken at 87: 1 = 0
                      exact absurd c_31 (by decide)
                  · -- not taken at 71: ¬ 0 = 0
                    exact absurd c_29 (by decide)
              · -- not taken at 56: ¬ 0 = 0
                exact absurd c_25 (by decide)
        · -- ¬ (isPl mo (fPO om P h))
          subst hw
          refine lv_if_eq (tgt := 59) hx hb dX1_write_47 (by decide) (fun c_32 => ?_) (fun c_32 => ?_)
          · -- taken at 47: 0 = 0
            refine lv_bipush (v := 24) hx hb dX1_write_59 (by decide) ?_
            subst hQ9
            have e9 : fWrite mo p0 p1 (th, om, sd, po, lr, lv, d, P, V, h) = (24, (th, om, sd, po, 0, lv, d, P, V, h)) := by simp only [fWrite, fWr2, if_neg c_1, if_neg c_2, if_pos c_3, if_neg b_20]
            rw [e9]
            exact W.iret (v := 24) hx hb hr (fun t ht hW => ⟨⟨24, (), rfl, rfl, by rw [ht]; exact hP, va_K.moved hW.alike hK, hD⟩, hS.F ht⟩) hS.2.2 dX1_write_61
          · -- not taken at 47: ¬ 0 = 0
            exact absurd c_32 (by decide)
    · -- not taken at 15: om = 0
      refine lv_bipush (v := 48) hx hb dX1_write_18 (by decide) ?_
      subst hQ9
      have e9 : fWrite mo p0 p1 (th, om, sd, po, lr, lv, d, P, V, h) = (48, (th, om, sd, po, lr, lv, d, P, V, h)) := by simp only [fWrite, fWr2, if_neg c_1, if_pos c_2]
      rw [e9]
      exact W.iret (v := 48) hx hb hr (fun t ht hW => ⟨⟨48, (), rfl, rfl, by rw [ht]; exact hP, va_K.moved hW.alike hK, hD⟩, hS.F ht⟩) hS.2.2 dX1_write_20
  · -- not taken at 5: om = (-1)
    refine lv_bipush (v := 42) hx hb dX1_write_8 (by decide) ?_
    subst hQ9
    have e9 : fWrite mo p0 p1 (th, om, sd, po, lr, lv, d, P, V, h) = (42, (th, om, sd, po, lr, lv, d, P, V, h)) := by simp only [fWrite, fWr2, if_pos c_1]
    rw [e9]
    exact W.iret (v := 42) hx hb hr (fun t ht hW => ⟨⟨42, (), rfl, rfl, by rw [ht]; exact hP, va_K.moved hW.alike hK, hD⟩, hS.F ht⟩) hS.2.2 dX1_write_10

set_option maxHeartbeats 1000000 in
set_option maxRecDepth 100000 in
theorem kX1_read (l : Launch) (dC : Nat → ClassId) (dI : Nat → Nat → Nat) (oF oS oA oB : Nat) (cA cB : ClassId) (n h d : Nat) (mo th om sd po lr : Int32) (lv : Int64) (P : Nat → Int32) (V : Nat → Int64) (p0 : Int32) (sz : Nat) (hh : h ≤ n) (hn : n ≤ 512) : Met l yX1_read wsX1_read ({ frames := 3, cells := 0, slots := 0, locals := 65 }) (va_Pc [.ref oF, .int p0] (fun U => U.heap.size = sz ∧ va_P (dC, dI) vwCl [(oF, .inr (2, [.int mo, .ref oS, .int th, .int om, .int sd, .int po, .int lr, .long lv, .int (nI d)])), (oS, .inr (1, [.ref oA, .ref oB, .int (nI h)])), (oA, .inl (cA, n, .inl P)), (oB, .inl (cB, n, .inr (.inl V)))] U.heap ∧ va_K (dC, dI) vwCl [(cA, .int), (cB, .long)] U ∧ va_D (fun _ => True) [(oF, .inr (2, [.int mo, .ref oS, .int th, .int om, .int sd, .int po, .int lr, .long lv, .int (nI d)])), (oS, .inr (1, [.ref oA, .ref oB, .int (nI h)])), (oA, .inl (cA, n, .inl P)), (oB, .inl (cB, n, .inr (.inl V)))])) (va_Qi (fun (r : Int32) (_ : Unit) => r = (fRead p0 (th, om, sd, po, lr, lv, d, P, V, h)).1) (fun (_ : Unit) (t : State) => va_P (dC, dI) vwCl (wF oF oS oA oB cA cB n mo (fRead p0 (th, om, sd, po, lr, lv, d, P, V, h)).2) t.heap ∧ va_K (dC, dI) vwCl [(cA, .int), (cB, .long)] t ∧ va_D (va_A [(oF, .inr (2, [.int mo, .ref oS, .int th, .int om, .int sd, .int po, .int lr, .long lv, .int (nI d)])), (oS, .inr (1, [.ref oA, .ref oB, .int (nI h)])), (oA, .inl (cA, n, .inl P)), (oB, .inl (cB, n, .inr (.inl V)))] sz) (wF oF oS oA oB cA cB n mo (fRead p0 (th, om, sd, po, lr, lv, d, P, V, h)).2)) (va_A [(oF, .inr (2, [.int mo, .ref oS, .int th, .int om, .int sd, .int po, .int lr, .long lv, .int (nI d)])), (oS, .inr (1, [.ref oA, .ref oB, .int (nI h)])), (oA, .inl (cA, n, .inl P)), (oB, .inl (cB, n, .inr (.inl V)))] sz)) 0 0 (va_A [(oF, .inr (2, [.int mo, .ref oS, .int th, .int om, .int sd, .int po, .int lr, .long lv, .int (nI d)])), (oS, .inr (1, [.ref oA, .ref oB, .int (nI h)])), (oA, .inl (cA, n, .inl P)), (oB, .inl (cB, n, .inr (.inl V)))] sz) := by
  refine Met.ofW (cc := cX1_read) (maxL := 3) (ret := (some .int)) (by decide) rfl ?_
  intro p e s m args below meth c s₁ B hml hv
  obtain ⟨rfl, hsz, hP, hK, hD0⟩ := hv
  have hx := B.exec
  have hb := B.bytes
  have hr := B.returns
  have hts := atoms_spec (ws := wsX1_read) B.pre
  have hown : s.vm.findClass RX1 = some m.cls := findClass_of_methodNamed B.named
  have hlocks := B.notSynchronized
  subst hsz
  have hD := hD0.self (sz := s.heap.size)
  generalize hAe : va_A [(oF, .inr (2, [.int mo, .ref oS, .int th, .int om, .int sd, .int po, .int lr, .long lv, .int (nI d)])), (oS, .inr (1, [.ref oA, .ref oB, .int (nI h)])), (oA, .inl (cA, n, .inl P)), (oB, .inl (cB, n, .inr (.inl V)))] s.heap.size = A at hD ⊢
  have hA : ∀ q : Nat, s.heap.size ≤ q → A q := fun q h => by rw [← hAe]; exact Or.inr h
  have hS : va_S A s.heap s.heap [] := va_S.rf
  have hP : va_P (dC, dI) vwCl [(oF, .inr (2, [.int mo, .ref oS, .int th, .int om, .int sd, .int po, .int lr, .long lv, .int (nI d)])), (oS, .inr (1, [.ref oA, .ref oB, .int (nI h)])), (oA, .inl (cA, n, .inl P)), (oB, .inl (cB, n, .inr (.inl V)))] s.heap := hP
  have hl := lv_entry ([.ref oF, .int p0]) (n := 3) (Nat.le_of_ble_eq_true rfl)
  rw [lg_entry_eq]
  generalize (lg_sl ([.ref oF, .int p0]) ++ List.replicate (3 - (lg_sl ([.ref oF, .int p0])).length) Slot.unset).toArray = ls at hl ⊢
  have hl : lv_has ls 3 [(0, .ref oF), (1, .int p0)] := hl
  refine W_name (fun Q hQ9 => ?_)
  refine lv_aload_n hx hb dX1_read_0 rfl (lv_at hl 0 rfl) ?_
  have hPc := hP.sub (ws' := [(oF, .inr (2, [.int mo, .ref oS, .int th, .int om, .int sd, .int po, .int lr, .long lv, .int (nI d)])), (oS, .inr (1, [.ref oA, .ref oB, .int (nI h)])), (oA, .inl (cA, n, .inl P)), (oB, .inl (cB, n, .inr (.inl V)))]) [0, 1, 2, 3] rfl
  have hDc := hD.sub (ws' := [(oF, .inr (2, [.int mo, .ref oS, .int th, .int om, .int sd, .int po, .int lr, .long lv, .int (nI d)])), (oS, .inr (1, [.ref oA, .ref oB, .int (nI h)])), (oA, .inl (cA, n, .inl P)), (oB, .inl (cB, n, .inr (.inl V)))]) [0, 1, 2, 3] (by decide) rfl
  have hKc := hK.sub (tys' := [(cA, .int), (cB, .long)]) [0, 1] rfl
  have hFc := va_free (wc := [(oF, .inr (2, [.int mo, .ref oS, .int th, .int om, .int sd, .int po, .int lr, .long lv, .int (nI d)])), (oS, .inr (1, [.ref oA, .ref oB, .int (nI h)])), (oA, .inl (cA, n, .inl P)), (oB, .inl (cB, n, .inr (.inl V)))]) hD hS hA [0, 1, 2, 3] rfl
  refine va_calli (va_runV (As := []) (rest := []) ⟨hx, hb, hml, hown, hts⟩ (kX1_refusalToRead l dC dI oF oS oA oB cA cB n h d mo th om sd po lr lv P V  s.heap.size hh hn) (cwV 0 hts gX1_read_X1_refusalToRead rfl rfl rfl (by decide +kernel) ⟨Nat.le_of_ble_eq_true rfl, Nat.le_of_ble_eq_true rfl⟩) ⟨fun a U g mk q => by obtain ⟨q0, q1, qP, qK, qD⟩ := q; exact ⟨q0, q1, qP, va_K.moved (u := U) (U := U.calling g mk a) (Vm.Alike.refl U.vm) qK, qD⟩, va_recv hKc hPc (ci := 2) (q0 := 0) rfl rfl, fun U hU hW => ⟨rfl, by rw [hU], by rw [hU]; exact hPc, va_K.moved hW.alike hKc, hDc.weaken (fun _ _ _ _ => trivial)⟩⟩ rfl rfl hl.1 rfl (lv_room (Nat.le_of_ble_eq_true rfl)) dX1_read_1 ⟨Nat.le_of_ble_eq_true rfl, Nat.le_of_ble_eq_true rfl⟩) hS (fun q _ h => hFc q h) hFc (fun r_1 u t H1 locs ht hvm hw hB hz1 hk1 hS => ?_)
  obtain ⟨hP1, hK1, hD1⟩ := hB
  rw [ht] at hP1
  have hK1 := va_K.moved hvm.symm hK1
  try dsimp only at hw
  obtain ⟨hP, hD⟩ := va_join (wr := []) (w1 := [(oF, .inr (2, [.int mo, .ref oS, .int th, .int om, .int sd, .int po, .int lr, .long lv, .int (nI d)])), (oS, .inr (1, [.ref oA, .ref oB, .int (nI h)])), (oA, .inl (cA, n, .inl P)), (oB, .inl (cB, n, .inr (.inl V)))]) hP hD [0, 1, 2, 3] [] rfl rfl (by decide) (by decide) hk1 hFc hP1 hD1
  generalize H1 = H at hP hS ⊢
  have hP : va_P (dC, dI) vwCl [(oF, .inr (2, [.int mo, .ref oS, .int th, .int om, .int sd, .int po, .int lr, .long lv, .int (nI d)])), (oS, .inr (1, [.ref oA, .ref oB, .int (nI h)])), (oA, .inl (cA, n, .inl P)), (oB, .inl (cB, n, .inr (.inl V)))] H := hP.sub [0, 1, 2, 3] rfl
  have hD : va_D A [(oF, .inr (2, [.int mo, .ref oS, .int th, .int om, .int sd, .int po, .int lr, .long lv, .int (nI d)])), (oS, .inr (1, [.ref oA, .ref oB, .int (nI h)])), (oA, .inl (cA, n, .inl P)), (oB, .inl (cB, n, .inr (.inl V)))] := hD.sub [0, 1, 2, 3] (by decide) rfl
  have hK : va_K (dC, dI) vwCl [(cA, .int), (cB, .long)] s := hK
  subst hw
  refine lv_istore_n (lv' := [(2, .int (fRef om)), (0, .ref oF), (1, .int p0)]) hx hb dX1_read_4 rfl hl (by decide) rfl (fun ls hl => ?_)
  refine lv_iload_n hx hb dX1_read_5 rfl (lv_at hl 0 rfl) ?_
  refine lv_if_eq (tgt := 11) hx hb dX1_read_6 (by decide) (fun c_2 => ?_) (fun c_2 => ?_)
  · -- taken at 6: (fRef om) = 0
    refine lv_aload_n hx hb dX1_read_11 rfl (lv_at hl 1 rfl) ?_
    refine va_get (D := (dC, dI)) (ci := 2) (v := .ref oS) (C := RX1) (T := TX1) (N := 9) hx hb hts (by decide +kernel) hown hK hP 0 rfl rfl 1 (by decide) (hts (.fieldLink RX1 28 "RelativeFiles" "shelf" "LRelativeFiles$Shelf;") (by decide +kernel)) (fun _ h9 => h9) rfl dX1_read_12 ?_
    refine lv_iload_n hx hb dX1_read_15 rfl (lv_at hl 2 rfl) ?_
    have hPc := hP.sub (ws' := [(oS, .inr (1, [.ref oA, .ref oB, .int (nI h)])), (oA, .inl (cA, n, .inl P)), (oB, .inl (cB, n, .inr (.inl V)))]) [1, 2, 3] rfl
    have hDc := hD.sub (ws' := [(oS, .inr (1, [.ref oA, .ref oB, .int (nI h)])), (oA, .inl (cA, n, .inl P)), (oB, .inl (cB, n, .inr (.inl V)))]) [1, 2, 3] (by decide) rfl
    have hKc := hK.sub (tys' := [(cA, .int), (cB, .long)]) [0, 1] rfl
    have hFc := va_free (wc := [(oS, .inr (1, [.ref oA, .ref oB, .int (nI h)])), (oA, .inl (cA, n, .inl P)), (oB, .inl (cB, n, .inr (.inl V)))]) hD hS hA [1, 2, 3] rfl
    refine va_calli (va_runV (As := [.int p0]) (rest := []) ⟨hx, hb, hml, hown, hts⟩ (kX0_has l dC dI oS oA oB cA cB n h P V p0 H.size hh hn) (cwV 1 hts gX1_read_X0_has rfl rfl rfl (by decide +kernel) ⟨Nat.le_of_ble_eq_true rfl, Nat.le_of_ble_eq_true rfl⟩) ⟨fun a U g mk q => by obtain ⟨q0, q1, qP, qK, qD⟩ := q; exact ⟨q0, q1, qP, va_K.moved (u := U) (U := U.calling g mk a) (Vm.Alike.refl U.vm) qK, qD⟩, va_recv hKc hPc (ci := 1) (q0 := 0) rfl rfl, fun U hU hW => ⟨rfl, by rw [hU], by rw [hU]; exact hPc, va_K.moved hW.alike hKc, hDc.weaken (fun _ _ _ _ => trivial)⟩⟩ rfl rfl hl.1 rfl (lv_room (Nat.le_of_ble_eq_true rfl)) dX1_read_16 ⟨Nat.le_of_ble_eq_true rfl, Nat.le_of_ble_eq_true rfl⟩) hS (fun q _ h => hFc q h) hFc (fun r_3 u t H1 locs ht hvm hw hB hz1 hk1 hS => ?_)
    obtain ⟨hP1, hK1, hD1⟩ := hB
    rw [ht] at hP1
    have hK1 := va_K.moved hvm.symm hK1
    try dsimp only at hw
    obtain ⟨hP, hD⟩ := va_join (wr := [(oF, .inr (2, [.int mo, .ref oS, .int th, .int om, .int sd, .int po, .int lr, .long lv, .int (nI d)]))]) (w1 := [(oS, .inr (1, [.ref oA, .ref oB, .int (nI h)])), (oA, .inl (cA, n, .inl P)), (oB, .inl (cB, n, .inr (.inl V)))]) hP hD [1, 2, 3] [0] rfl rfl (by decide) (by decide) hk1 hFc hP1 hD1
    generalize H1 = H at hP hS ⊢
    have hP : va_P (dC, dI) vwCl [(oF, .inr (2, [.int mo, .ref oS, .int th, .int om, .int sd, .int po, .int lr, .long lv, .int (nI d)])), (oS, .inr (1, [.ref oA, .ref oB, .int (nI h)])), (oA, .inl (cA, n, .inl P)), (oB, .inl (cB, n, .inr (.inl V)))] H := hP.sub [0, 1, 2, 3] rfl
    have hD : va_D A [(oF, .inr (2, [.int mo, .ref oS, .int th, .int om, .int sd, .int po, .int lr, .long lv, .int (nI d)])), (oS, .inr (1, [.ref oA, .ref oB, .int (nI h)])), (oA, .inl (cA, n, .inl P)), (oB, .inl (cB, n, .inr (.inl V)))] := hD.sub [0, 1, 2, 3] (by decide) rfl
    have hK : va_K (dC, dI) vwCl [(cA, .int), (cB, .long)] s := hK
    rcases hw with ⟨b_4, hw⟩ | ⟨b_4, hw⟩
    · -- hasS P h p0
      subst hw
      refine lv_if_ne (tgt := 29) hx hb dX1_read_19 (by decide) (fun c_5 => ?_) (fun c_5 => ?_)
      · -- taken at 19: ¬ 1 = 0
        refine lv_aload_n hx hb dX1_read_29 rfl (lv_at hl 1 rfl) ?_
        refine lv_iload_n hx hb dX1_read_30 rfl (lv_at hl 2 rfl) ?_
        have hPc := hP.sub (ws' := [(oF, .inr (2, [.int mo, .ref oS, .int th, .int om, .int sd, .int po, .int lr, .long lv, .int (nI d)])), (oS, .inr (1, [.ref oA, .ref oB, .int (nI h)])), (oA, .inl (cA, n, .inl P)), (oB, .inl (cB, n, .inr (.inl V)))]) [0, 1, 2, 3] rfl
        have hDc := hD.sub (ws' := [(oF, .inr (2, [.int mo, .ref oS, .int th, .int om, .int sd, .int po, .int lr, .long lv, .int (nI d)])), (oS, .inr (1, [.ref oA, .ref oB, .int (nI h)])), (oA, .inl (cA, n, .inl P)), (oB, .inl (cB, n, .inr (.inl V)))]) [0, 1, 2, 3] (by decide) rfl
        have hKc := hK.sub (tys' := [(cA, .int), (cB, .long)]) [0, 1] rfl
        have hFc := va_free (wc := [(oF, .inr (2, [.int mo, .ref oS, .int th, .int om, .int sd, .int po, .int lr, .long lv, .int (nI d)])), (oS, .inr (1, [.ref oA, .ref oB, .int (nI h)])), (oA, .inl (cA, n, .inl P)), (oB, .inl (cB, n, .inr (.inl V)))]) hD hS hA [0, 1, 2, 3] rfl
        refine va_callv (va_runV (As := [.int p0]) (rest := []) ⟨hx, hb, hml, hown, hts⟩ (kX1_take l dC dI oF oS oA oB cA cB n h d mo th om sd po lr lv P V p0 H.size hh hn) (cwV 1 hts gX1_read_X1_take rfl rfl rfl (by decide +kernel) ⟨Nat.le_of_ble_eq_true rfl, Nat.le_of_ble_eq_true rfl⟩) ⟨fun a U g mk q => by obtain ⟨q0, q1, qP, qK, qD⟩ := q; exact ⟨q0, q1, qP, va_K.moved (u := U) (U := U.calling g mk a) (Vm.Alike.refl U.vm) qK, qD⟩, va_recv hKc hPc (ci := 2) (q0 := 0) rfl rfl, fun U hU hW => ⟨rfl, by rw [hU], by rw [hU]; exact hPc, va_K.moved hW.alike hKc, hDc.weaken (fun _ _ _ _ => trivial)⟩⟩ rfl rfl hl.1 rfl (lv_room (Nat.le_of_ble_eq_true rfl)) dX1_read_31 ⟨Nat.le_of_ble_eq_true rfl, Nat.le_of_ble_eq_true rfl⟩) hS (fun q _ h => hFc q h) hFc (fun u t H1 locs ht hvm hw hB hz1 hk1 hS => ?_)
        obtain ⟨hP1, hK1, hD1⟩ := hB
        rw [ht] at hP1
        have hK1 := va_K.moved hvm.symm hK1
        try dsimp only at hw
        obtain ⟨hP, hD⟩ := va_join (wr := []) (w1 := [(oF, .inr (2, [.int mo, .ref oS, .int th, .int om, .int 0, .int p0, .int p0, .long (fRec P V h p0), .int (nI d)])), (oS, .inr (1, [.ref oA, .ref oB, .int (nI h)])), (oA, .inl (cA, n, .inl P)), (oB, .inl (cB, n, .inr (.inl V)))]) hP hD [0, 1, 2, 3] [] rfl rfl (by decide) (by decide) hk1 hFc hP1 hD1
        generalize H1 = H at hP hS ⊢
        have hP : va_P (dC, dI) vwCl [(oF, .inr (2, [.int mo, .ref oS, .int th, .int om, .int 0, .int p0, .int p0, .long (fRec P V h p0), .int (nI d)])), (oS, .inr (1, [.ref oA, .ref oB, .int (nI h)])), (oA, .inl (cA, n, .inl P)), (oB, .inl (cB, n, .inr (.inl V)))] H := hP.sub [0, 1, 2, 3] rfl
        have hD : va_D A [(oF, .inr (2, [.int mo, .ref oS, .int th, .int om, .int 0, .int p0, .int p0, .long (fRec P V h p0), .int (nI d)])), (oS, .inr (1, [.ref oA, .ref oB, .int (nI h)])), (oA, .inl (cA, n, .inl P)), (oB, .inl (cB, n, .inr (.inl V)))] := hD.sub [0, 1, 2, 3] (by decide) rfl
        have hK : va_K (dC, dI) vwCl [(cA, .int), (cB, .long)] s := hK
        refine lv_iconst (v := 0) hx hb dX1_read_34 (by decide) ?_
        subst hQ9
        have e9 : fRead p0 (th, om, sd, po, lr, lv, d, P, V, h) = (0, (th, om, 0, p0, p0, fRec P V h p0, d, P, V, h)) := by simp only [fRead, if_pos c_2, if_pos b_4]
        rw [e9]
        exact W.iret (v := 0) hx hb hr (fun t ht hW => ⟨⟨0, (), rfl, rfl, by rw [ht]; exact hP, va_K.moved hW.alike hK, hD⟩, hS.F ht⟩) hS.2.2 dX1_read_35
      · -- not taken at 19: 1 = 0
        exact absurd c_5 (by decide)
    · -- ¬ (hasS P h p0)
      subst hw
      refine lv_if_ne (tgt := 29) hx hb dX1_read_19 (by decide) (fun c_7 => ?_) (fun c_7 => ?_)
      · -- taken at 19: ¬ 0 = 0
        exact absurd c_7 (by decide)
      · -- not taken at 19: 0 = 0
        refine lv_aload_n hx hb dX1_read_22 rfl (lv_at hl 1 rfl) ?_
        have hPc := hP.sub (ws' := [(oF, .inr (2, [.int mo, .ref oS, .int th, .int om, .int sd, .int po, .int lr, .long lv, .int (nI d)])), (oS, .inr (1, [.ref oA, .ref oB, .int (nI h)])), (oA, .inl (cA, n, .inl P)), (oB, .inl (cB, n, .inr (.inl V)))]) [0, 1, 2, 3] rfl
        have hDc := hD.sub (ws' := [(oF, .inr (2, [.int mo, .ref oS, .int th, .int om, .int sd, .int po, .int lr, .long lv, .int (nI d)])), (oS, .inr (1, [.ref oA, .ref oB, .int (nI h)])), (oA, .inl (cA, n, .inl P)), (oB, .inl (cB, n, .inr (.inl V)))]) [0, 1, 2, 3] (by decide) rfl
        have hKc := hK.sub (tys' := [(cA, .int), (cB, .long)]) [0, 1] rfl
        have hFc := va_free (wc := [(oF, .inr (2, [.int mo, .ref oS, .int th, .int om, .int sd, .int po, .int lr, .long lv, .int (nI d)])), (oS, .inr (1, [.ref oA, .ref oB, .int (nI h)])), (oA, .inl (cA, n, .inl P)), (oB, .inl (cB, n, .inr (.inl V)))]) hD hS hA [0, 1, 2, 3] rfl
        refine va_callv (va_runV (As := []) (rest := []) ⟨hx, hb, hml, hown, hts⟩ (kX1_losePosition l dC dI oF oS oA oB cA cB n h d mo th om sd po lr lv P V  H.size hh hn) (cwV 0 hts gX1_read_X1_losePosition rfl rfl rfl (by decide +kernel) ⟨Nat.le_of_ble_eq_true rfl, Nat.le_of_ble_eq_true rfl⟩) ⟨fun a U g mk q => by obtain ⟨q0, q1, qP, qK, qD⟩ := q; exact ⟨q0, q1, qP, va_K.moved (u := U) (U := U.calling g mk a) (Vm.Alike.refl U.vm) qK, qD⟩, va_recv hKc hPc (ci := 2) (q0 := 0) rfl rfl, fun U hU hW => ⟨rfl, by rw [hU], by rw [hU]; exact hPc, va_K.moved hW.alike hKc, hDc.weaken (fun _ _ _ _ => trivial)⟩⟩ rfl rfl hl.1 rfl (lv_room (Nat.le_of_ble_eq_true rfl)) dX1_read_23 ⟨Nat.le_of_ble_eq_true rfl, Nat.le_of_ble_eq_true rfl⟩) hS (fun q _ h => hFc q h) hFc (fun u t H1 locs ht hvm hw hB hz1 hk1 hS => ?_)
        obtain ⟨hP1, hK1, hD1⟩ := hB
        rw [ht] at hP1
        have hK1 := va_K.moved hvm.symm hK1
        try dsimp only at hw
        obtain ⟨hP, hD⟩ := va_join (wr := []) (w1 := [(oF, .inr (2, [.int mo, .ref oS, .int th, .int om, .int 2, .int 0, .int 0, .long lv, .int (nI d)])), (oS, .inr (1, [.ref oA, .ref oB, .int (nI h)])), (oA, .inl (cA, n, .inl P)), (oB, .inl (cB, n, .inr (.inl V)))]) hP hD [0, 1, 2, 3] [] rfl rfl (by decide) (by decide) hk1 hFc hP1 hD1
        generalize H1 = H at hP hS ⊢
        have hP : va_P (dC, dI) vwCl [(oF, .inr (2, [.int mo, .ref oS, .int th, .int om, .int 2, .int 0, .int 0, .long lv, .int (nI d)])), (oS, .inr (1, [.ref oA, .ref oB, .int (nI h)])), (oA, .inl (cA, n, .inl P)), (oB, .inl (cB, n, .inr (.inl V)))] H := hP.sub [0, 1, 2, 3] rfl
        have hD : va_D A [(oF, .inr (2, [.int mo, .ref oS, .int th, .int om, .int 2, .int 0, .int 0, .long lv, .int (nI d)])), (oS, .inr (1, [.ref oA, .ref oB, .int (nI h)])), (oA, .inl (cA, n, .inl P)), (oB, .inl (cB, n, .inr (.inl V)))] := hD.sub [0, 1, 2, 3] (by decide) rfl
        have hK : va_K (dC, dI) vwCl [(cA, .int), (cB, .long)] s := hK
        refine lv_bipush (v := 23) hx hb dX1_read_26 (by decide) ?_
        subst hQ9
        have e9 : fRead p0 (th, om, sd, po, lr, lv, d, P, V, h) = (23, (th, om, 2, 0, 0, lv, d, P, V, h)) := by simp only [fRead, if_pos c_2, if_neg b_4]
        rw [e9]
        exact W.iret (v := 23) hx hb hr (fun t ht hW => ⟨⟨23, (), rfl, rfl, by rw [ht]; exact hP, va_K.moved hW.alike hK, hD⟩, hS.F ht⟩) hS.2.2 dX1_read_28
  · -- not taken at 6: ¬ (fRef om) = 0
    refine lv_iload_n hx hb dX1_read_9 rfl (lv_at hl 0 rfl) ?_
    subst hQ9
    have e9 : fRead p0 (th, om, sd, po, lr, lv, d, P, V, h) = (fRef om, (th, om, sd, po, lr, lv, d, P, V, h)) := by simp only [fRead, if_neg c_2]
    rw [e9]
    exact W.iret (v := fRef om) hx hb hr (fun t ht hW => ⟨⟨fRef om, (), rfl, rfl, by rw [ht]; exact hP, va_K.moved hW.alike hK, hD⟩, hS.F ht⟩) hS.2.2 dX1_read_10

set_option maxHeartbeats 1000000 in
set_option maxRecDepth 100000 in
theorem kX1_value (l : Launch) (dC : Nat → ClassId) (dI : Nat → Nat → Nat) (oF oS oA oB : Nat) (cA cB : ClassId) (n h d : Nat) (mo th om sd po lr : Int32) (lv : Int64) (P : Nat → Int32) (V : Nat → Int64) (sz : Nat) (hh : h ≤ n) (hn : n ≤ 512) : Met l yX1_value wsX1_value ({ frames := 0, cells := 0, slots := 0, locals := 0 }) (va_Pc [.ref oF] (fun U => U.heap.size = sz ∧ va_P (dC, dI) vwCl [(oF, .inr (2, [.int mo, .ref oS, .int th, .int om, .int sd, .int po, .int lr, .long lv, .int (nI d)])), (oS, .inr (1, [.ref oA, .ref oB, .int (nI h)])), (oA, .inl (cA, n, .inl P)), (oB, .inl (cB, n, .inr (.inl V)))] U.heap ∧ va_K (dC, dI) vwCl [(cA, .int), (cB, .long)] U ∧ va_D (fun _ => True) [(oF, .inr (2, [.int mo, .ref oS, .int th, .int om, .int sd, .int po, .int lr, .long lv, .int (nI d)])), (oS, .inr (1, [.ref oA, .ref oB, .int (nI h)])), (oA, .inl (cA, n, .inl P)), (oB, .inl (cB, n, .inr (.inl V)))])) (va_Ql (fun (r : Int64) (_ : Unit) => r = lv) (fun (_ : Unit) (t : State) => va_P (dC, dI) vwCl [(oF, .inr (2, [.int mo, .ref oS, .int th, .int om, .int sd, .int po, .int lr, .long lv, .int (nI d)])), (oS, .inr (1, [.ref oA, .ref oB, .int (nI h)])), (oA, .inl (cA, n, .inl P)), (oB, .inl (cB, n, .inr (.inl V)))] t.heap ∧ va_K (dC, dI) vwCl [(cA, .int), (cB, .long)] t ∧ va_D (va_A [(oF, .inr (2, [.int mo, .ref oS, .int th, .int om, .int sd, .int po, .int lr, .long lv, .int (nI d)])), (oS, .inr (1, [.ref oA, .ref oB, .int (nI h)])), (oA, .inl (cA, n, .inl P)), (oB, .inl (cB, n, .inr (.inl V)))] sz) [(oF, .inr (2, [.int mo, .ref oS, .int th, .int om, .int sd, .int po, .int lr, .long lv, .int (nI d)])), (oS, .inr (1, [.ref oA, .ref oB, .int (nI h)])), (oA, .inl (cA, n, .inl P)), (oB, .inl (cB, n, .inr (.inl V)))]) (va_A [(oF, .inr (2, [.int mo, .ref oS, .int th, .int om, .int sd, .int po, .int lr, .long lv, .int (nI d)])), (oS, .inr (1, [.ref oA, .ref oB, .int (nI h)])), (oA, .inl (cA, n, .inl P)), (oB, .inl (cB, n, .inr (.inl V)))] sz)) 0 0 (va_A [(oF, .inr (2, [.int mo, .ref oS, .int th, .int om, .int sd, .int po, .int lr, .long lv, .int (nI d)])), (oS, .inr (1, [.ref oA, .ref oB, .int (nI h)])), (oA, .inl (cA, n, .inl P)), (oB, .inl (cB, n, .inr (.inl V)))] sz) := by
  refine Met.ofW (cc := cX1_value) (maxL := 1) (ret := (some .long)) (by decide) rfl ?_
  intro p e s m args below meth c s₁ B hml hv
  obtain ⟨rfl, hsz, hP, hK, hD0⟩ := hv
  have hx := B.exec
  have hb := B.bytes
  have hr := B.returns
  have hts := atoms_spec (ws := wsX1_value) B.pre
  have hown : s.vm.findClass RX1 = some m.cls := findClass_of_methodNamed B.named
  have hlocks := B.notSynchronized
  subst hsz
  have hD := hD0.self (sz := s.heap.size)
  generalize hAe : va_A [(oF, .inr (2, [.int mo, .ref oS, .int th, .int om, .int sd, .int po, .int lr, .long lv, .int (nI d)])), (oS, .inr (1, [.ref oA, .ref oB, .int (nI h)])), (oA, .inl (cA, n, .inl P)), (oB, .inl (cB, n, .inr (.inl V)))] s.heap.size = A at hD ⊢
  have hA : ∀ q : Nat, s.heap.size ≤ q → A q := fun q h => by rw [← hAe]; exact Or.inr h
  have hS : va_S A s.heap s.heap [] := va_S.rf
  have hP : va_P (dC, dI) vwCl [(oF, .inr (2, [.int mo, .ref oS, .int th, .int om, .int sd, .int po, .int lr, .long lv, .int (nI d)])), (oS, .inr (1, [.ref oA, .ref oB, .int (nI h)])), (oA, .inl (cA, n, .inl P)), (oB, .inl (cB, n, .inr (.inl V)))] s.heap := hP
  have hl := lv_entry ([.ref oF]) (n := 1) (Nat.le_of_ble_eq_true rfl)
  rw [lg_entry_eq]
  generalize (lg_sl ([.ref oF]) ++ List.replicate (1 - (lg_sl ([.ref oF])).length) Slot.unset).toArray = ls at hl ⊢
  have hl : lv_has ls 1 [(0, .ref oF)] := hl
  refine W_name (fun Q hQ9 => ?_)
  refine lv_aload_n hx hb dX1_value_0 rfl (lv_at hl 0 rfl) ?_
  refine va_get (D := (dC, dI)) (ci := 2) (v := .long lv) (C := RX1) (T := TX1) (N := 9) hx hb hts (by decide +kernel) hown hK hP 0 rfl rfl 7 (by decide) (hts (.fieldLink RX1 48 "RelativeFiles" "lastValue" "J") (by decide +kernel)) (fun _ h9 => h9) rfl dX1_value_1 ?_
  subst hQ9
  exact W.lret (v := lv) hx hb hr (fun t ht hW => ⟨⟨lv, (), rfl, rfl, by rw [ht]; exact hP, va_K.moved hW.alike hK, hD⟩, hS.F ht⟩) hS.2.2 dX1_value_4

set_option maxHeartbeats 1000000 in
set_option maxRecDepth 100000 in
theorem kX1_number (l : Launch) (dC : Nat → ClassId) (dI : Nat → Nat → Nat) (oF oS oA oB : Nat) (cA cB : ClassId) (n h d : Nat) (mo th om sd po lr : Int32) (lv : Int64) (P : Nat → Int32) (V : Nat → Int64) (sz : Nat) (hh : h ≤ n) (hn : n ≤ 512) : Met l yX1_number wsX1_number ({ frames := 0, cells := 0, slots := 0, locals := 0 }) (va_Pc [.ref oF] (fun U => U.heap.size = sz ∧ va_P (dC, dI) vwCl [(oF, .inr (2, [.int mo, .ref oS, .int th, .int om, .int sd, .int po, .int lr, .long lv, .int (nI d)])), (oS, .inr (1, [.ref oA, .ref oB, .int (nI h)])), (oA, .inl (cA, n, .inl P)), (oB, .inl (cB, n, .inr (.inl V)))] U.heap ∧ va_K (dC, dI) vwCl [(cA, .int), (cB, .long)] U ∧ va_D (fun _ => True) [(oF, .inr (2, [.int mo, .ref oS, .int th, .int om, .int sd, .int po, .int lr, .long lv, .int (nI d)])), (oS, .inr (1, [.ref oA, .ref oB, .int (nI h)])), (oA, .inl (cA, n, .inl P)), (oB, .inl (cB, n, .inr (.inl V)))])) (va_Qi (fun (r : Int32) (_ : Unit) => r = lr) (fun (_ : Unit) (t : State) => va_P (dC, dI) vwCl [(oF, .inr (2, [.int mo, .ref oS, .int th, .int om, .int sd, .int po, .int lr, .long lv, .int (nI d)])), (oS, .inr (1, [.ref oA, .ref oB, .int (nI h)])), (oA, .inl (cA, n, .inl P)), (oB, .inl (cB, n, .inr (.inl V)))] t.heap ∧ va_K (dC, dI) vwCl [(cA, .int), (cB, .long)] t ∧ va_D (va_A [(oF, .inr (2, [.int mo, .ref oS, .int th, .int om, .int sd, .int po, .int lr, .long lv, .int (nI d)])), (oS, .inr (1, [.ref oA, .ref oB, .int (nI h)])), (oA, .inl (cA, n, .inl P)), (oB, .inl (cB, n, .inr (.inl V)))] sz) [(oF, .inr (2, [.int mo, .ref oS, .int th, .int om, .int sd, .int po, .int lr, .long lv, .int (nI d)])), (oS, .inr (1, [.ref oA, .ref oB, .int (nI h)])), (oA, .inl (cA, n, .inl P)), (oB, .inl (cB, n, .inr (.inl V)))]) (va_A [(oF, .inr (2, [.int mo, .ref oS, .int th, .int om, .int sd, .int po, .int lr, .long lv, .int (nI d)])), (oS, .inr (1, [.ref oA, .ref oB, .int (nI h)])), (oA, .inl (cA, n, .inl P)), (oB, .inl (cB, n, .inr (.inl V)))] sz)) 0 0 (va_A [(oF, .inr (2, [.int mo, .ref oS, .int th, .int om, .int sd, .int po, .int lr, .long lv, .int (nI d)])), (oS, .inr (1, [.ref oA, .ref oB, .int (nI h)])), (oA, .inl (cA, n, .inl P)), (oB, .inl (cB, n, .inr (.inl V)))] sz) := by
  refine Met.ofW (cc := cX1_number) (maxL := 1) (ret := (some .int)) (by decide) rfl ?_
  intro p e s m args below meth c s₁ B hml hv
  obtain ⟨rfl, hsz, hP, hK, hD0⟩ := hv
  have hx := B.exec
  have hb := B.bytes
  have hr := B.returns
  have hts := atoms_spec (ws := wsX1_number) B.pre
  have hown : s.vm.findClass RX1 = some m.cls := findClass_of_methodNamed B.named
  have hlocks := B.notSynchronized
  subst hsz
  have hD := hD0.self (sz := s.heap.size)
  generalize hAe : va_A [(oF, .inr (2, [.int mo, .ref oS, .int th, .int om, .int sd, .int po, .int lr, .long lv, .int (nI d)])), (oS, .inr (1, [.ref oA, .ref oB, .int (nI h)])), (oA, .inl (cA, n, .inl P)), (oB, .inl (cB, n, .inr (.inl V)))] s.heap.size = A at hD ⊢
  have hA : ∀ q : Nat, s.heap.size ≤ q → A q := fun q h => by rw [← hAe]; exact Or.inr h
  have hS : va_S A s.heap s.heap [] := va_S.rf
  have hP : va_P (dC, dI) vwCl [(oF, .inr (2, [.int mo, .ref oS, .int th, .int om, .int sd, .int po, .int lr, .long lv, .int (nI d)])), (oS, .inr (1, [.ref oA, .ref oB, .int (nI h)])), (oA, .inl (cA, n, .inl P)), (oB, .inl (cB, n, .inr (.inl V)))] s.heap := hP
  have hl := lv_entry ([.ref oF]) (n := 1) (Nat.le_of_ble_eq_true rfl)
  rw [lg_entry_eq]
  generalize (lg_sl ([.ref oF]) ++ List.replicate (1 - (lg_sl ([.ref oF])).length) Slot.unset).toArray = ls at hl ⊢
  have hl : lv_has ls 1 [(0, .ref oF)] := hl
  refine W_name (fun Q hQ9 => ?_)
  refine lv_aload_n hx hb dX1_number_0 rfl (lv_at hl 0 rfl) ?_
  refine va_get (D := (dC, dI)) (ci := 2) (v := .int lr) (C := RX1) (T := TX1) (N := 9) hx hb hts (by decide +kernel) hown hK hP 0 rfl rfl 6 (by decide) (hts (.fieldLink RX1 45 "RelativeFiles" "lastRead" "I") (by decide +kernel)) (fun _ h9 => h9) rfl dX1_number_1 ?_
  subst hQ9
  exact W.iret (v := lr) hx hb hr (fun t ht hW => ⟨⟨lr, (), rfl, rfl, by rw [ht]; exact hP, va_K.moved hW.alike hK, hD⟩, hS.F ht⟩) hS.2.2 dX1_number_4

set_option maxHeartbeats 1000000 in
set_option maxRecDepth 100000 in
theorem kX1_records (l : Launch) (dC : Nat → ClassId) (dI : Nat → Nat → Nat) (oF oS oA oB : Nat) (cA cB : ClassId) (n h d : Nat) (mo th om sd po lr : Int32) (lv : Int64) (P : Nat → Int32) (V : Nat → Int64) (sz : Nat) (hh : h ≤ n) (hn : n ≤ 512) : Met l yX1_records wsX1_records ({ frames := 1, cells := 0, slots := 0, locals := 20 }) (va_Pc [.ref oF] (fun U => U.heap.size = sz ∧ va_P (dC, dI) vwCl [(oF, .inr (2, [.int mo, .ref oS, .int th, .int om, .int sd, .int po, .int lr, .long lv, .int (nI d)])), (oS, .inr (1, [.ref oA, .ref oB, .int (nI h)])), (oA, .inl (cA, n, .inl P)), (oB, .inl (cB, n, .inr (.inl V)))] U.heap ∧ va_K (dC, dI) vwCl [(cA, .int), (cB, .long)] U ∧ va_D (fun _ => True) [(oF, .inr (2, [.int mo, .ref oS, .int th, .int om, .int sd, .int po, .int lr, .long lv, .int (nI d)])), (oS, .inr (1, [.ref oA, .ref oB, .int (nI h)])), (oA, .inl (cA, n, .inl P)), (oB, .inl (cB, n, .inr (.inl V)))])) (va_Qi (fun (r : Int32) (_ : Unit) => r = nI h) (fun (_ : Unit) (t : State) => va_P (dC, dI) vwCl [(oF, .inr (2, [.int mo, .ref oS, .int th, .int om, .int sd, .int po, .int lr, .long lv, .int (nI d)])), (oS, .inr (1, [.ref oA, .ref oB, .int (nI h)])), (oA, .inl (cA, n, .inl P)), (oB, .inl (cB, n, .inr (.inl V)))] t.heap ∧ va_K (dC, dI) vwCl [(cA, .int), (cB, .long)] t ∧ va_D (va_A [(oF, .inr (2, [.int mo, .ref oS, .int th, .int om, .int sd, .int po, .int lr, .long lv, .int (nI d)])), (oS, .inr (1, [.ref oA, .ref oB, .int (nI h)])), (oA, .inl (cA, n, .inl P)), (oB, .inl (cB, n, .inr (.inl V)))] sz) [(oF, .inr (2, [.int mo, .ref oS, .int th, .int om, .int sd, .int po, .int lr, .long lv, .int (nI d)])), (oS, .inr (1, [.ref oA, .ref oB, .int (nI h)])), (oA, .inl (cA, n, .inl P)), (oB, .inl (cB, n, .inr (.inl V)))]) (va_A [(oF, .inr (2, [.int mo, .ref oS, .int th, .int om, .int sd, .int po, .int lr, .long lv, .int (nI d)])), (oS, .inr (1, [.ref oA, .ref oB, .int (nI h)])), (oA, .inl (cA, n, .inl P)), (oB, .inl (cB, n, .inr (.inl V)))] sz)) 0 0 (va_A [(oF, .inr (2, [.int mo, .ref oS, .int th, .int om, .int sd, .int po, .int lr, .long lv, .int (nI d)])), (oS, .inr (1, [.ref oA, .ref oB, .int (nI h)])), (oA, .inl (cA, n, .inl P)), (oB, .inl (cB, n, .inr (.inl V)))] sz) := by
  refine Met.ofW (cc := cX1_records) (maxL := 1) (ret := (some .int)) (by decide) rfl ?_
  intro p e s m args below meth c s₁ B hml hv
  obtain ⟨rfl, hsz, hP, hK, hD0⟩ := hv
  have hx := B.exec
  have hb := B.bytes
  have hr := B.returns
  have hts := atoms_spec (ws := wsX1_records) B.pre
  have hown : s.vm.findClass RX1 = some m.cls := findClass_of_methodNamed B.named
  have hlocks := B.notSynchronized
  subst hsz
  have hD := hD0.self (sz := s.heap.size)
  generalize hAe : va_A [(oF, .inr (2, [.int mo, .ref oS, .int th, .int om, .int sd, .int po, .int lr, .long lv, .int (nI d)])), (oS, .inr (1, [.ref oA, .ref oB, .int (nI h)])), (oA, .inl (cA, n, .inl P)), (oB, .inl (cB, n, .inr (.inl V)))] s.heap.size = A at hD ⊢
  have hA : ∀ q : Nat, s.heap.size ≤ q → A q := fun q h => by rw [← hAe]; exact Or.inr h
  have hS : va_S A s.heap s.heap [] := va_S.rf
  have hP : va_P (dC, dI) vwCl [(oF, .inr (2, [.int mo, .ref oS, .int th, .int om, .int sd, .int po, .int lr, .long lv, .int (nI d)])), (oS, .inr (1, [.ref oA, .ref oB, .int (nI h)])), (oA, .inl (cA, n, .inl P)), (oB, .inl (cB, n, .inr (.inl V)))] s.heap := hP
  have hl := lv_entry ([.ref oF]) (n := 1) (Nat.le_of_ble_eq_true rfl)
  rw [lg_entry_eq]
  generalize (lg_sl ([.ref oF]) ++ List.replicate (1 - (lg_sl ([.ref oF])).length) Slot.unset).toArray = ls at hl ⊢
  have hl : lv_has ls 1 [(0, .ref oF)] := hl
  refine W_name (fun Q hQ9 => ?_)
  refine lv_aload_n hx hb dX1_records_0 rfl (lv_at hl 0 rfl) ?_
  refine va_get (D := (dC, dI)) (ci := 2) (v := .ref oS) (C := RX1) (T := TX1) (N := 9) hx hb hts (by decide +kernel) hown hK hP 0 rfl rfl 1 (by decide) (hts (.fieldLink RX1 28 "RelativeFiles" "shelf" "LRelativeFiles$Shelf;") (by decide +kernel)) (fun _ h9 => h9) rfl dX1_records_1 ?_
  have hPc := hP.sub (ws' := [(oS, .inr (1, [.ref oA, .ref oB, .int (nI h)])), (oA, .inl (cA, n, .inl P)), (oB, .inl (cB, n, .inr (.inl V)))]) [1, 2, 3] rfl
  have hDc := hD.sub (ws' := [(oS, .inr (1, [.ref oA, .ref oB, .int (nI h)])), (oA, .inl (cA, n, .inl P)), (oB, .inl (cB, n, .inr (.inl V)))]) [1, 2, 3] (by decide) rfl
  have hKc := hK.sub (tys' := [(cA, .int), (cB, .long)]) [0, 1] rfl
  have hFc := va_free (wc := [(oS, .inr (1, [.ref oA, .ref oB, .int (nI h)])), (oA, .inl (cA, n, .inl P)), (oB, .inl (cB, n, .inr (.inl V)))]) hD hS hA [1, 2, 3] rfl
  refine va_calli (va_runV (As := []) (rest := []) ⟨hx, hb, hml, hown, hts⟩ (kX0_size l dC dI oS oA oB cA cB n h P V  s.heap.size hh hn) (cwV 0 hts gX1_records_X0_size rfl rfl rfl (by decide +kernel) ⟨Nat.le_of_ble_eq_true rfl, Nat.le_of_ble_eq_true rfl⟩) ⟨fun a U g mk q => by obtain ⟨q0, q1, qP, qK, qD⟩ := q; exact ⟨q0, q1, qP, va_K.moved (u := U) (U := U.calling g mk a) (Vm.Alike.refl U.vm) qK, qD⟩, va_recv hKc hPc (ci := 1) (q0 := 0) rfl rfl, fun U hU hW => ⟨rfl, by rw [hU], by rw [hU]; exact hPc, va_K.moved hW.alike hKc, hDc.weaken (fun _ _ _ _ => trivial)⟩⟩ rfl rfl hl.1 rfl (lv_room (Nat.le_of_ble_eq_true rfl)) dX1_records_4 ⟨Nat.le_of_ble_eq_true rfl, Nat.le_of_ble_eq_true rfl⟩) hS (fun q _ h => hFc q h) hFc (fun r_1 u t H1 locs ht hvm hw hB hz1 hk1 hS => ?_)
  obtain ⟨hP1, hK1, hD1⟩ := hB
  rw [ht] at hP1
  have hK1 := va_K.moved hvm.symm hK1
  try dsimp only at hw
  obtain ⟨hP, hD⟩ := va_join (wr := [(oF, .inr (2, [.int mo, .ref oS, .int th, .int om, .int sd, .int po, .int lr, .long lv, .int (nI d)]))]) (w1 := [(oS, .inr (1, [.ref oA, .ref oB, .int (nI h)])), (oA, .inl (cA, n, .inl P)), (oB, .inl (cB, n, .inr (.inl V)))]) hP hD [1, 2, 3] [0] rfl rfl (by decide) (by decide) hk1 hFc hP1 hD1
  generalize H1 = H at hP hS ⊢
  have hP : va_P (dC, dI) vwCl [(oF, .inr (2, [.int mo, .ref oS, .int th, .int om, .int sd, .int po, .int lr, .long lv, .int (nI d)])), (oS, .inr (1, [.ref oA, .ref oB, .int (nI h)])), (oA, .inl (cA, n, .inl P)), (oB, .inl (cB, n, .inr (.inl V)))] H := hP.sub [0, 1, 2, 3] rfl
  have hD : va_D A [(oF, .inr (2, [.int mo, .ref oS, .int th, .int om, .int sd, .int po, .int lr, .long lv, .int (nI d)])), (oS, .inr (1, [.ref oA, .ref oB, .int (nI h)])), (oA, .inl (cA, n, .inl P)), (oB, .inl (cB, n, .inr (.inl V)))] := hD.sub [0, 1, 2, 3] (by decide) rfl
  have hK : va_K (dC, dI) vwCl [(cA, .int), (cB, .long)] s := hK
  subst hw
  subst hQ9
  exact W.iret (v := nI h) hx hb hr (fun t ht hW => ⟨⟨nI h, (), rfl, rfl, by rw [ht]; exact hP, va_K.moved hW.alike hK, hD⟩, hS.F ht⟩) hS.2.2 dX1_records_7

set_option maxHeartbeats 1000000 in
set_option maxRecDepth 100000 in
theorem kX1_digits (l : Launch) (dC : Nat → ClassId) (dI : Nat → Nat → Nat) (oF oS oA oB : Nat) (cA cB : ClassId) (n h d : Nat) (mo th om sd po lr : Int32) (lv : Int64) (P : Nat → Int32) (V : Nat → Int64) (p0 : Int32) (sz : Nat) (hh : h ≤ n) (hn : n ≤ 512) : Met l yX1_digits wsX1_digits ({ frames := 0, cells := 0, slots := 0, locals := 0 }) (va_Pc [.ref oF, .int p0] (fun U => U.heap.size = sz ∧ va_P (dC, dI) vwCl [(oF, .inr (2, [.int mo, .ref oS, .int th, .int om, .int sd, .int po, .int lr, .long lv, .int (nI d)])), (oS, .inr (1, [.ref oA, .ref oB, .int (nI h)])), (oA, .inl (cA, n, .inl P)), (oB, .inl (cB, n, .inr (.inl V)))] U.heap ∧ va_K (dC, dI) vwCl [(cA, .int), (cB, .long)] U ∧ va_D (fun _ => True) [(oF, .inr (2, [.int mo, .ref oS, .int th, .int om, .int sd, .int po, .int lr, .long lv, .int (nI d)])), (oS, .inr (1, [.ref oA, .ref oB, .int (nI h)])), (oA, .inl (cA, n, .inl P)), (oB, .inl (cB, n, .inr (.inl V)))])) (va_Qi (fun (r : Int32) (_ : Unit) => r = (fDig p0 (th, om, sd, po, lr, lv, d, P, V, h)).1) (fun (_ : Unit) (t : State) => va_P (dC, dI) vwCl (wF oF oS oA oB cA cB n mo (fDig p0 (th, om, sd, po, lr, lv, d, P, V, h)).2) t.heap ∧ va_K (dC, dI) vwCl [(cA, .int), (cB, .long)] t ∧ va_D (va_A [(oF, .inr (2, [.int mo, .ref oS, .int th, .int om, .int sd, .int po, .int lr, .long lv, .int (nI d)])), (oS, .inr (1, [.ref oA, .ref oB, .int (nI h)])), (oA, .inl (cA, n, .inl P)), (oB, .inl (cB, n, .inr (.inl V)))] sz) (wF oF oS oA oB cA cB n mo (fDig p0 (th, om, sd, po, lr, lv, d, P, V, h)).2)) (va_A [(oF, .inr (2, [.int mo, .ref oS, .int th, .int om, .int sd, .int po, .int lr, .long lv, .int (nI d)])), (oS, .inr (1, [.ref oA, .ref oB, .int (nI h)])), (oA, .inl (cA, n, .inl P)), (oB, .inl (cB, n, .inr (.inl V)))] sz)) 0 0 (va_A [(oF, .inr (2, [.int mo, .ref oS, .int th, .int om, .int sd, .int po, .int lr, .long lv, .int (nI d)])), (oS, .inr (1, [.ref oA, .ref oB, .int (nI h)])), (oA, .inl (cA, n, .inl P)), (oB, .inl (cB, n, .inr (.inl V)))] sz) := by
  refine Met.ofW (cc := cX1_digits) (maxL := 3) (ret := (some .int)) (by decide) rfl ?_
  intro p e s m args below meth c s₁ B hml hv
  obtain ⟨rfl, hsz, hP, hK, hD0⟩ := hv
  have hx := B.exec
  have hb := B.bytes
  have hr := B.returns
  have hts := atoms_spec (ws := wsX1_digits) B.pre
  have hown : s.vm.findClass RX1 = some m.cls := findClass_of_methodNamed B.named
  have hlocks := B.notSynchronized
  subst hsz
  have hD := hD0.self (sz := s.heap.size)
  generalize hAe : va_A [(oF, .inr (2, [.int mo, .ref oS, .int th, .int om, .int sd, .int po, .int lr, .long lv, .int (nI d)])), (oS, .inr (1, [.ref oA, .ref oB, .int (nI h)])), (oA, .inl (cA, n, .inl P)), (oB, .inl (cB, n, .inr (.inl V)))] s.heap.size = A at hD ⊢
  have hA : ∀ q : Nat, s.heap.size ≤ q → A q := fun q h => by rw [← hAe]; exact Or.inr h
  have hS : va_S A s.heap s.heap [] := va_S.rf
  have hP : va_P (dC, dI) vwCl [(oF, .inr (2, [.int mo, .ref oS, .int th, .int om, .int sd, .int po, .int lr, .long lv, .int (nI d)])), (oS, .inr (1, [.ref oA, .ref oB, .int (nI h)])), (oA, .inl (cA, n, .inl P)), (oB, .inl (cB, n, .inr (.inl V)))] s.heap := hP
  have hl := lv_entry ([.ref oF, .int p0]) (n := 3) (Nat.le_of_ble_eq_true rfl)
  rw [lg_entry_eq]
  generalize (lg_sl ([.ref oF, .int p0]) ++ List.replicate (3 - (lg_sl ([.ref oF, .int p0])).length) Slot.unset).toArray = ls at hl ⊢
  have hl : lv_has ls 3 [(0, .ref oF), (1, .int p0)] := hl
  refine W_name (fun Q hQ9 => ?_)
  refine lv_iload_n hx hb dX1_digits_0 rfl (lv_at hl 1 rfl) ?_
  refine lv_iconst (v := 1) hx hb dX1_digits_1 (by decide) ?_
  refine lv_icmp_lt (tgt := 11) hx hb dX1_digits_2 (by decide) (fun c_1 => ?_) (fun c_1 => ?_)
  · -- taken at 2: p0 < 1
    refine lv_iconst (v := (-1)) hx hb dX1_digits_11 (by decide) ?_
    subst hQ9
    have e9 : fDig p0 (th, om, sd, po, lr, lv, d, P, V, h) = (-1, (th, om, sd, po, lr, lv, d, P, V, h)) := by simp only [fDig, if_pos c_1]
    rw [e9]
    exact W.iret (v := (-1)) hx hb hr (fun t ht hW => ⟨⟨(-1), (), rfl, rfl, by rw [ht]; exact hP, va_K.moved hW.alike hK, hD⟩, hS.F ht⟩) hS.2.2 dX1_digits_12
  · -- not taken at 2: ¬ p0 < 1
    refine lv_iload_n hx hb dX1_digits_5 rfl (lv_at hl 1 rfl) ?_
    refine lv_bipush (v := 9) hx hb dX1_digits_6 (by decide) ?_
    refine lv_icmp_le (tgt := 13) hx hb dX1_digits_8 (by decide) (fun c_2 => ?_) (fun c_2 => ?_)
    · -- taken at 8: p0 ≤ 9
      obtain ⟨d2, hd2, rfl⟩ : ∃ j : Nat, j < 2 ^ 31 ∧ p0 = nI j := nI_of (fun q => c_1 (by rw [Int32.lt_iff_toInt_lt] at q ⊢; have e1 : (1 : Int32).toInt = 1 := rfl; have e0 : (0 : Int32).toInt = 0 := rfl; omega))
      refine lv_aload_n hx hb dX1_digits_13 rfl (lv_at hl 0 rfl) ?_
      refine va_get (D := (dC, dI)) (ci := 2) (v := .int (nI d)) (C := RX1) (T := TX1) (N := 9) hx hb hts (by decide +kernel) hown hK hP 0 rfl rfl 8 (by decide) (hts (.fieldLink RX1 52 "RelativeFiles" "keyDigits" "I") (by decide +kernel)) (fun _ h9 => h9) rfl dX1_digits_14 ?_
      refine lv_istore_n (lv' := [(2, .int (nI d)), (0, .ref oF), (1, .int (nI d2))]) hx hb dX1_digits_17 rfl hl (by decide) rfl (fun ls hl => ?_)
      refine lv_aload_n hx hb dX1_digits_18 rfl (lv_at hl 1 rfl) ?_
      refine lv_iload_n hx hb dX1_digits_19 rfl (lv_at hl 2 rfl) ?_
      refine va_put (D := (dC, dI)) (ci := 2) (v := .int (nI d2)) (ty := .int) (C := RX1) (T := TX1) (N := 9) hx hb hts (by decide +kernel) tyX1 tyX1_ok nmX1 hown hK hP hD hS 0 rfl rfl 8 (by decide) (hts (.fieldLink RX1 52 "RelativeFiles" "keyDigits" "I") (by decide +kernel)) (fun _ h9 => h9) rfl (by decide +kernel) rfl rfl (Nat.le_of_ble_eq_true rfl) dX1_digits_20 (fun H locs hP hD hS => ?_)
      have hP : va_P (dC, dI) vwCl [(oF, .inr (2, [.int mo, .ref oS, .int th, .int om, .int sd, .int po, .int lr, .long lv, .int (nI d2)])), (oS, .inr (1, [.ref oA, .ref oB, .int (nI h)])), (oA, .inl (cA, n, .inl P)), (oB, .inl (cB, n, .inr (.inl V)))] H := hP
      have hD : va_D A [(oF, .inr (2, [.int mo, .ref oS, .int th, .int om, .int sd, .int po, .int lr, .long lv, .int (nI d2)])), (oS, .inr (1, [.ref oA, .ref oB, .int (nI h)])), (oA, .inl (cA, n, .inl P)), (oB, .inl (cB, n, .inr (.inl V)))] := hD
      refine lv_iload_n hx hb dX1_digits_23 rfl (lv_at hl 0 rfl) ?_
      subst hQ9
      have e9 : fDig (nI d2) (th, om, sd, po, lr, lv, d, P, V, h) = (nI d, (th, om, sd, po, lr, lv, d2, P, V, h)) := by simp only [fDig, if_neg c_1, if_pos c_2, nI_clamp hd2]
      rw [e9]
      exact W.iret (v := nI d) hx hb hr (fun t ht hW => ⟨⟨nI d, (), rfl, rfl, by rw [ht]; exact hP, va_K.moved hW.alike hK, hD⟩, hS.F ht⟩) hS.2.2 dX1_digits_24
    · -- not taken at 8: ¬ p0 ≤ 9
      refine lv_iconst (v := (-1)) hx hb dX1_digits_11 (by decide) ?_
      subst hQ9
      have e9 : fDig p0 (th, om, sd, po, lr, lv, d, P, V, h) = (-1, (th, om, sd, po, lr, lv, d, P, V, h)) := by simp only [fDig, if_neg c_1, if_neg c_2]
      rw [e9]
      exact W.iret (v := (-1)) hx hb hr (fun t ht hW => ⟨⟨(-1), (), rfl, rfl, by rw [ht]; exact hP, va_K.moved hW.alike hK, hD⟩, hS.F ht⟩) hS.2.2 dX1_digits_12

set_option maxHeartbeats 1000000 in
set_option maxRecDepth 100000 in
theorem kX1_count (l : Launch) (dC : Nat → ClassId) (dI : Nat → Nat → Nat) (oF oS oA oB : Nat) (cA cB : ClassId) (n h d : Nat) (mo th om sd po lr : Int32) (lv : Int64) (P : Nat → Int32) (V : Nat → Int64) (p0 : Int32) (sz : Nat) (hh : h ≤ n) (hn : n ≤ 512) : Met l yX1_count wsX1_count ({ frames := 2, cells := 0, slots := 0, locals := 41 }) (va_Pc [.ref oF, .int p0] (fun U => U.heap.size = sz ∧ va_P (dC, dI) vwCl [(oF, .inr (2, [.int mo, .ref oS, .int th, .int om, .int sd, .int po, .int lr, .long lv, .int (nI d)])), (oS, .inr (1, [.ref oA, .ref oB, .int (nI h)])), (oA, .inl (cA, n, .inl P)), (oB, .inl (cB, n, .inr (.inl V)))] U.heap ∧ va_K (dC, dI) vwCl [(cA, .int), (cB, .long)] U ∧ va_D (fun _ => True) [(oF, .inr (2, [.int mo, .ref oS, .int th, .int om, .int sd, .int po, .int lr, .long lv, .int (nI d)])), (oS, .inr (1, [.ref oA, .ref oB, .int (nI h)])), (oA, .inl (cA, n, .inl P)), (oB, .inl (cB, n, .inr (.inl V)))])) (va_Qi (fun (r : Int32) (_ : Unit) => r = fCount mo p0 (th, om, sd, po, lr, lv, d, P, V, h)) (fun (_ : Unit) (t : State) => va_P (dC, dI) vwCl [(oF, .inr (2, [.int mo, .ref oS, .int th, .int om, .int sd, .int po, .int lr, .long lv, .int (nI d)])), (oS, .inr (1, [.ref oA, .ref oB, .int (nI h)])), (oA, .inl (cA, n, .inl P)), (oB, .inl (cB, n, .inr (.inl V)))] t.heap ∧ va_K (dC, dI) vwCl [(cA, .int), (cB, .long)] t ∧ va_D (va_A [(oF, .inr (2, [.int mo, .ref oS, .int th, .int om, .int sd, .int po, .int lr, .long lv, .int (nI d)])), (oS, .inr (1, [.ref oA, .ref oB, .int (nI h)])), (oA, .inl (cA, n, .inl P)), (oB, .inl (cB, n, .inr (.inl V)))] sz) [(oF, .inr (2, [.int mo, .ref oS, .int th, .int om, .int sd, .int po, .int lr, .long lv, .int (nI d)])), (oS, .inr (1, [.ref oA, .ref oB, .int (nI h)])), (oA, .inl (cA, n, .inl P)), (oB, .inl (cB, n, .inr (.inl V)))]) (va_A [(oF, .inr (2, [.int mo, .ref oS, .int th, .int om, .int sd, .int po, .int lr, .long lv, .int (nI d)])), (oS, .inr (1, [.ref oA, .ref oB, .int (nI h)])), (oA, .inl (cA, n, .inl P)), (oB, .inl (cB, n, .inr (.inl V)))] sz)) 0 0 (va_A [(oF, .inr (2, [.int mo, .ref oS, .int th, .int om, .int sd, .int po, .int lr, .long lv, .int (nI d)])), (oS, .inr (1, [.ref oA, .ref oB, .int (nI h)])), (oA, .inl (cA, n, .inl P)), (oB, .inl (cB, n, .inr (.inl V)))] sz) := by
  refine Met.ofW (cc := cX1_count) (maxL := 2) (ret := (some .int)) (by decide) rfl ?_
  intro p e s m args below meth c s₁ B hml hv
  obtain ⟨rfl, hsz, hP, hK, hD0⟩ := hv
  have hx := B.exec
  have hb := B.bytes
  have hr := B.returns
  have hts := atoms_spec (ws := wsX1_count) B.pre
  have hown : s.vm.findClass RX1 = some m.cls := findClass_of_methodNamed B.named
  have hlocks := B.notSynchronized
  subst hsz
  have hD := hD0.self (sz := s.heap.size)
  generalize hAe : va_A [(oF, .inr (2, [.int mo, .ref oS, .int th, .int om, .int sd, .int po, .int lr, .long lv, .int (nI d)])), (oS, .inr (1, [.ref oA, .ref oB, .int (nI h)])), (oA, .inl (cA, n, .inl P)), (oB, .inl (cB, n, .inr (.inl V)))] s.heap.size = A at hD ⊢
  have hA : ∀ q : Nat, s.heap.size ≤ q → A q := fun q h => by rw [← hAe]; exact Or.inr h
  have hS : va_S A s.heap s.heap [] := va_S.rf
  have hP : va_P (dC, dI) vwCl [(oF, .inr (2, [.int mo, .ref oS, .int th, .int om, .int sd, .int po, .int lr, .long lv, .int (nI d)])), (oS, .inr (1, [.ref oA, .ref oB, .int (nI h)])), (oA, .inl (cA, n, .inl P)), (oB, .inl (cB, n, .inr (.inl V)))] s.heap := hP
  have hl := lv_entry ([.ref oF, .int p0]) (n := 2) (Nat.le_of_ble_eq_true rfl)
  rw [lg_entry_eq]
  generalize (lg_sl ([.ref oF, .int p0]) ++ List.replicate (2 - (lg_sl ([.ref oF, .int p0])).length) Slot.unset).toArray = ls at hl ⊢
  have hl : lv_has ls 2 [(0, .ref oF), (1, .int p0)] := hl
  refine W_name (fun Q hQ9 => ?_)
  refine lv_iload_n hx hb dX1_count_0 rfl (lv_at hl 1 rfl) ?_
  by_cases s_1 : p0 = 0
  · -- case 0
    refine lv_tableIn (tgt := 36) hx hb dX1_count_1 (by rw [s_1]; decide) (by rw [s_1]; decide) (by rw [s_1]; rfl) (by decide) ?_
    refine lv_aload_n hx hb dX1_count_36 rfl (lv_at hl 0 rfl) ?_
    refine va_get (D := (dC, dI)) (ci := 2) (v := .int mo) (C := RX1) (T := TX1) (N := 9) hx hb hts (by decide +kernel) hown hK hP 0 rfl rfl 0 (by decide) (hts (.fieldLink RX1 19 "RelativeFiles" "most" "I") (by decide +kernel)) (fun _ h9 => h9) rfl dX1_count_37 ?_
    subst hQ9
    have e9 : fCount mo p0 (th, om, sd, po, lr, lv, d, P, V, h) = mo := by simp only [fCount, if_pos s_1]
    rw [e9]
    exact W.iret (v := mo) hx hb hr (fun t ht hW => ⟨⟨mo, (), rfl, rfl, by rw [ht]; exact hP, va_K.moved hW.alike hK, hD⟩, hS.F ht⟩) hS.2.2 dX1_count_40
  by_cases s_2 : p0 = 1
  · -- case 1
    refine lv_tableIn (tgt := 41) hx hb dX1_count_1 (by rw [s_2]; decide) (by rw [s_2]; decide) (by rw [s_2]; rfl) (by decide) ?_
    refine lv_aload_n hx hb dX1_count_41 rfl (lv_at hl 0 rfl) ?_
    refine va_get (D := (dC, dI)) (ci := 2) (v := .int th) (C := RX1) (T := TX1) (N := 9) hx hb hts (by decide +kernel) hown hK hP 0 rfl rfl 2 (by decide) (hts (.fieldLink RX1 32 "RelativeFiles" "there" "Z") (by decide +kernel)) (fun _ h9 => h9) rfl dX1_count_42 ?_
    refine lv_if_eq (tgt := 52) hx hb dX1_count_45 (by decide) (fun c_3 => ?_) (fun c_3 => ?_)
    · -- taken at 45: th = 0
      refine lv_iconst (v := 0) hx hb dX1_count_52 (by decide) ?_
      subst hQ9
      have e9 : fCount mo p0 (th, om, sd, po, lr, lv, d, P, V, h) = 0 := by simp only [fCount, if_neg s_1, if_pos s_2, if_pos c_3]
      rw [e9]
      exact W.iret (v := 0) hx hb hr (fun t ht hW => ⟨⟨0, (), rfl, rfl, by rw [ht]; exact hP, va_K.moved hW.alike hK, hD⟩, hS.F ht⟩) hS.2.2 dX1_count_53
    · -- not taken at 45: ¬ th = 0
      refine lv_iconst (v := 1) hx hb dX1_count_48 (by decide) ?_
      refine lv_goto (tgt := 53) hx hb dX1_count_49 (by decide) ?_
      subst hQ9
      have e9 : fCount mo p0 (th, om, sd, po, lr, lv, d, P, V, h) = 1 := by simp only [fCount, if_neg s_1, if_pos s_2, if_neg c_3]
      rw [e9]
      exact W.iret (v := 1) hx hb hr (fun t ht hW => ⟨⟨1, (), rfl, rfl, by rw [ht]; exact hP, va_K.moved hW.alike hK, hD⟩, hS.F ht⟩) hS.2.2 dX1_count_53
  by_cases s_4 : p0 = 2
  · -- case 2
    refine lv_tableIn (tgt := 54) hx hb dX1_count_1 (by rw [s_4]; decide) (by rw [s_4]; decide) (by rw [s_4]; rfl) (by decide) ?_
    refine lv_aload_n hx hb dX1_count_54 rfl (lv_at hl 0 rfl) ?_
    refine va_get (D := (dC, dI)) (ci := 2) (v := .int om) (C := RX1) (T := TX1) (N := 9) hx hb hts (by decide +kernel) hown hK hP 0 rfl rfl 3 (by decide) (hts (.fieldLink RX1 36 "RelativeFiles" "openMode" "I") (by decide +kernel)) (fun _ h9 => h9) rfl dX1_count_55 ?_
    subst hQ9
    have e9 : fCount mo p0 (th, om, sd, po, lr, lv, d, P, V, h) = om := by simp only [fCount, if_neg s_1, if_neg s_2, if_pos s_4]
    rw [e9]
    exact W.iret (v := om) hx hb hr (fun t ht hW => ⟨⟨om, (), rfl, rfl, by rw [ht]; exact hP, va_K.moved hW.alike hK, hD⟩, hS.F ht⟩) hS.2.2 dX1_count_58
  by_cases s_5 : p0 = 3
  · -- case 3
    refine lv_tableIn (tgt := 59) hx hb dX1_count_1 (by rw [s_5]; decide) (by rw [s_5]; decide) (by rw [s_5]; rfl) (by decide) ?_
    refine lv_aload_n hx hb dX1_count_59 rfl (lv_at hl 0 rfl) ?_
    refine va_get (D := (dC, dI)) (ci := 2) (v := .ref oS) (C := RX1) (T := TX1) (N := 9) hx hb hts (by decide +kernel) hown hK hP 0 rfl rfl 1 (by decide) (hts (.fieldLink RX1 28 "RelativeFiles" "shelf" "LRelativeFiles$Shelf;") (by decide +kernel)) (fun _ h9 => h9) rfl dX1_count_60 ?_
    have hPc := hP.sub (ws' := [(oS, .inr (1, [.ref oA, .ref oB, .int (nI h)])), (oA, .inl (cA, n, .inl P)), (oB, .inl (cB, n, .inr (.inl V)))]) [1, 2, 3] rfl
    have hDc := hD.sub (ws' := [(oS, .inr (1, [.ref oA, .ref oB, .int (nI h)])), (oA, .inl (cA, n, .inl P)), (oB, .inl (cB, n, .inr (.inl V)))]) [1, 2, 3] (by decide) rfl
    have hKc := hK.sub (tys' := [(cA, .int), (cB, .long)]) [0, 1] rfl
    have hFc := va_free (wc := [(oS, .inr (1, [.ref oA, .ref oB, .int (nI h)])), (oA, .inl (cA, n, .inl P)), (oB, .inl (cB, n, .inr (.inl V)))]) hD hS hA [1, 2, 3] rfl
    refine va_calli (va_runV (As := []) (rest := []) ⟨hx, hb, hml, hown, hts⟩ (kX0_greatest l dC dI oS oA oB cA cB n h P V  s.heap.size hh hn) (cwV 0 hts gX1_count_X0_greatest rfl rfl rfl (by decide +kernel) ⟨Nat.le_of_ble_eq_true rfl, Nat.le_of_ble_eq_true rfl⟩) ⟨fun a U g mk q => by obtain ⟨q0, q1, qP, qK, qD⟩ := q; exact ⟨q0, q1, qP, va_K.moved (u := U) (U := U.calling g mk a) (Vm.Alike.refl U.vm) qK, qD⟩, va_recv hKc hPc (ci := 1) (q0 := 0) rfl rfl, fun U hU hW => ⟨rfl, by rw [hU], by rw [hU]; exact hPc, va_K.moved hW.alike hKc, hDc.weaken (fun _ _ _ _ => trivial)⟩⟩ rfl rfl hl.1 rfl (lv_room (Nat.le_of_ble_eq_true rfl)) dX1_count_63 ⟨Nat.le_of_ble_eq_true rfl, Nat.le_of_ble_eq_true rfl⟩) hS (fun q _ h => hFc q h) hFc (fun r_6 u t H1 locs ht hvm hw hB hz1 hk1 hS => ?_)
    obtain ⟨hP1, hK1, hD1⟩ := hB
    rw [ht] at hP1
    have hK1 := va_K.moved hvm.symm hK1
    try dsimp only at hw
    obtain ⟨hP, hD⟩ := va_join (wr := [(oF, .inr (2, [.int mo, .ref oS, .int th, .int om, .int sd, .int po, .int lr, .long lv, .int (nI d)]))]) (w1 := [(oS, .inr (1, [.ref oA, .ref oB, .int (nI h)])), (oA, .inl (cA, n, .inl P)), (oB, .inl (cB, n, .inr (.inl V)))]) hP hD [1, 2, 3] [0] rfl rfl (by decide) (by decide) hk1 hFc hP1 hD1
    generalize H1 = H at hP hS ⊢
    have hP : va_P (dC, dI) vwCl [(oF, .inr (2, [.int mo, .ref oS, .int th, .int om, .int sd, .int po, .int lr, .long lv, .int (nI d)])), (oS, .inr (1, [.ref oA, .ref oB, .int (nI h)])), (oA, .inl (cA, n, .inl P)), (oB, .inl (cB, n, .inr (.inl V)))] H := hP.sub [0, 1, 2, 3] rfl
    have hD : va_D A [(oF, .inr (2, [.int mo, .ref oS, .int th, .int om, .int sd, .int po, .int lr, .long lv, .int (nI d)])), (oS, .inr (1, [.ref oA, .ref oB, .int (nI h)])), (oA, .inl (cA, n, .inl P)), (oB, .inl (cB, n, .inr (.inl V)))] := hD.sub [0, 1, 2, 3] (by decide) rfl
    have hK : va_K (dC, dI) vwCl [(cA, .int), (cB, .long)] s := hK
    subst hw
    subst hQ9
    have e9 : fCount mo p0 (th, om, sd, po, lr, lv, d, P, V, h) = fGr P h := by simp only [fCount, if_neg s_1, if_neg s_2, if_neg s_4, if_pos s_5]
    rw [e9]
    exact W.iret (v := fGr P h) hx hb hr (fun t ht hW => ⟨⟨fGr P h, (), rfl, rfl, by rw [ht]; exact hP, va_K.moved hW.alike hK, hD⟩, hS.F ht⟩) hS.2.2 dX1_count_66
  by_cases s_7 : p0 = 4
  · -- case 4
    refine lv_tableIn (tgt := 67) hx hb dX1_count_1 (by rw [s_7]; decide) (by rw [s_7]; decide) (by rw [s_7]; rfl) (by decide) ?_
    refine lv_aload_n hx hb dX1_count_67 rfl (lv_at hl 0 rfl) ?_
    refine va_get (D := (dC, dI)) (ci := 2) (v := .ref oS) (C := RX1) (T := TX1) (N := 9) hx hb hts (by decide +kernel) hown hK hP 0 rfl rfl 1 (by decide) (hts (.fieldLink RX1 28 "RelativeFiles" "shelf" "LRelativeFiles$Shelf;") (by decide +kernel)) (fun _ h9 => h9) rfl dX1_count_68 ?_
    have hPc := hP.sub (ws' := [(oS, .inr (1, [.ref oA, .ref oB, .int (nI h)])), (oA, .inl (cA, n, .inl P)), (oB, .inl (cB, n, .inr (.inl V)))]) [1, 2, 3] rfl
    have hDc := hD.sub (ws' := [(oS, .inr (1, [.ref oA, .ref oB, .int (nI h)])), (oA, .inl (cA, n, .inl P)), (oB, .inl (cB, n, .inr (.inl V)))]) [1, 2, 3] (by decide) rfl
    have hKc := hK.sub (tys' := [(cA, .int), (cB, .long)]) [0, 1] rfl
    have hFc := va_free (wc := [(oS, .inr (1, [.ref oA, .ref oB, .int (nI h)])), (oA, .inl (cA, n, .inl P)), (oB, .inl (cB, n, .inr (.inl V)))]) hD hS hA [1, 2, 3] rfl
    refine va_calli (va_runV (As := []) (rest := []) ⟨hx, hb, hml, hown, hts⟩ (kX0_least l dC dI oS oA oB cA cB n h P V  s.heap.size hh hn) (cwV 0 hts gX1_count_X0_least rfl rfl rfl (by decide +kernel) ⟨Nat.le_of_ble_eq_true rfl, Nat.le_of_ble_eq_true rfl⟩) ⟨fun a U g mk q => by obtain ⟨q0, q1, qP, qK, qD⟩ := q; exact ⟨q0, q1, qP, va_K.moved (u := U) (U := U.calling g mk a) (Vm.Alike.refl U.vm) qK, qD⟩, va_recv hKc hPc (ci := 1) (q0 := 0) rfl rfl, fun U hU hW => ⟨rfl, by rw [hU], by rw [hU]; exact hPc, va_K.moved hW.alike hKc, hDc.weaken (fun _ _ _ _ => trivial)⟩⟩ rfl rfl hl.1 rfl (lv_room (Nat.le_of_ble_eq_true rfl)) dX1_count_71 ⟨Nat.le_of_ble_eq_true rfl, Nat.le_of_ble_eq_true rfl⟩) hS (fun q _ h => hFc q h) hFc (fun r_8 u t H1 locs ht hvm hw hB hz1 hk1 hS => ?_)
    obtain ⟨hP1, hK1, hD1⟩ := hB
    rw [ht] at hP1
    have hK1 := va_K.moved hvm.symm hK1
    try dsimp only at hw
    obtain ⟨hP, hD⟩ := va_join (wr := [(oF, .inr (2, [.int mo, .ref oS, .int th, .int om, .int sd, .int po, .int lr, .long lv, .int (nI d)]))]) (w1 := [(oS, .inr (1, [.ref oA, .ref oB, .int (nI h)])), (oA, .inl (cA, n, .inl P)), (oB, .inl (cB, n, .inr (.inl V)))]) hP hD [1, 2, 3] [0] rfl rfl (by decide) (by decide) hk1 hFc hP1 hD1
    generalize H1 = H at hP hS ⊢
    have hP : va_P (dC, dI) vwCl [(oF, .inr (2, [.int mo, .ref oS, .int th, .int om, .int sd, .int po, .int lr, .long lv, .int (nI d)])), (oS, .inr (1, [.ref oA, .ref oB, .int (nI h)])), (oA, .inl (cA, n, .inl P)), (oB, .inl (cB, n, .inr (.inl V)))] H := hP.sub [0, 1, 2, 3] rfl
    have hD : va_D A [(oF, .inr (2, [.int mo, .ref oS, .int th, .int om, .int sd, .int po, .int lr, .long lv, .int (nI d)])), (oS, .inr (1, [.ref oA, .ref oB, .int (nI h)])), (oA, .inl (cA, n, .inl P)), (oB, .inl (cB, n, .inr (.inl V)))] := hD.sub [0, 1, 2, 3] (by decide) rfl
    have hK : va_K (dC, dI) vwCl [(cA, .int), (cB, .long)] s := hK
    subst hw
    subst hQ9
    have e9 : fCount mo p0 (th, om, sd, po, lr, lv, d, P, V, h) = fLe P h := by simp only [fCount, if_neg s_1, if_neg s_2, if_neg s_4, if_neg s_5, if_pos s_7]
    rw [e9]
    exact W.iret (v := fLe P h) hx hb hr (fun t ht hW => ⟨⟨fLe P h, (), rfl, rfl, by rw [ht]; exact hP, va_K.moved hW.alike hK, hD⟩, hS.F ht⟩) hS.2.2 dX1_count_74
  refine lv_tableOut (tgt := 75) hx hb dX1_count_1 (sw_out4 s_1 s_2 s_4 s_5 s_7) (by decide) ?_
  refine lv_iconst (v := (-1)) hx hb dX1_count_75 (by decide) ?_
  subst hQ9
  have e9 : fCount mo p0 (th, om, sd, po, lr, lv, d, P, V, h) = (-1) := by simp only [fCount, if_neg s_1, if_neg s_2, if_neg s_4, if_neg s_5, if_neg s_7]
  rw [e9]
  exact W.iret (v := (-1)) hx hb hr (fun t ht hW => ⟨⟨(-1), (), rfl, rfl, by rw [ht]; exact hP, va_K.moved hW.alike hK, hD⟩, hS.F ht⟩) hS.2.2 dX1_count_76

set_option maxHeartbeats 1000000 in
set_option maxRecDepth 100000 in
theorem kX1_cell (l : Launch) (dC : Nat → ClassId) (dI : Nat → Nat → Nat) (oF oS oA oB : Nat) (cA cB : ClassId) (n h d : Nat) (mo th om sd po lr : Int32) (lv : Int64) (P : Nat → Int32) (V : Nat → Int64) (p0 : Int32) (sz : Nat) (hh : h ≤ n) (hn : n ≤ 512) (hpl : isPl mo p0) : Met l yX1_cell wsX1_cell ({ frames := 2, cells := 0, slots := 0, locals := 44 }) (va_Pc [.ref oF, .int p0] (fun U => U.heap.size = sz ∧ va_P (dC, dI) vwCl [(oF, .inr (2, [.int mo, .ref oS, .int th, .int om, .int sd, .int po, .int lr, .long lv, .int (nI d)])), (oS, .inr (1, [.ref oA, .ref oB, .int (nI h)])), (oA, .inl (cA, n, .inl P)), (oB, .inl (cB, n, .inr (.inl V)))] U.heap ∧ va_K (dC, dI) vwCl [(cA, .int), (cB, .long)] U ∧ va_D (fun _ => True) [(oF, .inr (2, [.int mo, .ref oS, .int th, .int om, .int sd, .int po, .int lr, .long lv, .int (nI d)])), (oS, .inr (1, [.ref oA, .ref oB, .int (nI h)])), (oA, .inl (cA, n, .inl P)), (oB, .inl (cB, n, .inr (.inl V)))])) (va_Ql (fun (r : Int64) (_ : Unit) => r = fRec P V h p0) (fun (_ : Unit) (t : State) => va_P (dC, dI) vwCl [(oF, .inr (2, [.int mo, .ref oS, .int th, .int om, .int sd, .int po, .int lr, .long lv, .int (nI d)])), (oS, .inr (1, [.ref oA, .ref oB, .int (nI h)])), (oA, .inl (cA, n, .inl P)), (oB, .inl (cB, n, .inr (.inl V)))] t.heap ∧ va_K (dC, dI) vwCl [(cA, .int), (cB, .long)] t ∧ va_D (va_A [(oF, .inr (2, [.int mo, .ref oS, .int th, .int om, .int sd, .int po, .int lr, .long lv, .int (nI d)])), (oS, .inr (1, [.ref oA, .ref oB, .int (nI h)])), (oA, .inl (cA, n, .inl P)), (oB, .inl (cB, n, .inr (.inl V)))] sz) [(oF, .inr (2, [.int mo, .ref oS, .int th, .int om, .int sd, .int po, .int lr, .long lv, .int (nI d)])), (oS, .inr (1, [.ref oA, .ref oB, .int (nI h)])), (oA, .inl (cA, n, .inl P)), (oB, .inl (cB, n, .inr (.inl V)))]) (va_A [(oF, .inr (2, [.int mo, .ref oS, .int th, .int om, .int sd, .int po, .int lr, .long lv, .int (nI d)])), (oS, .inr (1, [.ref oA, .ref oB, .int (nI h)])), (oA, .inl (cA, n, .inl P)), (oB, .inl (cB, n, .inr (.inl V)))] sz)) 0 0 (va_A [(oF, .inr (2, [.int mo, .ref oS, .int th, .int om, .int sd, .int po, .int lr, .long lv, .int (nI d)])), (oS, .inr (1, [.ref oA, .ref oB, .int (nI h)])), (oA, .inl (cA, n, .inl P)), (oB, .inl (cB, n, .inr (.inl V)))] sz) := by
  refine Met.ofW (cc := cX1_cell) (maxL := 2) (ret := (some .long)) (by decide) rfl ?_
  intro p e s m args below meth c s₁ B hml hv
  obtain ⟨rfl, hsz, hP, hK, hD0⟩ := hv
  have hx := B.exec
  have hb := B.bytes
  have hr := B.returns
  have hts := atoms_spec (ws := wsX1_cell) B.pre
  have hown : s.vm.findClass RX1 = some m.cls := findClass_of_methodNamed B.named
  have hlocks := B.notSynchronized
  subst hsz
  have hD := hD0.self (sz := s.heap.size)
  generalize hAe : va_A [(oF, .inr (2, [.int mo, .ref oS, .int th, .int om, .int sd, .int po, .int lr, .long lv, .int (nI d)])), (oS, .inr (1, [.ref oA, .ref oB, .int (nI h)])), (oA, .inl (cA, n, .inl P)), (oB, .inl (cB, n, .inr (.inl V)))] s.heap.size = A at hD ⊢
  have hA : ∀ q : Nat, s.heap.size ≤ q → A q := fun q h => by rw [← hAe]; exact Or.inr h
  have hS : va_S A s.heap s.heap [] := va_S.rf
  have hP : va_P (dC, dI) vwCl [(oF, .inr (2, [.int mo, .ref oS, .int th, .int om, .int sd, .int po, .int lr, .long lv, .int (nI d)])), (oS, .inr (1, [.ref oA, .ref oB, .int (nI h)])), (oA, .inl (cA, n, .inl P)), (oB, .inl (cB, n, .inr (.inl V)))] s.heap := hP
  have hl := lv_entry ([.ref oF, .int p0]) (n := 2) (Nat.le_of_ble_eq_true rfl)
  rw [lg_entry_eq]
  generalize (lg_sl ([.ref oF, .int p0]) ++ List.replicate (2 - (lg_sl ([.ref oF, .int p0])).length) Slot.unset).toArray = ls at hl ⊢
  have hl : lv_has ls 2 [(0, .ref oF), (1, .int p0)] := hl
  refine W_name (fun Q hQ9 => ?_)
  refine lv_aload_n hx hb dX1_cell_0 rfl (lv_at hl 0 rfl) ?_
  refine lv_iload_n hx hb dX1_cell_1 rfl (lv_at hl 1 rfl) ?_
  have hPc := hP.sub (ws' := [(oF, .inr (2, [.int mo, .ref oS, .int th, .int om, .int sd, .int po, .int lr, .long lv, .int (nI d)])), (oS, .inr (1, [.ref oA, .ref oB, .int (nI h)])), (oA, .inl (cA, n, .inl P)), (oB, .inl (cB, n, .inr (.inl V)))]) [0, 1, 2, 3] rfl
  have hDc := hD.sub (ws' := [(oF, .inr (2, [.int mo, .ref oS, .int th, .int om, .int sd, .int po, .int lr, .long lv, .int (nI d)])), (oS, .inr (1, [.ref oA, .ref oB, .int (nI h)])), (oA, .inl (cA, n, .inl P)), (oB, .inl (cB, n, .inr (.inl V)))]) [0, 1, 2, 3] (by decide) rfl
  have hKc := hK.sub (tys' := [(cA, .int), (cB, .long)]) [0, 1] rfl
  have hFc := va_free (wc := [(oF, .inr (2, [.int mo, .ref oS, .int th, .int om, .int sd, .int po, .int lr, .long lv, .int (nI d)])), (oS, .inr (1, [.ref oA, .ref oB, .int (nI h)])), (oA, .inl (cA, n, .inl P)), (oB, .inl (cB, n, .inr (.inl V)))]) hD hS hA [0, 1, 2, 3] rfl
  refine va_calli (va_runV (As := [.int p0]) (rest := []) ⟨hx, hb, hml, hown, hts⟩ (kX1_isPlace l dC dI oF oS oA oB cA cB n h d mo th om sd po lr lv P V p0 s.heap.size hh hn) (cwV 1 hts gX1_cell_X1_isPlace rfl rfl rfl (by decide +kernel) ⟨Nat.le_of_ble_eq_true rfl, Nat.le_of_ble_eq_true rfl⟩) ⟨fun a U g mk q => by obtain ⟨q0, q1, qP, qK, qD⟩ := q; exact ⟨q0, q1, qP, va_K.moved (u := U) (U := U.calling g mk a) (Vm.Alike.refl U.vm) qK, qD⟩, va_recv hKc hPc (ci := 2) (q0 := 0) rfl rfl, fun U hU hW => ⟨rfl, by rw [hU], by rw [hU]; exact hPc, va_K.moved hW.alike hKc, hDc.weaken (fun _ _ _ _ => trivial)⟩⟩ rfl rfl hl.1 rfl (lv_room (Nat.le_of_ble_eq_true rfl)) dX1_cell_2 ⟨Nat.le_of_ble_eq_true rfl, Nat.le_of_ble_eq_true rfl⟩) hS (fun q _ h => hFc q h) hFc (fun r_1 u t H1 locs ht hvm hw hB hz1 hk1 hS => ?_)
  obtain ⟨hP1, hK1, hD1⟩ := hB
  rw [ht] at hP1
  have hK1 := va_K.moved hvm.symm hK1
  try dsimp only at hw
  obtain ⟨hP, hD⟩ := va_join (wr := []) (w1 := [(oF, .inr (2, [.int mo, .ref oS, .int th, .int om, .int sd, .int po, .int lr, .long lv, .int (nI d)])), (oS, .inr (1, [.ref oA, .ref oB, .int (nI h)])), (oA, .inl (cA, n, .inl P)), (oB, .inl (cB, n, .inr (.inl V)))]) hP hD [0, 1, 2, 3] [] rfl rfl (by decide) (by decide) hk1 hFc hP1 hD1
  generalize H1 = H at hP hS ⊢
  have hP : va_P (dC, dI) vwCl [(oF, .inr (2, [.int mo, .ref oS, .int th, .int om, .int sd, .int po, .int lr, .long lv, .int (nI d)])), (oS, .inr (1, [.ref oA, .ref oB, .int (nI h)])), (oA, .inl (cA, n, .inl P)), (oB, .inl (cB, n, .inr (.inl V)))] H := hP.sub [0, 1, 2, 3] rfl
  have hD : va_D A [(oF, .inr (2, [.int mo, .ref oS, .int th, .int om, .int sd, .int po, .int lr, .long lv, .int (nI d)])), (oS, .inr (1, [.ref oA, .ref oB, .int (nI h)])), (oA, .inl (cA, n, .inl P)), (oB, .inl (cB, n, .inr (.inl V)))] := hD.sub [0, 1, 2, 3] (by decide) rfl
  have hK : va_K (dC, dI) vwCl [(cA, .int), (cB, .long)] s := hK
  rcases hw with ⟨b_2, hw⟩ | ⟨b_2, hw⟩
  · -- isPl mo p0
    subst hw
    refine lv_if_ne (tgt := 18) hx hb dX1_cell_5 (by decide) (fun c_3 => ?_) (fun c_3 => ?_)
    · -- taken at 5: ¬ 1 = 0
      refine lv_aload_n hx hb dX1_cell_18 rfl (lv_at hl 0 rfl) ?_
      refine va_get (D := (dC, dI)) (ci := 2) (v := .ref oS) (C := RX1) (T := TX1) (N := 9) hx hb hts (by decide +kernel) hown hK hP 0 rfl rfl 1 (by decide) (hts (.fieldLink RX1 28 "RelativeFiles" "shelf" "LRelativeFiles$Shelf;") (by decide +kernel)) (fun _ h9 => h9) rfl dX1_cell_19 ?_
      refine lv_iload_n hx hb dX1_cell_22 rfl (lv_at hl 1 rfl) ?_
      have hPc := hP.sub (ws' := [(oS, .inr (1, [.ref oA, .ref oB, .int (nI h)])), (oA, .inl (cA, n, .inl P)), (oB, .inl (cB, n, .inr (.inl V)))]) [1, 2, 3] rfl
      have hDc := hD.sub (ws' := [(oS, .inr (1, [.ref oA, .ref oB, .int (nI h)])), (oA, .inl (cA, n, .inl P)), (oB, .inl (cB, n, .inr (.inl V)))]) [1, 2, 3] (by decide) rfl
      have hKc := hK.sub (tys' := [(cA, .int), (cB, .long)]) [0, 1] rfl
      have hFc := va_free (wc := [(oS, .inr (1, [.ref oA, .ref oB, .int (nI h)])), (oA, .inl (cA, n, .inl P)), (oB, .inl (cB, n, .inr (.inl V)))]) hD hS hA [1, 2, 3] rfl
      refine va_calll (va_runV (As := [.int p0]) (rest := []) ⟨hx, hb, hml, hown, hts⟩ (kX0_recordOf l dC dI oS oA oB cA cB n h P V p0 H.size hh hn) (cwV 1 hts gX1_cell_X0_recordOf rfl rfl rfl (by decide +kernel) ⟨Nat.le_of_ble_eq_true rfl, Nat.le_of_ble_eq_true rfl⟩) ⟨fun a U g mk q => by obtain ⟨q0, q1, qP, qK, qD⟩ := q; exact ⟨q0, q1, qP, va_K.moved (u := U) (U := U.calling g mk a) (Vm.Alike.refl U.vm) qK, qD⟩, va_recv hKc hPc (ci := 1) (q0 := 0) rfl rfl, fun U hU hW => ⟨rfl, by rw [hU], by rw [hU]; exact hPc, va_K.moved hW.alike hKc, hDc.weaken (fun _ _ _ _ => trivial)⟩⟩ rfl rfl hl.1 rfl (lv_room (Nat.le_of_ble_eq_true rfl)) dX1_cell_23 ⟨Nat.le_of_ble_eq_true rfl, Nat.le_of_ble_eq_true rfl⟩) hS (fun q _ h => hFc q h) hFc (fun r_4 u t H1 locs ht hvm hw hB hz1 hk1 hS => ?_)
      obtain ⟨hP1, hK1, hD1⟩ := hB
      rw [ht] at hP1
      have hK1 := va_K.moved hvm.symm hK1
      try dsimp only at hw
      obtain ⟨hP, hD⟩ := va_join (wr := [(oF, .inr (2, [.int mo, .ref oS, .int th, .int om, .int sd, .int po, .int lr, .long lv, .int (nI d)]))]) (w1 := [(oS, .inr (1, [.ref oA, .ref oB, .int (nI h)])), (oA, .inl (cA, n, .inl P)), (oB, .inl (cB, n, .inr (.inl V)))]) hP hD [1, 2, 3] [0] rfl rfl (by decide) (by decide) hk1 hFc hP1 hD1
      generalize H1 = H at hP hS ⊢
      have hP : va_P (dC, dI) vwCl [(oF, .inr (2, [.int mo, .ref oS, .int th, .int om, .int sd, .int po, .int lr, .long lv, .int (nI d)])), (oS, .inr (1, [.ref oA, .ref oB, .int (nI h)])), (oA, .inl (cA, n, .inl P)), (oB, .inl (cB, n, .inr (.inl V)))] H := hP.sub [0, 1, 2, 3] rfl
      have hD : va_D A [(oF, .inr (2, [.int mo, .ref oS, .int th, .int om, .int sd, .int po, .int lr, .long lv, .int (nI d)])), (oS, .inr (1, [.ref oA, .ref oB, .int (nI h)])), (oA, .inl (cA, n, .inl P)), (oB, .inl (cB, n, .inr (.inl V)))] := hD.sub [0, 1, 2, 3] (by decide) rfl
      have hK : va_K (dC, dI) vwCl [(cA, .int), (cB, .long)] s := hK
      subst hw
      subst hQ9
      exact W.lret (v := fRec P V h p0) hx hb hr (fun t ht hW => ⟨⟨fRec P V h p0, (), rfl, rfl, by rw [ht]; exact hP, va_K.moved hW.alike hK, hD⟩, hS.F ht⟩) hS.2.2 dX1_cell_26
    · -- not taken at 5: 1 = 0
      exact absurd c_3 (by decide)
  · -- ¬ (isPl mo p0)
    subst hw
    exact absurd hpl b_2

set_option maxHeartbeats 1000000 in
set_option maxRecDepth 100000 in
theorem kX1_init (l : Launch) (dC : Nat → ClassId) (dI : Nat → Nat → Nat) (oF : Nat) (p0 : Int32) (sz : Nat) : Met l yX1_init wsX1_init ({ frames := 2, cells := 3, slots := 1027, locals := 60 }) (va_Pc [.ref oF, .int p0] (fun U => U.heap.size = sz ∧ va_P (dC, dI) vwCl [(oF, .inr (2, [.int 0, .null, .int 0, .int 0, .int 0, .int 0, .int 0, .long 0, .int 0]))] U.heap ∧ va_K (dC, dI) vwCl [] U ∧ va_D (fun _ => True) [(oF, .inr (2, [.int 0, .null, .int 0, .int 0, .int 0, .int 0, .int 0, .long 0, .int 0]))])) (va_Qv (fun (_ : Unit) => True) (fun (_ : Unit) (t : State) => ∃ (oS oA oB : Nat) (cA cB : ClassId), va_P (dC, dI) vwCl (wF oF oS oA oB cA cB (min (cM p0) 512) (nI (cM p0)) (0, -1, 0, 0, 0, 0, 9, (fun _ => 0), (fun _ => 0), 0)) t.heap ∧ va_K (dC, dI) vwCl [(cA, .int), (cB, .long)] t ∧ va_D (va_A [(oF, .inr (2, [.int 0, .null, .int 0, .int 0, .int 0, .int 0, .int 0, .long 0, .int 0]))] sz) (wF oF oS oA oB cA cB (min (cM p0) 512) (nI (cM p0)) (0, -1, 0, 0, 0, 0, 9, (fun _ => 0), (fun _ => 0), 0))) (va_A [(oF, .inr (2, [.int 0, .null, .int 0, .int 0, .int 0, .int 0, .int 0, .long 0, .int 0]))] sz)) 3 1027 (va_A [(oF, .inr (2, [.int 0, .null, .int 0, .int 0, .int 0, .int 0, .int 0, .long 0, .int 0]))] sz) := by
  refine Met.ofW (cc := cX1_init) (maxL := 2) (ret := none) (by decide) rfl ?_
  intro p e s m args below meth c s₁ B hml hv
  obtain ⟨rfl, hsz, hP, hK, hD0⟩ := hv
  have hx := B.exec
  have hb := B.bytes
  have hr := B.returns
  have hts := atoms_spec (ws := wsX1_init) B.pre
  have hown : s.vm.findClass RX1 = some m.cls := findClass_of_methodNamed B.named
  have hlocks := B.notSynchronized
  have hin : meth.name = "<init>" := (name_of_methodNamed B.named B.method).1
  subst hsz
  have hD := hD0.self (sz := s.heap.size)
  generalize hAe : va_A [(oF, .inr (2, [.int 0, .null, .int 0, .int 0, .int 0, .int 0, .int 0, .long 0, .int 0]))] s.heap.size = A at hD ⊢
  have hA : ∀ q : Nat, s.heap.size ≤ q → A q := fun q h => by rw [← hAe]; exact Or.inr h
  have hS : va_S A s.heap s.heap [] := va_S.rf
  have hP : va_P (dC, dI) vwCl [(oF, .inr (2, [.int 0, .null, .int 0, .int 0, .int 0, .int 0, .int 0, .long 0, .int 0]))] s.heap := hP
  have hl := lv_entry ([.ref oF, .int p0]) (n := 2) (Nat.le_of_ble_eq_true rfl)
  rw [lg_entry_eq]
  generalize (lg_sl ([.ref oF, .int p0]) ++ List.replicate (2 - (lg_sl ([.ref oF, .int p0])).length) Slot.unset).toArray = ls at hl ⊢
  have hl : lv_has ls 2 [(0, .ref oF), (1, .int p0)] := hl
  refine W_name (fun Q hQ9 => ?_)
  refine lv_aload_n hx hb dX1_init_0 rfl (lv_at hl 0 rfl) ?_
  refine W.objInit hx hb hown (hts (.methodLink RX1 1 objectInit) (by decide +kernel)) (hts (.instanceMethod objectInit) (by decide +kernel)) (hts (.code objectInit ⟨#[0xb1]⟩ 1 none) (by decide +kernel)) rfl (by rw [hml]; exact hl.1) rfl dX1_init_1 (Nat.le_of_ble_eq_true rfl) (Nat.le_of_ble_eq_true rfl) ?_
  refine W.eq (g2 := F0 m 4 ls []) rfl ?_
  refine lv_aload_n hx hb dX1_init_4 rfl (lv_at hl 0 rfl) ?_
  refine lv_iconst (v := 0) hx hb dX1_init_5 (by decide) ?_
  refine lv_iload_n hx hb dX1_init_6 rfl (lv_at hl 1 rfl) ?_
  refine lv_ldc (v := 65536) hx hb hown (hts (.constant RX1 9 65536) (by decide +kernel)) dX1_init_7 ?_
  refine va_mmin hx hb (by rw [hml]; exact hl.1.symm) hown (hts (.methodLink RX1 10 Lib.Math.min.name) (by decide +kernel)) (hts (.static Lib.Math.min.name) (by decide +kernel)) (hts (.initialized "java/lang/Math") (by decide +kernel)) (hts (.code Lib.Math.min.name Lib.Math.min.code 2 (some .int)) (by decide +kernel)) (Nat.le_of_ble_eq_true rfl) (Nat.le_of_ble_eq_true rfl) (Nat.le_of_ble_eq_true rfl) (Nat.le_of_ble_eq_true rfl) dX1_init_9 ?_
  refine va_mmax hx hb (by rw [hml]; exact hl.1.symm) hown (hts (.methodLink RX1 16 Lib.Math.max.name) (by decide +kernel)) (hts (.static Lib.Math.max.name) (by decide +kernel)) (hts (.initialized "java/lang/Math") (by decide +kernel)) (hts (.code Lib.Math.max.name Lib.Math.max.code 2 (some .int)) (by decide +kernel)) (Nat.le_of_ble_eq_true rfl) (Nat.le_of_ble_eq_true rfl) (Nat.le_of_ble_eq_true rfl) (Nat.le_of_ble_eq_true rfl) dX1_init_12 ?_
  rw [show (if 0 < if 65536 < p0 then 65536 else p0 then if 65536 < p0 then 65536 else p0 else 0 : Int32) = nI (cM p0) from cM_cls p0]
  refine va_putF (D := (dC, dI)) (ci := 2) (v := .int (nI (cM p0))) (ty := .int) (C := RX1) (T := TX1) (N := 9) hx hb hts (by decide +kernel) tyX1 tyX1_ok nmX1 hown hK hP hD hS 0 rfl rfl 0 (by decide) (hts (.fieldLink RX1 19 "RelativeFiles" "most" "I") (by decide +kernel)) (fun _ h9 => h9) rfl hin rfl (by decide +kernel) rfl rfl (Nat.le_of_ble_eq_true rfl) dX1_init_15 (fun H locs hP hD hS => ?_)
  have hP : va_P (dC, dI) vwCl [(oF, .inr (2, [.int (nI (cM p0)), .null, .int 0, .int 0, .int 0, .int 0, .int 0, .long 0, .int 0]))] H := hP
  have hD : va_D A [(oF, .inr (2, [.int (nI (cM p0)), .null, .int 0, .int 0, .int 0, .int 0, .int 0, .long 0, .int 0]))] := hD
  refine lv_aload_n hx hb dX1_init_18 rfl (lv_at hl 0 rfl) ?_
  refine va_new (ci := 1) (fs := [.null, .null, .int 0]) (C := RX0) (T := TX0) (N := 3) hx hb hts (by decide +kernel) tyX0 tyX0_ok hown (hts (.classLink RX1 23 RX0) (by decide +kernel)) (hts (.instantiable RX0 3) (by decide +kernel)) (hts (.initialized RX0) (by decide +kernel)) hK hP hD hS hA rfl (fun j hj => by rcases (show j = 0 ∨ j = 1 ∨ j = 2 by omega) with rfl | rfl | rfl <;> rfl) (show 0 + 1 ≤ 3 by omega) (show 0 + 3 ≤ 1027 by omega) dX1_init_19 (fun q_1 H hP hD hS => ?_)
  have hP : va_P (dC, dI) vwCl [(oF, .inr (2, [.int (nI (cM p0)), .null, .int 0, .int 0, .int 0, .int 0, .int 0, .long 0, .int 0])), (q_1, .inr (1, [.null, .null, .int 0]))] H := hP
  have hD : va_D A [(oF, .inr (2, [.int (nI (cM p0)), .null, .int 0, .int 0, .int 0, .int 0, .int 0, .long 0, .int 0])), (q_1, .inr (1, [.null, .null, .int 0]))] := hD
  refine lv_dup hx hb dX1_init_22 rfl ?_
  refine lv_aload_n hx hb dX1_init_23 rfl (lv_at hl 0 rfl) ?_
  refine va_get (D := (dC, dI)) (ci := 2) (v := .int (nI (cM p0))) (C := RX1) (T := TX1) (N := 9) hx hb hts (by decide +kernel) hown hK hP 0 rfl rfl 0 (by decide) (hts (.fieldLink RX1 19 "RelativeFiles" "most" "I") (by decide +kernel)) (fun _ h9 => h9) rfl dX1_init_24 ?_
  refine lv_sipush (v := 512) hx hb dX1_init_27 (by decide) ?_
  refine va_mmin hx hb (by rw [hml]; exact hl.1.symm) hown (hts (.methodLink RX1 10 Lib.Math.min.name) (by decide +kernel)) (hts (.static Lib.Math.min.name) (by decide +kernel)) (hts (.initialized "java/lang/Math") (by decide +kernel)) (hts (.code Lib.Math.min.name Lib.Math.min.code 2 (some .int)) (by decide +kernel)) (Nat.le_of_ble_eq_true rfl) (Nat.le_of_ble_eq_true rfl) (Nat.le_of_ble_eq_true rfl) (Nat.le_of_ble_eq_true rfl) dX1_init_30 ?_
  rw [show (if 512 < nI (cM p0) then 512 else nI (cM p0) : Int32) = nI (min (cM p0) 512) from nI_min (cM p0) 512 (by have := cM_le p0; omega) (by decide)]
  have hPc := hP.sub (ws' := [(q_1, .inr (1, [.null, .null, .int 0]))]) [1] rfl
  have hDc := hD.sub (ws' := [(q_1, .inr (1, [.null, .null, .int 0]))]) [1] (by decide) rfl
  have hKc := hK.sub (tys' := []) [] rfl
  have hFc := va_free (wc := [(q_1, .inr (1, [.null, .null, .int 0]))]) hD hS hA [1] rfl
  refine va_callv (va_runI (As := [.int (nI (min (cM p0) 512))]) (rest := [.ref q_1, .ref oF]) ⟨hx, hb, hml, hown, hts⟩ (kX0_init l dC dI q_1 (min (cM p0) 512) H.size (by omega)) (cwI 1 hts gX1_init_X0_init rfl rfl rfl (hts (.initialized RX0) (by decide +kernel)) (hts (.methodLink RX1 25 yX0_init) (by decide +kernel)) (hts (.instanceMethod yX0_init) (by decide +kernel)) rfl (by decide +kernel) ⟨Nat.le_of_ble_eq_true rfl, Nat.le_of_ble_eq_true rfl⟩) ⟨fun a U g mk q => by obtain ⟨q0, q1, qP, qK, qD⟩ := q; exact ⟨q0, q1, qP, va_K.moved (u := U) (U := U.calling g mk a) (Vm.Alike.refl U.vm) qK, qD⟩, fun U hU hW => ⟨rfl, by rw [hU], by rw [hU]; exact hPc, va_K.moved hW.alike hKc, hDc.weaken (fun _ _ _ _ => trivial)⟩⟩ rfl rfl hl.1 rfl (lv_room (Nat.le_of_ble_eq_true rfl)) dX1_init_33 ⟨Nat.le_of_ble_eq_true rfl, Nat.le_of_ble_eq_true rfl⟩) hS (fun q _ h => hFc q h) hFc (fun u t H1 locs ht hvm hw hB hz1 hk1 hS => ?_)
  obtain ⟨oA_2, oB_3, cA_4, cB_5, hP1, hK1, hD1⟩ := hB
  rw [ht] at hP1
  have hK1 := va_K.moved hvm.symm hK1
  try dsimp only at hw
  obtain ⟨hP, hD⟩ := va_join (wr := [(oF, .inr (2, [.int (nI (cM p0)), .null, .int 0, .int 0, .int 0, .int 0, .int 0, .long 0, .int 0]))]) (w1 := [(q_1, .inr (1, [.ref oA_2, .ref oB_3, .int (nI 0)])), (oA_2, .inl (cA_4, (min (cM p0) 512), .inl (fun _ => 0))), (oB_3, .inl (cB_5, (min (cM p0) 512), .inr (.inl (fun _ => 0))))]) hP hD [1] [0] rfl rfl (by decide) (by decide) hk1 hFc hP1 hD1
  have hK := hK.app hK1
  generalize H1 = H at hP hS ⊢
  have hP : va_P (dC, dI) vwCl [(oF, .inr (2, [.int (nI (cM p0)), .null, .int 0, .int 0, .int 0, .int 0, .int 0, .long 0, .int 0])), (q_1, .inr (1, [.ref oA_2, .ref oB_3, .int (nI 0)])), (oA_2, .inl (cA_4, (min (cM p0) 512), .inl (fun _ => 0))), (oB_3, .inl (cB_5, (min (cM p0) 512), .inr (.inl (fun _ => 0))))] H := hP.sub [0, 1, 2, 3] rfl
  have hD : va_D A [(oF, .inr (2, [.int (nI (cM p0)), .null, .int 0, .int 0, .int 0, .int 0, .int 0, .long 0, .int 0])), (q_1, .inr (1, [.ref oA_2, .ref oB_3, .int (nI 0)])), (oA_2, .inl (cA_4, (min (cM p0) 512), .inl (fun _ => 0))), (oB_3, .inl (cB_5, (min (cM p0) 512), .inr (.inl (fun _ => 0))))] := hD.sub [0, 1, 2, 3] (by decide) rfl
  have hK : va_K (dC, dI) vwCl [(cA_4, .int), (cB_5, .long)] s := hK
  refine va_putF (D := (dC, dI)) (ci := 2) (v := .ref q_1) (ty := (.object "RelativeFiles$Shelf")) (C := RX1) (T := TX1) (N := 9) hx hb hts (by decide +kernel) tyX1 tyX1_ok nmX1 hown hK hP hD hS 0 rfl rfl 1 (by decide) (hts (.fieldLink RX1 28 "RelativeFiles" "shelf" "LRelativeFiles$Shelf;") (by decide +kernel)) (fun _ h9 => h9) rfl hin rfl (by decide +kernel) rfl rfl (Nat.le_of_ble_eq_true rfl) dX1_init_36 (fun H locs hP hD hS => ?_)
  have hP : va_P (dC, dI) vwCl [(oF, .inr (2, [.int (nI (cM p0)), .ref q_1, .int 0, .int 0, .int 0, .int 0, .int 0, .long 0, .int 0])), (q_1, .inr (1, [.ref oA_2, .ref oB_3, .int (nI 0)])), (oA_2, .inl (cA_4, (min (cM p0) 512), .inl (fun _ => 0))), (oB_3, .inl (cB_5, (min (cM p0) 512), .inr (.inl (fun _ => 0))))] H := hP
  have hD : va_D A [(oF, .inr (2, [.int (nI (cM p0)), .ref q_1, .int 0, .int 0, .int 0, .int 0, .int 0, .long 0, .int 0])), (q_1, .inr (1, [.ref oA_2, .ref oB_3, .int (nI 0)])), (oA_2, .inl (cA_4, (min (cM p0) 512), .inl (fun _ => 0))), (oB_3, .inl (cB_5, (min (cM p0) 512), .inr (.inl (fun _ => 0))))] := hD
  refine lv_aload_n hx hb dX1_init_39 rfl (lv_at hl 0 rfl) ?_
  refine lv_iconst (v := 0) hx hb dX1_init_40 (by decide) ?_
  refine va_put (D := (dC, dI)) (ci := 2) (v := .int 0) (ty := .boolean) (C := RX1) (T := TX1) (N := 9) hx hb hts (by decide +kernel) tyX1 tyX1_ok nmX1 hown hK hP hD hS 0 rfl rfl 2 (by decide) (hts (.fieldLink RX1 32 "RelativeFiles" "there" "Z") (by decide +kernel)) (fun _ h9 => h9) rfl (by decide +kernel) (by decide) (by decide) (Nat.le_of_ble_eq_true rfl) dX1_init_41 (fun H locs hP hD hS => ?_)
  have hP : va_P (dC, dI) vwCl [(oF, .inr (2, [.int (nI (cM p0)), .ref q_1, .int 0, .int 0, .int 0, .int 0, .int 0, .long 0, .int 0])), (q_1, .inr (1, [.ref oA_2, .ref oB_3, .int (nI 0)])), (oA_2, .inl (cA_4, (min (cM p0) 512), .inl (fun _ => 0))), (oB_3, .inl (cB_5, (min (cM p0) 512), .inr (.inl (fun _ => 0))))] H := hP
  have hD : va_D A [(oF, .inr (2, [.int (nI (cM p0)), .ref q_1, .int 0, .int 0, .int 0, .int 0, .int 0, .long 0, .int 0])), (q_1, .inr (1, [.ref oA_2, .ref oB_3, .int (nI 0)])), (oA_2, .inl (cA_4, (min (cM p0) 512), .inl (fun _ => 0))), (oB_3, .inl (cB_5, (min (cM p0) 512), .inr (.inl (fun _ => 0))))] := hD
  refine lv_aload_n hx hb dX1_init_44 rfl (lv_at hl 0 rfl) ?_
  refine lv_iconst (v := (-1)) hx hb dX1_init_45 (by decide) ?_
  refine va_put (D := (dC, dI)) (ci := 2) (v := .int (-1)) (ty := .int) (C := RX1) (T := TX1) (N := 9) hx hb hts (by decide +kernel) tyX1 tyX1_ok nmX1 hown hK hP hD hS 0 rfl rfl 3 (by decide) (hts (.fieldLink RX1 36 "RelativeFiles" "openMode" "I") (by decide +kernel)) (fun _ h9 => h9) rfl (by decide +kernel) rfl rfl (Nat.le_of_ble_eq_true rfl) dX1_init_46 (fun H locs hP hD hS => ?_)
  have hP : va_P (dC, dI) vwCl [(oF, .inr (2, [.int (nI (cM p0)), .ref q_1, .int 0, .int (-1), .int 0, .int 0, .int 0, .long 0, .int 0])), (q_1, .inr (1, [.ref oA_2, .ref oB_3, .int (nI 0)])), (oA_2, .inl (cA_4, (min (cM p0) 512), .inl (fun _ => 0))), (oB_3, .inl (cB_5, (min (cM p0) 512), .inr (.inl (fun _ => 0))))] H := hP
  have hD : va_D A [(oF, .inr (2, [.int (nI (cM p0)), .ref q_1, .int 0, .int (-1), .int 0, .int 0, .int 0, .long 0, .int 0])), (q_1, .inr (1, [.ref oA_2, .ref oB_3, .int (nI 0)])), (oA_2, .inl (cA_4, (min (cM p0) 512), .inl (fun _ => 0))), (oB_3, .inl (cB_5, (min (cM p0) 512), .inr (.inl (fun _ => 0))))] := hD
  refine lv_aload_n hx hb dX1_init_49 rfl (lv_at hl 0 rfl) ?_
  refine lv_iconst (v := 0) hx hb dX1_init_50 (by decide) ?_
  refine va_put (D := (dC, dI)) (ci := 2) (v := .int 0) (ty := .int) (C := RX1) (T := TX1) (N := 9) hx hb hts (by decide +kernel) tyX1 tyX1_ok nmX1 hown hK hP hD hS 0 rfl rfl 4 (by decide) (hts (.fieldLink RX1 39 "RelativeFiles" "standing" "I") (by decide +kernel)) (fun _ h9 => h9) rfl (by decide +kernel) rfl rfl (Nat.le_of_ble_eq_true rfl) dX1_init_51 (fun H locs hP hD hS => ?_)
  have hP : va_P (dC, dI) vwCl [(oF, .inr (2, [.int (nI (cM p0)), .ref q_1, .int 0, .int (-1), .int 0, .int 0, .int 0, .long 0, .int 0])), (q_1, .inr (1, [.ref oA_2, .ref oB_3, .int (nI 0)])), (oA_2, .inl (cA_4, (min (cM p0) 512), .inl (fun _ => 0))), (oB_3, .inl (cB_5, (min (cM p0) 512), .inr (.inl (fun _ => 0))))] H := hP
  have hD : va_D A [(oF, .inr (2, [.int (nI (cM p0)), .ref q_1, .int 0, .int (-1), .int 0, .int 0, .int 0, .long 0, .int 0])), (q_1, .inr (1, [.ref oA_2, .ref oB_3, .int (nI 0)])), (oA_2, .inl (cA_4, (min (cM p0) 512), .inl (fun _ => 0))), (oB_3, .inl (cB_5, (min (cM p0) 512), .inr (.inl (fun _ => 0))))] := hD
  refine lv_aload_n hx hb dX1_init_54 rfl (lv_at hl 0 rfl) ?_
  refine lv_iconst (v := 0) hx hb dX1_init_55 (by decide) ?_
  refine va_put (D := (dC, dI)) (ci := 2) (v := .int 0) (ty := .int) (C := RX1) (T := TX1) (N := 9) hx hb hts (by decide +kernel) tyX1 tyX1_ok nmX1 hown hK hP hD hS 0 rfl rfl 5 (by decide) (hts (.fieldLink RX1 42 "RelativeFiles" "position" "I") (by decide +kernel)) (fun _ h9 => h9) rfl (by decide +kernel) rfl rfl (Nat.le_of_ble_eq_true rfl) dX1_init_56 (fun H locs hP hD hS => ?_)
  have hP : va_P (dC, dI) vwCl [(oF, .inr (2, [.int (nI (cM p0)), .ref q_1, .int 0, .int (-1), .int 0, .int 0, .int 0, .long 0, .int 0])), (q_1, .inr (1, [.ref oA_2, .ref oB_3, .int (nI 0)])), (oA_2, .inl (cA_4, (min (cM p0) 512), .inl (fun _ => 0))), (oB_3, .inl (cB_5, (min (cM p0) 512), .inr (.inl (fun _ => 0))))] H := hP
  have hD : va_D A [(oF, .inr (2, [.int (nI (cM p0)), .ref q_1, .int 0, .int (-1), .int 0, .int 0, .int 0, .long 0, .int 0])), (q_1, .inr (1, [.ref oA_2, .ref oB_3, .int (nI 0)])), (oA_2, .inl (cA_4, (min (cM p0) 512), .inl (fun _ => 0))), (oB_3, .inl (cB_5, (min (cM p0) 512), .inr (.inl (fun _ => 0))))] := hD
  refine lv_aload_n hx hb dX1_init_59 rfl (lv_at hl 0 rfl) ?_
  refine lv_iconst (v := 0) hx hb dX1_init_60 (by decide) ?_
  refine va_put (D := (dC, dI)) (ci := 2) (v := .int 0) (ty := .int) (C := RX1) (T := TX1) (N := 9) hx hb hts (by decide +kernel) tyX1 tyX1_ok nmX1 hown hK hP hD hS 0 rfl rfl 6 (by decide) (hts (.fieldLink RX1 45 "RelativeFiles" "lastRead" "I") (by decide +kernel)) (fun _ h9 => h9) rfl (by decide +kernel) rfl rfl (Nat.le_of_ble_eq_true rfl) dX1_init_61 (fun H locs hP hD hS => ?_)
  have hP : va_P (dC, dI) vwCl [(oF, .inr (2, [.int (nI (cM p0)), .ref q_1, .int 0, .int (-1), .int 0, .int 0, .int 0, .long 0, .int 0])), (q_1, .inr (1, [.ref oA_2, .ref oB_3, .int (nI 0)])), (oA_2, .inl (cA_4, (min (cM p0) 512), .inl (fun _ => 0))), (oB_3, .inl (cB_5, (min (cM p0) 512), .inr (.inl (fun _ => 0))))] H := hP
  have hD : va_D A [(oF, .inr (2, [.int (nI (cM p0)), .ref q_1, .int 0, .int (-1), .int 0, .int 0, .int 0, .long 0, .int 0])), (q_1, .inr (1, [.ref oA_2, .ref oB_3, .int (nI 0)])), (oA_2, .inl (cA_4, (min (cM p0) 512), .inl (fun _ => 0))), (oB_3, .inl (cB_5, (min (cM p0) 512), .inr (.inl (fun _ => 0))))] := hD
  refine lv_aload_n hx hb dX1_init_64 rfl (lv_at hl 0 rfl) ?_
  refine lv_lconst (v := 0) hx hb dX1_init_65 (by decide) ?_
  refine va_put (D := (dC, dI)) (ci := 2) (v := .long 0) (ty := .long) (C := RX1) (T := TX1) (N := 9) hx hb hts (by decide +kernel) tyX1 tyX1_ok nmX1 hown hK hP hD hS 0 rfl rfl 7 (by decide) (hts (.fieldLink RX1 48 "RelativeFiles" "lastValue" "J") (by decide +kernel)) (fun _ h9 => h9) rfl (by decide +kernel) rfl rfl (Nat.le_of_ble_eq_true rfl) dX1_init_66 (fun H locs hP hD hS => ?_)
  have hP : va_P (dC, dI) vwCl [(oF, .inr (2, [.int (nI (cM p0)), .ref q_1, .int 0, .int (-1), .int 0, .int 0, .int 0, .long 0, .int 0])), (q_1, .inr (1, [.ref oA_2, .ref oB_3, .int (nI 0)])), (oA_2, .inl (cA_4, (min (cM p0) 512), .inl (fun _ => 0))), (oB_3, .inl (cB_5, (min (cM p0) 512), .inr (.inl (fun _ => 0))))] H := hP
  have hD : va_D A [(oF, .inr (2, [.int (nI (cM p0)), .ref q_1, .int 0, .int (-1), .int 0, .int 0, .int 0, .long 0, .int 0])), (q_1, .inr (1, [.ref oA_2, .ref oB_3, .int (nI 0)])), (oA_2, .inl (cA_4, (min (cM p0) 512), .inl (fun _ => 0))), (oB_3, .inl (cB_5, (min (cM p0) 512), .inr (.inl (fun _ => 0))))] := hD
  refine lv_aload_n hx hb dX1_init_69 rfl (lv_at hl 0 rfl) ?_
  refine lv_bipush (v := 9) hx hb dX1_init_70 (by decide) ?_
  refine va_put (D := (dC, dI)) (ci := 2) (v := .int 9) (ty := .int) (C := RX1) (T := TX1) (N := 9) hx hb hts (by decide +kernel) tyX1 tyX1_ok nmX1 hown hK hP hD hS 0 rfl rfl 8 (by decide) (hts (.fieldLink RX1 52 "RelativeFiles" "keyDigits" "I") (by decide +kernel)) (fun _ h9 => h9) rfl (by decide +kernel) rfl rfl (Nat.le_of_ble_eq_true rfl) dX1_init_72 (fun H locs hP hD hS => ?_)
  have hP : va_P (dC, dI) vwCl [(oF, .inr (2, [.int (nI (cM p0)), .ref q_1, .int 0, .int (-1), .int 0, .int 0, .int 0, .long 0, .int 9])), (q_1, .inr (1, [.ref oA_2, .ref oB_3, .int (nI 0)])), (oA_2, .inl (cA_4, (min (cM p0) 512), .inl (fun _ => 0))), (oB_3, .inl (cB_5, (min (cM p0) 512), .inr (.inl (fun _ => 0))))] H := hP
  have hD : va_D A [(oF, .inr (2, [.int (nI (cM p0)), .ref q_1, .int 0, .int (-1), .int 0, .int 0, .int 0, .long 0, .int 9])), (q_1, .inr (1, [.ref oA_2, .ref oB_3, .int (nI 0)])), (oA_2, .inl (cA_4, (min (cM p0) 512), .inl (fun _ => 0))), (oB_3, .inl (cB_5, (min (cM p0) 512), .inr (.inl (fun _ => 0))))] := hD
  subst hQ9
  refine W.widen (k := 3) (n := 1027) (by omega) (by omega) ?_
  exact W.vret hx hb hr (fun t ht hW => ⟨⟨(), rfl, trivial, q_1, oA_2, oB_3, cA_4, cB_5, by rw [ht]; exact hP, va_K.moved hW.alike hK, hD⟩, hS.F ht⟩) hS.2.2 dX1_init_75
end
section
set_option maxHeartbeats 1000000 in
set_option maxRecDepth 100000 in
theorem kX1_start (l : Launch) (dC : Nat → ClassId) (dI : Nat → Nat → Nat) (oF oS oA oB : Nat) (cA cB : ClassId) (n h d : Nat) (mo th om sd po lr : Int32) (lv : Int64) (P : Nat → Int32) (V : Nat → Int64) (p0 p1 : Int32) (sz : Nat) (hh : h ≤ n) (hn : n ≤ 512) : Met l yX1_start wsX1_start ({ frames := 3, cells := 0, slots := 0, locals := 66 }) (va_Pc [.ref oF, .int p0, .int p1] (fun U => U.heap.size = sz ∧ va_P (dC, dI) vwCl [(oF, .inr (2, [.int mo, .ref oS, .int th, .int om, .int sd, .int po, .int lr, .long lv, .int (nI d)])), (oS, .inr (1, [.ref oA, .ref oB, .int (nI h)])), (oA, .inl (cA, n, .inl P)), (oB, .inl (cB, n, .inr (.inl V)))] U.heap ∧ va_K (dC, dI) vwCl [(cA, .int), (cB, .long)] U ∧ va_D (fun _ => True) [(oF, .inr (2, [.int mo, .ref oS, .int th, .int om, .int sd, .int po, .int lr, .long lv, .int (nI d)])), (oS, .inr (1, [.ref oA, .ref oB, .int (nI h)])), (oA, .inl (cA, n, .inl P)), (oB, .inl (cB, n, .inr (.inl V)))])) (va_Qi (fun (r : Int32) (_ : Unit) => r = (fStart p0 p1 (th, om, sd, po, lr, lv, d, P, V, h)).1) (fun (_ : Unit) (t : State) => va_P (dC, dI) vwCl (wF oF oS oA oB cA cB n mo (fStart p0 p1 (th, om, sd, po, lr, lv, d, P, V, h)).2) t.heap ∧ va_K (dC, dI) vwCl [(cA, .int), (cB, .long)] t ∧ va_D (va_A [(oF, .inr (2, [.int mo, .ref oS, .int th, .int om, .int sd, .int po, .int lr, .long lv, .int (nI d)])), (oS, .inr (1, [.ref oA, .ref oB, .int (nI h)])), (oA, .inl (cA, n, .inl P)), (oB, .inl (cB, n, .inr (.inl V)))] sz) (wF oF oS oA oB cA cB n mo (fStart p0 p1 (th, om, sd, po, lr, lv, d, P, V, h)).2)) (va_A [(oF, .inr (2, [.int mo, .ref oS, .int th, .int om, .int sd, .int po, .int lr, .long lv, .int (nI d)])), (oS, .inr (1, [.ref oA, .ref oB, .int (nI h)])), (oA, .inl (cA, n, .inl P)), (oB, .inl (cB, n, .inr (.inl V)))] sz)) 0 0 (va_A [(oF, .inr (2, [.int mo, .ref oS, .int th, .int om, .int sd, .int po, .int lr, .long lv, .int (nI d)])), (oS, .inr (1, [.ref oA, .ref oB, .int (nI h)])), (oA, .inl (cA, n, .inl P)), (oB, .inl (cB, n, .inr (.inl V)))] sz) := by
  refine Met.ofW (cc := cX1_start) (maxL := 5) (ret := (some .int)) (by decide) rfl ?_
  intro p e s m args below meth c s₁ B hml hv
  obtain ⟨rfl, hsz, hP, hK, hD0⟩ := hv
  have hx := B.exec
  have hb := B.bytes
  have hr := B.returns
  have hts := atoms_spec (ws := wsX1_start) B.pre
  have hown : s.vm.findClass RX1 = some m.cls := findClass_of_methodNamed B.named
  have hlocks := B.notSynchronized
  subst hsz
  have hD := hD0.self (sz := s.heap.size)
  generalize hAe : va_A [(oF, .inr (2, [.int mo, .ref oS, .int th, .int om, .int sd, .int po, .int lr, .long lv, .int (nI d)])), (oS, .inr (1, [.ref oA, .ref oB, .int (nI h)])), (oA, .inl (cA, n, .inl P)), (oB, .inl (cB, n, .inr (.inl V)))] s.heap.size = A at hD ⊢
  have hA : ∀ q : Nat, s.heap.size ≤ q → A q := fun q h => by rw [← hAe]; exact Or.inr h
  have hS : va_S A s.heap s.heap [] := va_S.rf
  have hP : va_P (dC, dI) vwCl [(oF, .inr (2, [.int mo, .ref oS, .int th, .int om, .int sd, .int po, .int lr, .long lv, .int (nI d)])), (oS, .inr (1, [.ref oA, .ref oB, .int (nI h)])), (oA, .inl (cA, n, .inl P)), (oB, .inl (cB, n, .inr (.inl V)))] s.heap := hP
  have hl := lv_entry ([.ref oF, .int p0, .int p1]) (n := 5) (Nat.le_of_ble_eq_true rfl)
  rw [lg_entry_eq]
  generalize (lg_sl ([.ref oF, .int p0, .int p1]) ++ List.replicate (5 - (lg_sl ([.ref oF, .int p0, .int p1])).length) Slot.unset).toArray = ls at hl ⊢
  have hl : lv_has ls 5 [(0, .ref oF), (1, .int p0), (2, .int p1)] := hl
  refine W_name (fun Q hQ9 => ?_)
  refine lv_iload_n hx hb dX1_start_0 rfl (lv_at hl 1 rfl) ?_
  refine lv_if_lt (tgt := 9) hx hb dX1_start_1 (by decide) (fun c_1 => ?_) (fun c_1 => ?_)
  · -- taken at 1: p0 < 0
    refine lv_iconst (v := (-1)) hx hb dX1_start_9 (by decide) ?_
    subst hQ9
    have e9 : fStart p0 p1 (th, om, sd, po, lr, lv, d, P, V, h) = ((-1), (th, om, sd, po, lr, lv, d, P, V, h)) := by simp only [fStart, if_pos c_1]
    rw [e9]
    exact W.iret (v := (-1)) hx hb hr (fun t ht hW => ⟨⟨(-1), (), rfl, rfl, by rw [ht]; exact hP, va_K.moved hW.alike hK, hD⟩, hS.F ht⟩) hS.2.2 dX1_start_10
  · -- not taken at 1: ¬ p0 < 0
    refine lv_iload_n hx hb dX1_start_4 rfl (lv_at hl 1 rfl) ?_
    refine lv_iconst (v := 4) hx hb dX1_start_5 (by decide) ?_
    refine lv_icmp_le (tgt := 11) hx hb dX1_start_6 (by decide) (fun c_2 => ?_) (fun c_2 => ?_)
    · -- taken at 6: p0 ≤ 4
      refine lv_aload_n hx hb dX1_start_11 rfl (lv_at hl 0 rfl) ?_
      have hPc := hP.sub (ws' := [(oF, .inr (2, [.int mo, .ref oS, .int th, .int om, .int sd, .int po, .int lr, .long lv, .int (nI d)])), (oS, .inr (1, [.ref oA, .ref oB, .int (nI h)])), (oA, .inl (cA, n, .inl P)), (oB, .inl (cB, n, .inr (.inl V)))]) [0, 1, 2, 3] rfl
      have hDc := hD.sub (ws' := [(oF, .inr (2, [.int mo, .ref oS, .int th, .int om, .int sd, .int po, .int lr, .long lv, .int (nI d)])), (oS, .inr (1, [.ref oA, .ref oB, .int (nI h)])), (oA, .inl (cA, n, .inl P)), (oB, .inl (cB, n, .inr (.inl V)))]) [0, 1, 2, 3] (by decide) rfl
      have hKc := hK.sub (tys' := [(cA, .int), (cB, .long)]) [0, 1] rfl
      have hFc := va_free (wc := [(oF, .inr (2, [.int mo, .ref oS, .int th, .int om, .int sd, .int po, .int lr, .long lv, .int (nI d)])), (oS, .inr (1, [.ref oA, .ref oB, .int (nI h)])), (oA, .inl (cA, n, .inl P)), (oB, .inl (cB, n, .inr (.inl V)))]) hD hS hA [0, 1, 2, 3] rfl
      refine va_calli (va_runV (As := []) (rest := []) ⟨hx, hb, hml, hown, hts⟩ (kX1_refusalToRead l dC dI oF oS oA oB cA cB n h d mo th om sd po lr lv P V  s.heap.size hh hn) (cwV 0 hts gX1_start_X1_refusalToRead rfl rfl rfl (by decide +kernel) ⟨Nat.le_of_ble_eq_true rfl, Nat.le_of_ble_eq_true rfl⟩) ⟨fun a U g mk q => by obtain ⟨q0, q1, qP, qK, qD⟩ := q; exact ⟨q0, q1, qP, va_K.moved (u := U) (U := U.calling g mk a) (Vm.Alike.refl U.vm) qK, qD⟩, va_recv hKc hPc (ci := 2) (q0 := 0) rfl rfl, fun U hU hW => ⟨rfl, by rw [hU], by rw [hU]; exact hPc, va_K.moved hW.alike hKc, hDc.weaken (fun _ _ _ _ => trivial)⟩⟩ rfl rfl hl.1 rfl (lv_room (Nat.le_of_ble_eq_true rfl)) dX1_start_12 ⟨Nat.le_of_ble_eq_true rfl, Nat.le_of_ble_eq_true rfl⟩) hS (fun q _ h => hFc q h) hFc (fun r_3 u t H1 locs ht hvm hw hB hz1 hk1 hS => ?_)
      obtain ⟨hP1, hK1, hD1⟩ := hB
      rw [ht] at hP1
      have hK1 := va_K.moved hvm.symm hK1
      try dsimp only at hw
      obtain ⟨hP, hD⟩ := va_join (wr := []) (w1 := [(oF, .inr (2, [.int mo, .ref oS, .int th, .int om, .int sd, .int po, .int lr, .long lv, .int (nI d)])), (oS, .inr (1, [.ref oA, .ref oB, .int (nI h)])), (oA, .inl (cA, n, .inl P)), (oB, .inl (cB, n, .inr (.inl V)))]) hP hD [0, 1, 2, 3] [] rfl rfl (by decide) (by decide) hk1 hFc hP1 hD1
      generalize H1 = H at hP hS ⊢
      have hP : va_P (dC, dI) vwCl [(oF, .inr (2, [.int mo, .ref oS, .int th, .int om, .int sd, .int po, .int lr, .long lv, .int (nI d)])), (oS, .inr (1, [.ref oA, .ref oB, .int (nI h)])), (oA, .inl (cA, n, .inl P)), (oB, .inl (cB, n, .inr (.inl V)))] H := hP.sub [0, 1, 2, 3] rfl
      have hD : va_D A [(oF, .inr (2, [.int mo, .ref oS, .int th, .int om, .int sd, .int po, .int lr, .long lv, .int (nI d)])), (oS, .inr (1, [.ref oA, .ref oB, .int (nI h)])), (oA, .inl (cA, n, .inl P)), (oB, .inl (cB, n, .inr (.inl V)))] := hD.sub [0, 1, 2, 3] (by decide) rfl
      have hK : va_K (dC, dI) vwCl [(cA, .int), (cB, .long)] s := hK
      subst hw
      refine lv_istore_n (lv' := [(3, .int (fRef om)), (0, .ref oF), (1, .int p0), (2, .int p1)]) hx hb dX1_start_15 rfl hl (by decide) rfl (fun ls hl => ?_)
      refine lv_iload_n hx hb dX1_start_16 rfl (lv_at hl 0 rfl) ?_
      refine lv_if_eq (tgt := 22) hx hb dX1_start_17 (by decide) (fun c_4 => ?_) (fun c_4 => ?_)
      · -- taken at 17: (fRef om) = 0
        refine lv_aload_n hx hb dX1_start_22 rfl (lv_at hl 1 rfl) ?_
        refine lv_iload_n hx hb dX1_start_23 rfl (lv_at hl 2 rfl) ?_
        refine lv_iload_n hx hb dX1_start_24 rfl (lv_at hl 3 rfl) ?_
        have hPc := hP.sub (ws' := [(oF, .inr (2, [.int mo, .ref oS, .int th, .int om, .int sd, .int po, .int lr, .long lv, .int (nI d)])), (oS, .inr (1, [.ref oA, .ref oB, .int (nI h)])), (oA, .inl (cA, n, .inl P)), (oB, .inl (cB, n, .inr (.inl V)))]) [0, 1, 2, 3] rfl
        have hDc := hD.sub (ws' := [(oF, .inr (2, [.int mo, .ref oS, .int th, .int om, .int sd, .int po, .int lr, .long lv, .int (nI d)])), (oS, .inr (1, [.ref oA, .ref oB, .int (nI h)])), (oA, .inl (cA, n, .inl P)), (oB, .inl (cB, n, .inr (.inl V)))]) [0, 1, 2, 3] (by decide) rfl
        have hKc := hK.sub (tys' := [(cA, .int), (cB, .long)]) [0, 1] rfl
        have hFc := va_free (wc := [(oF, .inr (2, [.int mo, .ref oS, .int th, .int om, .int sd, .int po, .int lr, .long lv, .int (nI d)])), (oS, .inr (1, [.ref oA, .ref oB, .int (nI h)])), (oA, .inl (cA, n, .inl P)), (oB, .inl (cB, n, .inr (.inl V)))]) hD hS hA [0, 1, 2, 3] rfl
        refine va_calli (va_runV (As := [.int p0, .int p1]) (rest := []) ⟨hx, hb, hml, hown, hts⟩ (kX1_placeToStart l dC dI oF oS oA oB cA cB n h d mo th om sd po lr lv P V p0 p1 H.size hh hn) (cwV 2 hts gX1_start_X1_placeToStart rfl rfl rfl (by decide +kernel) ⟨Nat.le_of_ble_eq_true rfl, Nat.le_of_ble_eq_true rfl⟩) ⟨fun a U g mk q => by obtain ⟨q0, q1, qP, qK, qD⟩ := q; exact ⟨q0, q1, qP, va_K.moved (u := U) (U := U.calling g mk a) (Vm.Alike.refl U.vm) qK, qD⟩, va_recv hKc hPc (ci := 2) (q0 := 0) rfl rfl, fun U hU hW => ⟨rfl, by rw [hU], by rw [hU]; exact hPc, va_K.moved hW.alike hKc, hDc.weaken (fun _ _ _ _ => trivial)⟩⟩ rfl rfl hl.1 rfl (lv_room (Nat.le_of_ble_eq_true rfl)) dX1_start_25 ⟨Nat.le_of_ble_eq_true rfl, Nat.le_of_ble_eq_true rfl⟩) hS (fun q _ h => hFc q h) hFc (fun r_5 u t H1 locs ht hvm hw hB hz1 hk1 hS => ?_)
        obtain ⟨hP1, hK1, hD1⟩ := hB
        rw [ht] at hP1
        have hK1 := va_K.moved hvm.symm hK1
        try dsimp only at hw
        obtain ⟨hP, hD⟩ := va_join (wr := []) (w1 := [(oF, .inr (2, [.int mo, .ref oS, .int th, .int om, .int sd, .int po, .int lr, .long lv, .int (nI d)])), (oS, .inr (1, [.ref oA, .ref oB, .int (nI h)])), (oA, .inl (cA, n, .inl P)), (oB, .inl (cB, n, .inr (.inl V)))]) hP hD [0, 1, 2, 3] [] rfl rfl (by decide) (by decide) hk1 hFc hP1 hD1
        generalize H1 = H at hP hS ⊢
        have hP : va_P (dC, dI) vwCl [(oF, .inr (2, [.int mo, .ref oS, .int th, .int om, .int sd, .int po, .int lr, .long lv, .int (nI d)])), (oS, .inr (1, [.ref oA, .ref oB, .int (nI h)])), (oA, .inl (cA, n, .inl P)), (oB, .inl (cB, n, .inr (.inl V)))] H := hP.sub [0, 1, 2, 3] rfl
        have hD : va_D A [(oF, .inr (2, [.int mo, .ref oS, .int th, .int om, .int sd, .int po, .int lr, .long lv, .int (nI d)])), (oS, .inr (1, [.ref oA, .ref oB, .int (nI h)])), (oA, .inl (cA, n, .inl P)), (oB, .inl (cB, n, .inr (.inl V)))] := hD.sub [0, 1, 2, 3] (by decide) rfl
        have hK : va_K (dC, dI) vwCl [(cA, .int), (cB, .long)] s := hK
        subst hw
        refine lv_istore (lv' := [(4, .int (fPS P h p0 p1)), (3, .int (fRef om)), (0, .ref oF), (1, .int p0), (2, .int p1)]) hx hb dX1_start_28 hl (by decide) rfl (fun ls hl => ?_)
        refine lv_iload hx hb dX1_start_30 (lv_at hl 0 rfl) ?_
        refine lv_if_ne (tgt := 42) hx hb dX1_start_32 (by decide) (fun c_6 => ?_) (fun c_6 => ?_)
        · -- taken at 32: ¬ (fPS P h p0 p1) = 0
          refine lv_aload_n hx hb dX1_start_42 rfl (lv_at hl 2 rfl) ?_
          refine lv_iconst (v := 1) hx hb dX1_start_43 (by decide) ?_
          refine lv_iload hx hb dX1_start_44 (lv_at hl 0 rfl) ?_
          have hPc := hP.sub (ws' := [(oF, .inr (2, [.int mo, .ref oS, .int th, .int om, .int sd, .int po, .int lr, .long lv, .int (nI d)])), (oS, .inr (1, [.ref oA, .ref oB, .int (nI h)])), (oA, .inl (cA, n, .inl P)), (oB, .inl (cB, n, .inr (.inl V)))]) [0, 1, 2, 3] rfl
          have hDc := hD.sub (ws' := [(oF, .inr (2, [.int mo, .ref oS, .int th, .int om, .int sd, .int po, .int lr, .long lv, .int (nI d)])), (oS, .inr (1, [.ref oA, .ref oB, .int (nI h)])), (oA, .inl (cA, n, .inl P)), (oB, .inl (cB, n, .inr (.inl V)))]) [0, 1, 2, 3] (by decide) rfl
          have hKc := hK.sub (tys' := [(cA, .int), (cB, .long)]) [0, 1] rfl
          have hFc := va_free (wc := [(oF, .inr (2, [.int mo, .ref oS, .int th, .int om, .int sd, .int po, .int lr, .long lv, .int (nI d)])), (oS, .inr (1, [.ref oA, .ref oB, .int (nI h)])), (oA, .inl (cA, n, .inl P)), (oB, .inl (cB, n, .inr (.inl V)))]) hD hS hA [0, 1, 2, 3] rfl
          refine va_callv (va_runV (As := [.int 1, .int (fPS P h p0 p1)]) (rest := []) ⟨hx, hb, hml, hown, hts⟩ (kX1_stand l dC dI oF oS oA oB cA cB n h d mo th om sd po lr lv P V 1 (fPS P h p0 p1) H.size hh hn) (cwV 2 hts gX1_start_X1_stand rfl rfl rfl (by decide +kernel) ⟨Nat.le_of_ble_eq_true rfl, Nat.le_of_ble_eq_true rfl⟩) ⟨fun a U g mk q => by obtain ⟨q0, q1, qP, qK, qD⟩ := q; exact ⟨q0, q1, qP, va_K.moved (u := U) (U := U.calling g mk a) (Vm.Alike.refl U.vm) qK, qD⟩, va_recv hKc hPc (ci := 2) (q0 := 0) rfl rfl, fun U hU hW => ⟨rfl, by rw [hU], by rw [hU]; exact hPc, va_K.moved hW.alike hKc, hDc.weaken (fun _ _ _ _ => trivial)⟩⟩ rfl rfl hl.1 rfl (lv_room (Nat.le_of_ble_eq_true rfl)) dX1_start_46 ⟨Nat.le_of_ble_eq_true rfl, Nat.le_of_ble_eq_true rfl⟩) hS (fun q _ h => hFc q h) hFc (fun u t H1 locs ht hvm hw hB hz1 hk1 hS => ?_)
          obtain ⟨hP1, hK1, hD1⟩ := hB
          rw [ht] at hP1
          have hK1 := va_K.moved hvm.symm hK1
          try dsimp only at hw
          obtain ⟨hP, hD⟩ := va_join (wr := []) (w1 := [(oF, .inr (2, [.int mo, .ref oS, .int th, .int om, .int 1, .int (fPS P h p0 p1), .int 0, .long lv, .int (nI d)])), (oS, .inr (1, [.ref oA, .ref oB, .int (nI h)])), (oA, .inl (cA, n, .inl P)), (oB, .inl (cB, n, .inr (.inl V)))]) hP hD [0, 1, 2, 3] [] rfl rfl (by decide) (by decide) hk1 hFc hP1 hD1
          generalize H1 = H at hP hS ⊢
          have hP : va_P (dC, dI) vwCl [(oF, .inr (2, [.int mo, .ref oS, .int th, .int om, .int 1, .int (fPS P h p0 p1), .int 0, .long lv, .int (nI d)])), (oS, .inr (1, [.ref oA, .ref oB, .int (nI h)])), (oA, .inl (cA, n, .inl P)), (oB, .inl (cB, n, .inr (.inl V)))] H := hP.sub [0, 1, 2, 3] rfl
          have hD : va_D A [(oF, .inr (2, [.int mo, .ref oS, .int th, .int om, .int 1, .int (fPS P h p0 p1), .int 0, .long lv, .int (nI d)])), (oS, .inr (1, [.ref oA, .ref oB, .int (nI h)])), (oA, .inl (cA, n, .inl P)), (oB, .inl (cB, n, .inr (.inl V)))] := hD.sub [0, 1, 2, 3] (by decide) rfl
          have hK : va_K (dC, dI) vwCl [(cA, .int), (cB, .long)] s := hK
          refine lv_iconst (v := 0) hx hb dX1_start_49 (by decide) ?_
          subst hQ9
          have e9 : fStart p0 p1 (th, om, sd, po, lr, lv, d, P, V, h) = (0, (th, om, 1, fPS P h p0 p1, 0, lv, d, P, V, h)) := by simp only [fStart, if_neg c_1, if_pos c_2, if_pos c_4, if_neg c_6]
          rw [e9]
          exact W.iret (v := 0) hx hb hr (fun t ht hW => ⟨⟨0, (), rfl, rfl, by rw [ht]; exact hP, va_K.moved hW.alike hK, hD⟩, hS.F ht⟩) hS.2.2 dX1_start_50
        · -- not taken at 32: (fPS P h p0 p1) = 0
          refine lv_aload_n hx hb dX1_start_35 rfl (lv_at hl 2 rfl) ?_
          have hPc := hP.sub (ws' := [(oF, .inr (2, [.int mo, .ref oS, .int th, .int om, .int sd, .int po, .int lr, .long lv, .int (nI d)])), (oS, .inr (1, [.ref oA, .ref oB, .int (nI h)])), (oA, .inl (cA, n, .inl P)), (oB, .inl (cB, n, .inr (.inl V)))]) [0, 1, 2, 3] rfl
          have hDc := hD.sub (ws' := [(oF, .inr (2, [.int mo, .ref oS, .int th, .int om, .int sd, .int po, .int lr, .long lv, .int (nI d)])), (oS, .inr (1, [.ref oA, .ref oB, .int (nI h)])), (oA, .inl (cA, n, .inl P)), (oB, .inl (cB, n, .inr (.inl V)))]) [0, 1, 2, 3] (by decide) rfl
          have hKc := hK.sub (tys' := [(cA, .int), (cB, .long)]) [0, 1] rfl
          have hFc := va_free (wc := [(oF, .inr (2, [.int mo, .ref oS, .int th, .int om, .int sd, .int po, .int lr, .long lv, .int (nI d)])), (oS, .inr (1, [.ref oA, .ref oB, .int (nI h)])), (oA, .inl (cA, n, .inl P)), (oB, .inl (cB, n, .inr (.inl V)))]) hD hS hA [0, 1, 2, 3] rfl
          refine va_callv (va_runV (As := []) (rest := []) ⟨hx, hb, hml, hown, hts⟩ (kX1_losePosition l dC dI oF oS oA oB cA cB n h d mo th om sd po lr lv P V  H.size hh hn) (cwV 0 hts gX1_start_X1_losePosition rfl rfl rfl (by decide +kernel) ⟨Nat.le_of_ble_eq_true rfl, Nat.le_of_ble_eq_true rfl⟩) ⟨fun a U g mk q => by obtain ⟨q0, q1, qP, qK, qD⟩ := q; exact ⟨q0, q1, qP, va_K.moved (u := U) (U := U.calling g mk a) (Vm.Alike.refl U.vm) qK, qD⟩, va_recv hKc hPc (ci := 2) (q0 := 0) rfl rfl, fun U hU hW => ⟨rfl, by rw [hU], by rw [hU]; exact hPc, va_K.moved hW.alike hKc, hDc.weaken (fun _ _ _ _ => trivial)⟩⟩ rfl rfl hl.1 rfl (lv_room (Nat.le_of_ble_eq_true rfl)) dX1_start_36 ⟨Nat.le_of_ble_eq_true rfl, Nat.le_of_ble_eq_true rfl⟩) hS (fun q _ h => hFc q h) hFc (fun u t H1 locs ht hvm hw hB hz1 hk1 hS => ?_)
          obtain ⟨hP1, hK1, hD1⟩ := hB
          rw [ht] at hP1
          have hK1 := va_K.moved hvm.symm hK1
          try dsimp only at hw
          obtain ⟨hP, hD⟩ := va_join (wr := []) (w1 := [(oF, .inr (2, [.int mo, .ref oS, .int th, .int om, .int 2, .int 0, .int 0, .long lv, .int (nI d)])), (oS, .inr (1, [.ref oA, .ref oB, .int (nI h)])), (oA, .inl (cA, n, .inl P)), (oB, .inl (cB, n, .inr (.inl V)))]) hP hD [0, 1, 2, 3] [] rfl rfl (by decide) (by decide) hk1 hFc hP1 hD1
          generalize H1 = H at hP hS ⊢
          have hP : va_P (dC, dI) vwCl [(oF, .inr (2, [.int mo, .ref oS, .int th, .int om, .int 2, .int 0, .int 0, .long lv, .int (nI d)])), (oS, .inr (1, [.ref oA, .ref oB, .int (nI h)])), (oA, .inl (cA, n, .inl P)), (oB, .inl (cB, n, .inr (.inl V)))] H := hP.sub [0, 1, 2, 3] rfl
          have hD : va_D A [(oF, .inr (2, [.int mo, .ref oS, .int th, .int om, .int 2, .int 0, .int 0, .long lv, .int (nI d)])), (oS, .inr (1, [.ref oA, .ref oB, .int (nI h)])), (oA, .inl (cA, n, .inl P)), (oB, .inl (cB, n, .inr (.inl V)))] := hD.sub [0, 1, 2, 3] (by decide) rfl
          have hK : va_K (dC, dI) vwCl [(cA, .int), (cB, .long)] s := hK
          refine lv_bipush (v := 23) hx hb dX1_start_39 (by decide) ?_
          subst hQ9
          have e9 : fStart p0 p1 (th, om, sd, po, lr, lv, d, P, V, h) = (23, (th, om, 2, 0, 0, lv, d, P, V, h)) := by simp only [fStart, if_neg c_1, if_pos c_2, if_pos c_4, if_pos c_6]
          rw [e9]
          exact W.iret (v := 23) hx hb hr (fun t ht hW => ⟨⟨23, (), rfl, rfl, by rw [ht]; exact hP, va_K.moved hW.alike hK, hD⟩, hS.F ht⟩) hS.2.2 dX1_start_41
      · -- not taken at 17: ¬ (fRef om) = 0
        refine lv_iload_n hx hb dX1_start_20 rfl (lv_at hl 0 rfl) ?_
        subst hQ9
        have e9 : fStart p0 p1 (th, om, sd, po, lr, lv, d, P, V, h) = (fRef om, (th, om, sd, po, lr, lv, d, P, V, h)) := by simp only [fStart, if_neg c_1, if_pos c_2, if_neg c_4]
        rw [e9]
        exact W.iret (v := fRef om) hx hb hr (fun t ht hW => ⟨⟨fRef om, (), rfl, rfl, by rw [ht]; exact hP, va_K.moved hW.alike hK, hD⟩, hS.F ht⟩) hS.2.2 dX1_start_21
    · -- not taken at 6: ¬ p0 ≤ 4
      refine lv_iconst (v := (-1)) hx hb dX1_start_9 (by decide) ?_
      subst hQ9
      have e9 : fStart p0 p1 (th, om, sd, po, lr, lv, d, P, V, h) = ((-1), (th, om, sd, po, lr, lv, d, P, V, h)) := by simp only [fStart, if_neg c_1, if_neg c_2]
      rw [e9]
      exact W.iret (v := (-1)) hx hb hr (fun t ht hW => ⟨⟨(-1), (), rfl, rfl, by rw [ht]; exact hP, va_K.moved hW.alike hK, hD⟩, hS.F ht⟩) hS.2.2 dX1_start_10

set_option maxHeartbeats 1000000 in
set_option maxRecDepth 100000 in
theorem kX1_next (l : Launch) (dC : Nat → ClassId) (dI : Nat → Nat → Nat) (oF oS oA oB : Nat) (cA cB : ClassId) (n h d : Nat) (mo th om sd po lr : Int32) (lv : Int64) (P : Nat → Int32) (V : Nat → Int64) (p0 : Int32) (sz : Nat) (hh : h ≤ n) (hn : n ≤ 512) (hd : d ≤ 9) : Met l yX1_next wsX1_next ({ frames := 3, cells := 0, slots := 0, locals := 65 }) (va_Pc [.ref oF, .int p0] (fun U => U.heap.size = sz ∧ va_P (dC, dI) vwCl [(oF, .inr (2, [.int mo, .ref oS, .int th, .int om, .int sd, .int po, .int lr, .long lv, .int (nI d)])), (oS, .inr (1, [.ref oA, .ref oB, .int (nI h)])), (oA, .inl (cA, n, .inl P)), (oB, .inl (cB, n, .inr (.inl V)))] U.heap ∧ va_K (dC, dI) vwCl [(cA, .int), (cB, .long)] U ∧ va_D (fun _ => True) [(oF, .inr (2, [.int mo, .ref oS, .int th, .int om, .int sd, .int po, .int lr, .long lv, .int (nI d)])), (oS, .inr (1, [.ref oA, .ref oB, .int (nI h)])), (oA, .inl (cA, n, .inl P)), (oB, .inl (cB, n, .inr (.inl V)))])) (va_Qi (fun (r : Int32) (_ : Unit) => r = (fNext p0 (th, om, sd, po, lr, lv, d, P, V, h)).1) (fun (_ : Unit) (t : State) => va_P (dC, dI) vwCl (wF oF oS oA oB cA cB n mo (fNext p0 (th, om, sd, po, lr, lv, d, P, V, h)).2) t.heap ∧ va_K (dC, dI) vwCl [(cA, .int), (cB, .long)] t ∧ va_D (va_A [(oF, .inr (2, [.int mo, .ref oS, .int th, .int om, .int sd, .int po, .int lr, .long lv, .int (nI d)])), (oS, .inr (1, [.ref oA, .ref oB, .int (nI h)])), (oA, .inl (cA, n, .inl P)), (oB, .inl (cB, n, .inr (.inl V)))] sz) (wF oF oS oA oB cA cB n mo (fNext p0 (th, om, sd, po, lr, lv, d, P, V, h)).2)) (va_A [(oF, .inr (2, [.int mo, .ref oS, .int th, .int om, .int sd, .int po, .int lr, .long lv, .int (nI d)])), (oS, .inr (1, [.ref oA, .ref oB, .int (nI h)])), (oA, .inl (cA, n, .inl P)), (oB, .inl (cB, n, .inr (.inl V)))] sz)) 0 0 (va_A [(oF, .inr (2, [.int mo, .ref oS, .int th, .int om, .int sd, .int po, .int lr, .long lv, .int (nI d)])), (oS, .inr (1, [.ref oA, .ref oB, .int (nI h)])), (oA, .inl (cA, n, .inl P)), (oB, .inl (cB, n, .inr (.inl V)))] sz) := by
  refine Met.ofW (cc := cX1_next) (maxL := 4) (ret := (some .int)) (by decide) rfl ?_
  intro p e s m args below meth c s₁ B hml hv
  obtain ⟨rfl, hsz, hP, hK, hD0⟩ := hv
  have hx := B.exec
  have hb := B.bytes
  have hr := B.returns
  have hts := atoms_spec (ws := wsX1_next) B.pre
  have hown : s.vm.findClass RX1 = some m.cls := findClass_of_methodNamed B.named
  have hlocks := B.notSynchronized
  subst hsz
  have hD := hD0.self (sz := s.heap.size)
  generalize hAe : va_A [(oF, .inr (2, [.int mo, .ref oS, .int th, .int om, .int sd, .int po, .int lr, .long lv, .int (nI d)])), (oS, .inr (1, [.ref oA, .ref oB, .int (nI h)])), (oA, .inl (cA, n, .inl P)), (oB, .inl (cB, n, .inr (.inl V)))] s.heap.size = A at hD ⊢
  have hA : ∀ q : Nat, s.heap.size ≤ q → A q := fun q h => by rw [← hAe]; exact Or.inr h
  have hS : va_S A s.heap s.heap [] := va_S.rf
  have hP : va_P (dC, dI) vwCl [(oF, .inr (2, [.int mo, .ref oS, .int th, .int om, .int sd, .int po, .int lr, .long lv, .int (nI d)])), (oS, .inr (1, [.ref oA, .ref oB, .int (nI h)])), (oA, .inl (cA, n, .inl P)), (oB, .inl (cB, n, .inr (.inl V)))] s.heap := hP
  have hl := lv_entry ([.ref oF, .int p0]) (n := 4) (Nat.le_of_ble_eq_true rfl)
  rw [lg_entry_eq]
  generalize (lg_sl ([.ref oF, .int p0]) ++ List.replicate (4 - (lg_sl ([.ref oF, .int p0])).length) Slot.unset).toArray = ls at hl ⊢
  have hl : lv_has ls 4 [(0, .ref oF), (1, .int p0)] := hl
  refine W_name (fun Q hQ9 => ?_)
  refine lv_aload_n hx hb dX1_next_0 rfl (lv_at hl 0 rfl) ?_
  have hPc := hP.sub (ws' := [(oF, .inr (2, [.int mo, .ref oS, .int th, .int om, .int sd, .int po, .int lr, .long lv, .int (nI d)])), (oS, .inr (1, [.ref oA, .ref oB, .int (nI h)])), (oA, .inl (cA, n, .inl P)), (oB, .inl (cB, n, .inr (.inl V)))]) [0, 1, 2, 3] rfl
  have hDc := hD.sub (ws' := [(oF, .inr (2, [.int mo, .ref oS, .int th, .int om, .int sd, .int po, .int lr, .long lv, .int (nI d)])), (oS, .inr (1, [.ref oA, .ref oB, .int (nI h)])), (oA, .inl (cA, n, .inl P)), (oB, .inl (cB, n, .inr (.inl V)))]) [0, 1, 2, 3] (by decide) rfl
  have hKc := hK.sub (tys' := [(cA, .int), (cB, .long)]) [0, 1] rfl
  have hFc := va_free (wc := [(oF, .inr (2, [.int mo, .ref oS, .int th, .int om, .int sd, .int po, .int lr, .long lv, .int (nI d)])), (oS, .inr (1, [.ref oA, .ref oB, .int (nI h)])), (oA, .inl (cA, n, .inl P)), (oB, .inl (cB, n, .inr (.inl V)))]) hD hS hA [0, 1, 2, 3] rfl
  refine va_calli (va_runV (As := []) (rest := []) ⟨hx, hb, hml, hown, hts⟩ (kX1_refusalToRead l dC dI oF oS oA oB cA cB n h d mo th om sd po lr lv P V  s.heap.size hh hn) (cwV 0 hts gX1_next_X1_refusalToRead rfl rfl rfl (by decide +kernel) ⟨Nat.le_of_ble_eq_true rfl, Nat.le_of_ble_eq_true rfl⟩) ⟨fun a U g mk q => by obtain ⟨q0, q1, qP, qK, qD⟩ := q; exact ⟨q0, q1, qP, va_K.moved (u := U) (U := U.calling g mk a) (Vm.Alike.refl U.vm) qK, qD⟩, va_recv hKc hPc (ci := 2) (q0 := 0) rfl rfl, fun U hU hW => ⟨rfl, by rw [hU], by rw [hU]; exact hPc, va_K.moved hW.alike hKc, hDc.weaken (fun _ _ _ _ => trivial)⟩⟩ rfl rfl hl.1 rfl (lv_room (Nat.le_of_ble_eq_true rfl)) dX1_next_1 ⟨Nat.le_of_ble_eq_true rfl, Nat.le_of_ble_eq_true rfl⟩) hS (fun q _ h => hFc q h) hFc (fun r_1 u t H1 locs ht hvm hw hB hz1 hk1 hS => ?_)
  obtain ⟨hP1, hK1, hD1⟩ := hB
  rw [ht] at hP1
  have hK1 := va_K.moved hvm.symm hK1
  try dsimp only at hw
  obtain ⟨hP, hD⟩ := va_join (wr := []) (w1 := [(oF, .inr (2, [.int mo, .ref oS, .int th, .int om, .int sd, .int po, .int lr, .long lv, .int (nI d)])), (oS, .inr (1, [.ref oA, .ref oB, .int (nI h)])), (oA, .inl (cA, n, .inl P)), (oB, .inl (cB, n, .inr (.inl V)))]) hP hD [0, 1, 2, 3] [] rfl rfl (by decide) (by decide) hk1 hFc hP1 hD1
  generalize H1 = H at hP hS ⊢
  have hP : va_P (dC, dI) vwCl [(oF, .inr (2, [.int mo, .ref oS, .int th, .int om, .int sd, .int po, .int lr, .long lv, .int (nI d)])), (oS, .inr (1, [.ref oA, .ref oB, .int (nI h)])), (oA, .inl (cA, n, .inl P)), (oB, .inl (cB, n, .inr (.inl V)))] H := hP.sub [0, 1, 2, 3] rfl
  have hD : va_D A [(oF, .inr (2, [.int mo, .ref oS, .int th, .int om, .int sd, .int po, .int lr, .long lv, .int (nI d)])), (oS, .inr (1, [.ref oA, .ref oB, .int (nI h)])), (oA, .inl (cA, n, .inl P)), (oB, .inl (cB, n, .inr (.inl V)))] := hD.sub [0, 1, 2, 3] (by decide) rfl
  have hK : va_K (dC, dI) vwCl [(cA, .int), (cB, .long)] s := hK
  subst hw
  refine lv_istore_n (lv' := [(2, .int (fRef om)), (0, .ref oF), (1, .int p0)]) hx hb dX1_next_4 rfl hl (by decide) rfl (fun ls hl => ?_)
  refine lv_iload_n hx hb dX1_next_5 rfl (lv_at hl 0 rfl) ?_
  refine lv_if_eq (tgt := 11) hx hb dX1_next_6 (by decide) (fun c_2 => ?_) (fun c_2 => ?_)
  · -- taken at 6: (fRef om) = 0
    refine lv_aload_n hx hb dX1_next_11 rfl (lv_at hl 1 rfl) ?_
    refine va_get (D := (dC, dI)) (ci := 2) (v := .int sd) (C := RX1) (T := TX1) (N := 9) hx hb hts (by decide +kernel) hown hK hP 0 rfl rfl 4 (by decide) (hts (.fieldLink RX1 39 "RelativeFiles" "standing" "I") (by decide +kernel)) (fun _ h9 => h9) rfl dX1_next_12 ?_
    refine lv_iconst (v := 2) hx hb dX1_next_15 (by decide) ?_
    refine lv_icmp_ne (tgt := 27) hx hb dX1_next_16 (by decide) (fun c_3 => ?_) (fun c_3 => ?_)
    · -- taken at 16: ¬ sd = 2
      refine lv_aload_n hx hb dX1_next_27 rfl (lv_at hl 1 rfl) ?_
      refine lv_iload_n hx hb dX1_next_28 rfl (lv_at hl 2 rfl) ?_
      have hPc := hP.sub (ws' := [(oF, .inr (2, [.int mo, .ref oS, .int th, .int om, .int sd, .int po, .int lr, .long lv, .int (nI d)])), (oS, .inr (1, [.ref oA, .ref oB, .int (nI h)])), (oA, .inl (cA, n, .inl P)), (oB, .inl (cB, n, .inr (.inl V)))]) [0, 1, 2, 3] rfl
      have hDc := hD.sub (ws' := [(oF, .inr (2, [.int mo, .ref oS, .int th, .int om, .int sd, .int po, .int lr, .long lv, .int (nI d)])), (oS, .inr (1, [.ref oA, .ref oB, .int (nI h)])), (oA, .inl (cA, n, .inl P)), (oB, .inl (cB, n, .inr (.inl V)))]) [0, 1, 2, 3] (by decide) rfl
      have hKc := hK.sub (tys' := [(cA, .int), (cB, .long)]) [0, 1] rfl
      have hFc := va_free (wc := [(oF, .inr (2, [.int mo, .ref oS, .int th, .int om, .int sd, .int po, .int lr, .long lv, .int (nI d)])), (oS, .inr (1, [.ref oA, .ref oB, .int (nI h)])), (oA, .inl (cA, n, .inl P)), (oB, .inl (cB, n, .inr (.inl V)))]) hD hS hA [0, 1, 2, 3] rfl
      refine va_calli (va_runV (As := [.int p0]) (rest := []) ⟨hx, hb, hml, hown, hts⟩ (kX1_placeFromPosition l dC dI oF oS oA oB cA cB n h d mo th om sd po lr lv P V p0 H.size hh hn) (cwV 1 hts gX1_next_X1_placeFromPosition rfl rfl rfl (by decide +kernel) ⟨Nat.le_of_ble_eq_true rfl, Nat.le_of_ble_eq_true rfl⟩) ⟨fun a U g mk q => by obtain ⟨q0, q1, qP, qK, qD⟩ := q; exact ⟨q0, q1, qP, va_K.moved (u := U) (U := U.calling g mk a) (Vm.Alike.refl U.vm) qK, qD⟩, va_recv hKc hPc (ci := 2) (q0 := 0) rfl rfl, fun U hU hW => ⟨rfl, by rw [hU], by rw [hU]; exact hPc, va_K.moved hW.alike hKc, hDc.weaken (fun _ _ _ _ => trivial)⟩⟩ rfl rfl hl.1 rfl (lv_room (Nat.le_of_ble_eq_true rfl)) dX1_next_29 ⟨Nat.le_of_ble_eq_true rfl, Nat.le_of_ble_eq_true rfl⟩) hS (fun q _ h => hFc q h) hFc (fun r_4 u t H1 locs ht hvm hw hB hz1 hk1 hS => ?_)
      obtain ⟨hP1, hK1, hD1⟩ := hB
      rw [ht] at hP1
      have hK1 := va_K.moved hvm.symm hK1
      try dsimp only at hw
      obtain ⟨hP, hD⟩ := va_join (wr := []) (w1 := [(oF, .inr (2, [.int mo, .ref oS, .int th, .int om, .int sd, .int po, .int lr, .long lv, .int (nI d)])), (oS, .inr (1, [.ref oA, .ref oB, .int (nI h)])), (oA, .inl (cA, n, .inl P)), (oB, .inl (cB, n, .inr (.inl V)))]) hP hD [0, 1, 2, 3] [] rfl rfl (by decide) (by decide) hk1 hFc hP1 hD1
      generalize H1 = H at hP hS ⊢
      have hP : va_P (dC, dI) vwCl [(oF, .inr (2, [.int mo, .ref oS, .int th, .int om, .int sd, .int po, .int lr, .long lv, .int (nI d)])), (oS, .inr (1, [.ref oA, .ref oB, .int (nI h)])), (oA, .inl (cA, n, .inl P)), (oB, .inl (cB, n, .inr (.inl V)))] H := hP.sub [0, 1, 2, 3] rfl
      have hD : va_D A [(oF, .inr (2, [.int mo, .ref oS, .int th, .int om, .int sd, .int po, .int lr, .long lv, .int (nI d)])), (oS, .inr (1, [.ref oA, .ref oB, .int (nI h)])), (oA, .inl (cA, n, .inl P)), (oB, .inl (cB, n, .inr (.inl V)))] := hD.sub [0, 1, 2, 3] (by decide) rfl
      have hK : va_K (dC, dI) vwCl [(cA, .int), (cB, .long)] s := hK
      subst hw
      refine lv_istore_n (lv' := [(3, .int (fPF sd po P h p0)), (2, .int (fRef om)), (0, .ref oF), (1, .int p0)]) hx hb dX1_next_32 rfl hl (by decide) rfl (fun ls hl => ?_)
      refine lv_iload_n hx hb dX1_next_33 rfl (lv_at hl 0 rfl) ?_
      refine lv_if_ne (tgt := 44) hx hb dX1_next_34 (by decide) (fun c_5 => ?_) (fun c_5 => ?_)
      · -- taken at 34: ¬ (fPF sd po P h p0) = 0
        refine lv_aload_n hx hb dX1_next_44 rfl (lv_at hl 2 rfl) ?_
        refine lv_iload_n hx hb dX1_next_45 rfl (lv_at hl 0 rfl) ?_
        have hPc := hP.sub (ws' := [(oF, .inr (2, [.int mo, .ref oS, .int th, .int om, .int sd, .int po, .int lr, .long lv, .int (nI d)])), (oS, .inr (1, [.ref oA, .ref oB, .int (nI h)])), (oA, .inl (cA, n, .inl P)), (oB, .inl (cB, n, .inr (.inl V)))]) [0, 1, 2, 3] rfl
        have hDc := hD.sub (ws' := [(oF, .inr (2, [.int mo, .ref oS, .int th, .int om, .int sd, .int po, .int lr, .long lv, .int (nI d)])), (oS, .inr (1, [.ref oA, .ref oB, .int (nI h)])), (oA, .inl (cA, n, .inl P)), (oB, .inl (cB, n, .inr (.inl V)))]) [0, 1, 2, 3] (by decide) rfl
        have hKc := hK.sub (tys' := [(cA, .int), (cB, .long)]) [0, 1] rfl
        have hFc := va_free (wc := [(oF, .inr (2, [.int mo, .ref oS, .int th, .int om, .int sd, .int po, .int lr, .long lv, .int (nI d)])), (oS, .inr (1, [.ref oA, .ref oB, .int (nI h)])), (oA, .inl (cA, n, .inl P)), (oB, .inl (cB, n, .inr (.inl V)))]) hD hS hA [0, 1, 2, 3] rfl
        refine va_calli (va_runV (As := [.int (fPF sd po P h p0)]) (rest := []) ⟨hx, hb, hml, hown, hts⟩ (kX1_isTooLong l dC dI oF oS oA oB cA cB n h d mo th om sd po lr lv P V (fPF sd po P h p0) H.size hh hn hd) (cwV 1 hts gX1_next_X1_isTooLong rfl rfl rfl (by decide +kernel) ⟨Nat.le_of_ble_eq_true rfl, Nat.le_of_ble_eq_true rfl⟩) ⟨fun a U g mk q => by obtain ⟨q0, q1, qP, qK, qD⟩ := q; exact ⟨q0, q1, qP, va_K.moved (u := U) (U := U.calling g mk a) (Vm.Alike.refl U.vm) qK, qD⟩, va_recv hKc hPc (ci := 2) (q0 := 0) rfl rfl, fun U hU hW => ⟨rfl, by rw [hU], by rw [hU]; exact hPc, va_K.moved hW.alike hKc, hDc.weaken (fun _ _ _ _ => trivial)⟩⟩ rfl rfl hl.1 rfl (lv_room (Nat.le_of_ble_eq_true rfl)) dX1_next_46 ⟨Nat.le_of_ble_eq_true rfl, Nat.le_of_ble_eq_true rfl⟩) hS (fun q _ h => hFc q h) hFc (fun r_6 u t H1 locs ht hvm hw hB hz1 hk1 hS => ?_)
        obtain ⟨hP1, hK1, hD1⟩ := hB
        rw [ht] at hP1
        have hK1 := va_K.moved hvm.symm hK1
        try dsimp only at hw
        obtain ⟨hP, hD⟩ := va_join (wr := []) (w1 := [(oF, .inr (2, [.int mo, .ref oS, .int th, .int om, .int sd, .int po, .int lr, .long lv, .int (nI d)])), (oS, .inr (1, [.ref oA, .ref oB, .int (nI h)])), (oA, .inl (cA, n, .inl P)), (oB, .inl (cB, n, .inr (.inl V)))]) hP hD [0, 1, 2, 3] [] rfl rfl (by decide) (by decide) hk1 hFc hP1 hD1
        generalize H1 = H at hP hS ⊢
        have hP : va_P (dC, dI) vwCl [(oF, .inr (2, [.int mo, .ref oS, .int th, .int om, .int sd, .int po, .int lr, .long lv, .int (nI d)])), (oS, .inr (1, [.ref oA, .ref oB, .int (nI h)])), (oA, .inl (cA, n, .inl P)), (oB, .inl (cB, n, .inr (.inl V)))] H := hP.sub [0, 1, 2, 3] rfl
        have hD : va_D A [(oF, .inr (2, [.int mo, .ref oS, .int th, .int om, .int sd, .int po, .int lr, .long lv, .int (nI d)])), (oS, .inr (1, [.ref oA, .ref oB, .int (nI h)])), (oA, .inl (cA, n, .inl P)), (oB, .inl (cB, n, .inr (.inl V)))] := hD.sub [0, 1, 2, 3] (by decide) rfl
        have hK : va_K (dC, dI) vwCl [(cA, .int), (cB, .long)] s := hK
        rcases hw with ⟨b_7, hw⟩ | ⟨b_7, hw⟩
        · -- tooL (fPF sd po P h p0) d
          subst hw
          refine lv_if_eq (tgt := 59) hx hb dX1_next_49 (by decide) (fun c_8 => ?_) (fun c_8 => ?_)
          · -- taken at 49: 1 = 0
            exact absurd c_8 (by decide)
          · -- not taken at 49: ¬ 1 = 0
            refine lv_aload_n hx hb dX1_next_52 rfl (lv_at hl 2 rfl) ?_
            have hPc := hP.sub (ws' := [(oF, .inr (2, [.int mo, .ref oS, .int th, .int om, .int sd, .int po, .int lr, .long lv, .int (nI d)])), (oS, .inr (1, [.ref oA, .ref oB, .int (nI h)])), (oA, .inl (cA, n, .inl P)), (oB, .inl (cB, n, .inr (.inl V)))]) [0, 1, 2, 3] rfl
            have hDc := hD.sub (ws' := [(oF, .inr (2, [.int mo, .ref oS, .int th, .int om, .int sd, .int po, .int lr, .long lv, .int (nI d)])), (oS, .inr (1, [.ref oA, .ref oB, .int (nI h)])), (oA, .inl (cA, n, .inl P)), (oB, .inl (cB, n, .inr (.inl V)))]) [0, 1, 2, 3] (by decide) rfl
            have hKc := hK.sub (tys' := [(cA, .int), (cB, .long)]) [0, 1] rfl
            have hFc := va_free (wc := [(oF, .inr (2, [.int mo, .ref oS, .int th, .int om, .int sd, .int po, .int lr, .long lv, .int (nI d)])), (oS, .inr (1, [.ref oA, .ref oB, .int (nI h)])), (oA, .inl (cA, n, .inl P)), (oB, .inl (cB, n, .inr (.inl V)))]) hD hS hA [0, 1, 2, 3] rfl
            refine va_callv (va_runV (As := []) (rest := []) ⟨hx, hb, hml, hown, hts⟩ (kX1_losePosition l dC dI oF oS oA oB cA cB n h d mo th om sd po lr lv P V  H.size hh hn) (cwV 0 hts gX1_next_X1_losePosition rfl rfl rfl (by decide +kernel) ⟨Nat.le_of_ble_eq_true rfl, Nat.le_of_ble_eq_true rfl⟩) ⟨fun a U g mk q => by obtain ⟨q0, q1, qP, qK, qD⟩ := q; exact ⟨q0, q1, qP, va_K.moved (u := U) (U := U.calling g mk a) (Vm.Alike.refl U.vm) qK, qD⟩, va_recv hKc hPc (ci := 2) (q0 := 0) rfl rfl, fun U hU hW => ⟨rfl, by rw [hU], by rw [hU]; exact hPc, va_K.moved hW.alike hKc, hDc.weaken (fun _ _ _ _ => trivial)⟩⟩ rfl rfl hl.1 rfl (lv_room (Nat.le_of_ble_eq_true rfl)) dX1_next_53 ⟨Nat.le_of_ble_eq_true rfl, Nat.le_of_ble_eq_true rfl⟩) hS (fun q _ h => hFc q h) hFc (fun u t H1 locs ht hvm hw hB hz1 hk1 hS => ?_)
            obtain ⟨hP1, hK1, hD1⟩ := hB
            rw [ht] at hP1
            have hK1 := va_K.moved hvm.symm hK1
            try dsimp only at hw
            obtain ⟨hP, hD⟩ := va_join (wr := []) (w1 := [(oF, .inr (2, [.int mo, .ref oS, .int th, .int om, .int 2, .int 0, .int 0, .long lv, .int (nI d)])), (oS, .inr (1, [.ref oA, .ref oB, .int (nI h)])), (oA, .inl (cA, n, .inl P)), (oB, .inl (cB, n, .inr (.inl V)))]) hP hD [0, 1, 2, 3] [] rfl rfl (by decide) (by decide) hk1 hFc hP1 hD1
            generalize H1 = H at hP hS ⊢
            have hP : va_P (dC, dI) vwCl [(oF, .inr (2, [.int mo, .ref oS, .int th, .int om, .int 2, .int 0, .int 0, .long lv, .int (nI d)])), (oS, .inr (1, [.ref oA, .ref oB, .int (nI h)])), (oA, .inl (cA, n, .inl P)), (oB, .inl (cB, n, .inr (.inl V)))] H := hP.sub [0, 1, 2, 3] rfl
            have hD : va_D A [(oF, .inr (2, [.int mo, .ref oS, .int th, .int om, .int 2, .int 0, .int 0, .long lv, .int (nI d)])), (oS, .inr (1, [.ref oA, .ref oB, .int (nI h)])), (oA, .inl (cA, n, .inl P)), (oB, .inl (cB, n, .inr (.inl V)))] := hD.sub [0, 1, 2, 3] (by decide) rfl
            have hK : va_K (dC, dI) vwCl [(cA, .int), (cB, .long)] s := hK
            refine lv_bipush (v := 14) hx hb dX1_next_56 (by decide) ?_
            subst hQ9
            have e9 : fNext p0 (th, om, sd, po, lr, lv, d, P, V, h) = (14, (th, om, 2, 0, 0, lv, d, P, V, h)) := by simp only [fNext, fNx2, if_pos c_2, if_neg c_3, if_neg c_5, if_pos b_7]
            rw [e9]
            exact W.iret (v := 14) hx hb hr (fun t ht hW => ⟨⟨14, (), rfl, rfl, by rw [ht]; exact hP, va_K.moved hW.alike hK, hD⟩, hS.F ht⟩) hS.2.2 dX1_next_58
        · -- ¬ (tooL (fPF sd po P h p0) d)
          subst hw
          refine lv_if_eq (tgt := 59) hx hb dX1_next_49 (by decide) (fun c_10 => ?_) (fun c_10 => ?_)
          · -- taken at 49: 0 = 0
            refine lv_aload_n hx hb dX1_next_59 rfl (lv_at hl 2 rfl) ?_
            refine lv_iload_n hx hb dX1_next_60 rfl (lv_at hl 0 rfl) ?_
            have hPc := hP.sub (ws' := [(oF, .inr (2, [.int mo, .ref oS, .int th, .int om, .int sd, .int po, .int lr, .long lv, .int (nI d)])), (oS, .inr (1, [.ref oA, .ref oB, .int (nI h)])), (oA, .inl (cA, n, .inl P)), (oB, .inl (cB, n, .inr (.inl V)))]) [0, 1, 2, 3] rfl
            have hDc := hD.sub (ws' := [(oF, .inr (2, [.int mo, .ref oS, .int th, .int om, .int sd, .int po, .int lr, .long lv, .int (nI d)])), (oS, .inr (1, [.ref oA, .ref oB, .int (nI h)])), (oA, .inl (cA, n, .inl P)), (oB, .inl (cB, n, .inr (.inl V)))]) [0, 1, 2, 3] (by decide) rfl
            have hKc := hK.sub (tys' := [(cA, .int), (cB, .long)]) [0, 1] rfl
            have hFc := va_free (wc := [(oF, .inr (2, [.int mo, .ref oS, .int th, .int om, .int sd, .int po, .int lr, .long lv, .int (nI d)])), (oS, .inr (1, [.ref oA, .ref oB, .int (nI h)])), (oA, .inl (cA, n, .inl P)), (oB, .inl (cB, n, .inr (.inl V)))]) hD hS hA [0, 1, 2, 3] rfl
            refine va_callv (va_runV (As := [.int (fPF sd po P h p0)]) (rest := []) ⟨hx, hb, hml, hown, hts⟩ (kX1_take l dC dI oF oS oA oB cA cB n h d mo th om sd po lr lv P V (fPF sd po P h p0) H.size hh hn) (cwV 1 hts gX1_next_X1_take rfl rfl rfl (by decide +kernel) ⟨Nat.le_of_ble_eq_true rfl, Nat.le_of_ble_eq_true rfl⟩) ⟨fun a U g mk q => by obtain ⟨q0, q1, qP, qK, qD⟩ := q; exact ⟨q0, q1, qP, va_K.moved (u := U) (U := U.calling g mk a) (Vm.Alike.refl U.vm) qK, qD⟩, va_recv hKc hPc (ci := 2) (q0 := 0) rfl rfl, fun U hU hW => ⟨rfl, by rw [hU], by rw [hU]; exact hPc, va_K.moved hW.alike hKc, hDc.weaken (fun _ _ _ _ => trivial)⟩⟩ rfl rfl hl.1 rfl (lv_room (Nat.le_of_ble_eq_true rfl)) dX1_next_61 ⟨Nat.le_of_ble_eq_true rfl, Nat.le_of_ble_eq_true rfl⟩) hS (fun q _ h => hFc q h) hFc (fun u t H1 locs ht hvm hw hB hz1 hk1 hS => ?_)
            obtain ⟨hP1, hK1, hD1⟩ := hB
            rw [ht] at hP1
            have hK1 := va_K.moved hvm.symm hK1
            try dsimp only at hw
            obtain ⟨hP, hD⟩ := va_join (wr := []) (w1 := [(oF, .inr (2, [.int mo, .ref oS, .int th, .int om, .int 0, .int (fPF sd po P h p0), .int (fPF sd po P h p0), .long (fRec P V h (fPF sd po P h p0)), .int (nI d)])), (oS, .inr (1, [.ref oA, .ref oB, .int (nI h)])), (oA, .inl (cA, n, .inl P)), (oB, .inl (cB, n, .inr (.inl V)))]) hP hD [0, 1, 2, 3] [] rfl rfl (by decide) (by decide) hk1 hFc hP1 hD1
            generalize H1 = H at hP hS ⊢
            have hP : va_P (dC, dI) vwCl [(oF, .inr (2, [.int mo, .ref oS, .int th, .int om, .int 0, .int (fPF sd po P h p0), .int (fPF sd po P h p0), .long (fRec P V h (fPF sd po P h p0)), .int (nI d)])), (oS, .inr (1, [.ref oA, .ref oB, .int (nI h)])), (oA, .inl (cA, n, .inl P)), (oB, .inl (cB, n, .inr (.inl V)))] H := hP.sub [0, 1, 2, 3] rfl
            have hD : va_D A [(oF, .inr (2, [.int mo, .ref oS, .int th, .int om, .int 0, .int (fPF sd po P h p0), .int (fPF sd po P h p0), .long (fRec P V h (fPF sd po P h p0)), .int (nI d)])), (oS, .inr (1, [.ref oA, .ref oB, .int (nI h)])), (oA, .inl (cA, n, .inl P)), (oB, .inl (cB, n, .inr (.inl V)))] := hD.sub [0, 1, 2, 3] (by decide) rfl
            have hK : va_K (dC, dI) vwCl [(cA, .int), (cB, .long)] s := hK
            refine lv_iconst (v := 0) hx hb dX1_next_64 (by decide) ?_
            subst hQ9
            have e9 : fNext p0 (th, om, sd, po, lr, lv, d, P, V, h) = (0, (th, om, 0, fPF sd po P h p0, fPF sd po P h p0, fRec P V h (fPF sd po P h p0), d, P, V, h)) := by simp only [fNext, fNx2, if_pos c_2, if_neg c_3, if_neg c_5, if_neg b_7]
            rw [e9]
            exact W.iret (v := 0) hx hb hr (fun t ht hW => ⟨⟨0, (), rfl, rfl, by rw [ht]; exact hP, va_K.moved hW.alike hK, hD⟩, hS.F ht⟩) hS.2.2 dX1_next_65
          · -- not taken at 49: ¬ 0 = 0
            exact absurd c_10 (by decide)
      · -- not taken at 34: (fPF sd po P h p0) = 0
        refine lv_aload_n hx hb dX1_next_37 rfl (lv_at hl 2 rfl) ?_
        have hPc := hP.sub (ws' := [(oF, .inr (2, [.int mo, .ref oS, .int th, .int om, .int sd, .int po, .int lr, .long lv, .int (nI d)])), (oS, .inr (1, [.ref oA, .ref oB, .int (nI h)])), (oA, .inl (cA, n, .inl P)), (oB, .inl (cB, n, .inr (.inl V)))]) [0, 1, 2, 3] rfl
        have hDc := hD.sub (ws' := [(oF, .inr (2, [.int mo, .ref oS, .int th, .int om, .int sd, .int po, .int lr, .long lv, .int (nI d)])), (oS, .inr (1, [.ref oA, .ref oB, .int (nI h)])), (oA, .inl (cA, n, .inl P)), (oB, .inl (cB, n, .inr (.inl V)))]) [0, 1, 2, 3] (by decide) rfl
        have hKc := hK.sub (tys' := [(cA, .int), (cB, .long)]) [0, 1] rfl
        have hFc := va_free (wc := [(oF, .inr (2, [.int mo, .ref oS, .int th, .int om, .int sd, .int po, .int lr, .long lv, .int (nI d)])), (oS, .inr (1, [.ref oA, .ref oB, .int (nI h)])), (oA, .inl (cA, n, .inl P)), (oB, .inl (cB, n, .inr (.inl V)))]) hD hS hA [0, 1, 2, 3] rfl
        refine va_callv (va_runV (As := []) (rest := []) ⟨hx, hb, hml, hown, hts⟩ (kX1_losePosition l dC dI oF oS oA oB cA cB n h d mo th om sd po lr lv P V  H.size hh hn) (cwV 0 hts gX1_next_X1_losePosition rfl rfl rfl (by decide +kernel) ⟨Nat.le_of_ble_eq_true rfl, Nat.le_of_ble_eq_true rfl⟩) ⟨fun a U g mk q => by obtain ⟨q0, q1, qP, qK, qD⟩ := q; exact ⟨q0, q1, qP, va_K.moved (u := U) (U := U.calling g mk a) (Vm.Alike.refl U.vm) qK, qD⟩, va_recv hKc hPc (ci := 2) (q0 := 0) rfl rfl, fun U hU hW => ⟨rfl, by rw [hU], by rw [hU]; exact hPc, va_K.moved hW.alike hKc, hDc.weaken (fun _ _ _ _ => trivial)⟩⟩ rfl rfl hl.1 rfl (lv_room (Nat.le_of_ble_eq_true rfl)) dX1_next_38 ⟨Nat.le_of_ble_eq_true rfl, Nat.le_of_ble_eq_true rfl⟩) hS (fun q _ h => hFc q h) hFc (fun u t H1 locs ht hvm hw hB hz1 hk1 hS => ?_)
        obtain ⟨hP1, hK1, hD1⟩ := hB
        rw [ht] at hP1
        have hK1 := va_K.moved hvm.symm hK1
        try dsimp only at hw
        obtain ⟨hP, hD⟩ := va_join (wr := []) (w1 := [(oF, .inr (2, [.int mo, .ref oS, .int th, .int om, .int 2, .int 0, .int 0, .long lv, .int (nI d)])), (oS, .inr (1, [.ref oA, .ref oB, .int (nI h)])), (oA, .inl (cA, n, .inl P)), (oB, .inl (cB, n, .inr (.inl V)))]) hP hD [0, 1, 2, 3] [] rfl rfl (by decide) (by decide) hk1 hFc hP1 hD1
        generalize H1 = H at hP hS ⊢
        have hP : va_P (dC, dI) vwCl [(oF, .inr (2, [.int mo, .ref oS, .int th, .int om, .int 2, .int 0, .int 0, .long lv, .int (nI d)])), (oS, .inr (1, [.ref oA, .ref oB, .int (nI h)])), (oA, .inl (cA, n, .inl P)), (oB, .inl (cB, n, .inr (.inl V)))] H := hP.sub [0, 1, 2, 3] rfl
        have hD : va_D A [(oF, .inr (2, [.int mo, .ref oS, .int th, .int om, .int 2, .int 0, .int 0, .long lv, .int (nI d)])), (oS, .inr (1, [.ref oA, .ref oB, .int (nI h)])), (oA, .inl (cA, n, .inl P)), (oB, .inl (cB, n, .inr (.inl V)))] := hD.sub [0, 1, 2, 3] (by decide) rfl
        have hK : va_K (dC, dI) vwCl [(cA, .int), (cB, .long)] s := hK
        refine lv_bipush (v := 10) hx hb dX1_next_41 (by decide) ?_
        subst hQ9
        have e9 : fNext p0 (th, om, sd, po, lr, lv, d, P, V, h) = (10, (th, om, 2, 0, 0, lv, d, P, V, h)) := by simp only [fNext, fNx2, if_pos c_2, if_neg c_3, if_pos c_5]
        rw [e9]
        exact W.iret (v := 10) hx hb hr (fun t ht hW => ⟨⟨10, (), rfl, rfl, by rw [ht]; exact hP, va_K.moved hW.alike hK, hD⟩, hS.F ht⟩) hS.2.2 dX1_next_43
    · -- not taken at 16: sd = 2
      refine lv_aload_n hx hb dX1_next_19 rfl (lv_at hl 1 rfl) ?_
      refine lv_iconst (v := 0) hx hb dX1_next_20 (by decide) ?_
      refine va_put (D := (dC, dI)) (ci := 2) (v := .int 0) (ty := .int) (C := RX1) (T := TX1) (N := 9) hx hb hts (by decide +kernel) tyX1 tyX1_ok nmX1 hown hK hP hD hS 0 rfl rfl 6 (by decide) (hts (.fieldLink RX1 45 "RelativeFiles" "lastRead" "I") (by decide +kernel)) (fun _ h9 => h9) rfl (by decide +kernel) rfl rfl (Nat.le_of_ble_eq_true rfl) dX1_next_21 (fun H locs hP hD hS => ?_)
      have hP : va_P (dC, dI) vwCl [(oF, .inr (2, [.int mo, .ref oS, .int th, .int om, .int sd, .int po, .int 0, .long lv, .int (nI d)])), (oS, .inr (1, [.ref oA, .ref oB, .int (nI h)])), (oA, .inl (cA, n, .inl P)), (oB, .inl (cB, n, .inr (.inl V)))] H := hP
      have hD : va_D A [(oF, .inr (2, [.int mo, .ref oS, .int th, .int om, .int sd, .int po, .int 0, .long lv, .int (nI d)])), (oS, .inr (1, [.ref oA, .ref oB, .int (nI h)])), (oA, .inl (cA, n, .inl P)), (oB, .inl (cB, n, .inr (.inl V)))] := hD
      refine lv_bipush (v := 46) hx hb dX1_next_24 (by decide) ?_
      subst hQ9
      have e9 : fNext p0 (th, om, sd, po, lr, lv, d, P, V, h) = (46, (th, om, sd, po, 0, lv, d, P, V, h)) := by simp only [fNext, fNx2, if_pos c_2, if_pos c_3]
      rw [e9]
      exact W.iret (v := 46) hx hb hr (fun t ht hW => ⟨⟨46, (), rfl, rfl, by rw [ht]; exact hP, va_K.moved hW.alike hK, hD⟩, hS.F ht⟩) hS.2.2 dX1_next_26
  · -- not taken at 6: ¬ (fRef om) = 0
    refine lv_iload_n hx hb dX1_next_9 rfl (lv_at hl 0 rfl) ?_
    subst hQ9
    have e9 : fNext p0 (th, om, sd, po, lr, lv, d, P, V, h) = (fRef om, (th, om, sd, po, lr, lv, d, P, V, h)) := by simp only [fNext, fNx2, if_neg c_2]
    rw [e9]
    exact W.iret (v := fRef om) hx hb hr (fun t ht hW => ⟨⟨fRef om, (), rfl, rfl, by rw [ht]; exact hP, va_K.moved hW.alike hK, hD⟩, hS.F ht⟩) hS.2.2 dX1_next_10

set_option maxHeartbeats 1000000 in
set_option maxRecDepth 100000 in
theorem kX1_rewrite (l : Launch) (dC : Nat → ClassId) (dI : Nat → Nat → Nat) (oF oS oA oB : Nat) (cA cB : ClassId) (n h d : Nat) (mo th om sd po lr : Int32) (lv : Int64) (P : Nat → Int32) (V : Nat → Int64) (p0 : Int32) (p1 : Int64) (sz : Nat) (hh : h ≤ n) (hn : n ≤ 512) : Met l yX1_rewrite wsX1_rewrite ({ frames := 3, cells := 0, slots := 0, locals := 65 }) (va_Pc [.ref oF, .int p0, .long p1] (fun U => U.heap.size = sz ∧ va_P (dC, dI) vwCl [(oF, .inr (2, [.int mo, .ref oS, .int th, .int om, .int sd, .int po, .int lr, .long lv, .int (nI d)])), (oS, .inr (1, [.ref oA, .ref oB, .int (nI h)])), (oA, .inl (cA, n, .inl P)), (oB, .inl (cB, n, .inr (.inl V)))] U.heap ∧ va_K (dC, dI) vwCl [(cA, .int), (cB, .long)] U ∧ va_D (fun _ => True) [(oF, .inr (2, [.int mo, .ref oS, .int th, .int om, .int sd, .int po, .int lr, .long lv, .int (nI d)])), (oS, .inr (1, [.ref oA, .ref oB, .int (nI h)])), (oA, .inl (cA, n, .inl P)), (oB, .inl (cB, n, .inr (.inl V)))])) (va_Qi (fun (r : Int32) (_ : Unit) => r = (fRewr p0 p1 (th, om, sd, po, lr, lv, d, P, V, h)).1) (fun (_ : Unit) (t : State) => va_P (dC, dI) vwCl (wF oF oS oA oB cA cB n mo (fRewr p0 p1 (th, om, sd, po, lr, lv, d, P, V, h)).2) t.heap ∧ va_K (dC, dI) vwCl [(cA, .int), (cB, .long)] t ∧ va_D (va_A [(oF, .inr (2, [.int mo, .ref oS, .int th, .int om, .int sd, .int po, .int lr, .long lv, .int (nI d)])), (oS, .inr (1, [.ref oA, .ref oB, .int (nI h)])), (oA, .inl (cA, n, .inl P)), (oB, .inl (cB, n, .inr (.inl V)))] sz) (wF oF oS oA oB cA cB n mo (fRewr p0 p1 (th, om, sd, po, lr, lv, d, P, V, h)).2)) (va_A [(oF, .inr (2, [.int mo, .ref oS, .int th, .int om, .int sd, .int po, .int lr, .long lv, .int (nI d)])), (oS, .inr (1, [.ref oA, .ref oB, .int (nI h)])), (oA, .inl (cA, n, .inl P)), (oB, .inl (cB, n, .inr (.inl V)))] sz)) 0 0 (va_A [(oF, .inr (2, [.int mo, .ref oS, .int th, .int om, .int sd, .int po, .int lr, .long lv, .int (nI d)])), (oS, .inr (1, [.ref oA, .ref oB, .int (nI h)])), (oA, .inl (cA, n, .inl P)), (oB, .inl (cB, n, .inr (.inl V)))] sz) := by
  refine Met.ofW (cc := cX1_rewrite) (maxL := 6) (ret := (some .int)) (by decide) rfl ?_
  intro p e s m args below meth c s₁ B hml hv
  obtain ⟨rfl, hsz, hP, hK, hD0⟩ := hv
  have hx := B.exec
  have hb := B.bytes
  have hr := B.returns
  have hts := atoms_spec (ws := wsX1_rewrite) B.pre
  have hown : s.vm.findClass RX1 = some m.cls := findClass_of_methodNamed B.named
  have hlocks := B.notSynchronized
  subst hsz
  have hD := hD0.self (sz := s.heap.size)
  generalize hAe : va_A [(oF, .inr (2, [.int mo, .ref oS, .int th, .int om, .int sd, .int po, .int lr, .long lv, .int (nI d)])), (oS, .inr (1, [.ref oA, .ref oB, .int (nI h)])), (oA, .inl (cA, n, .inl P)), (oB, .inl (cB, n, .inr (.inl V)))] s.heap.size = A at hD ⊢
  have hA : ∀ q : Nat, s.heap.size ≤ q → A q := fun q h => by rw [← hAe]; exact Or.inr h
  have hS : va_S A s.heap s.heap [] := va_S.rf
  have hP : va_P (dC, dI) vwCl [(oF, .inr (2, [.int mo, .ref oS, .int th, .int om, .int sd, .int po, .int lr, .long lv, .int (nI d)])), (oS, .inr (1, [.ref oA, .ref oB, .int (nI h)])), (oA, .inl (cA, n, .inl P)), (oB, .inl (cB, n, .inr (.inl V)))] s.heap := hP
  have hl := lv_entry ([.ref oF, .int p0, .long p1]) (n := 6) (Nat.le_of_ble_eq_true rfl)
  rw [lg_entry_eq]
  generalize (lg_sl ([.ref oF, .int p0, .long p1]) ++ List.replicate (6 - (lg_sl ([.ref oF, .int p0, .long p1])).length) Slot.unset).toArray = ls at hl ⊢
  have hl : lv_has ls 6 [(0, .ref oF), (1, .int p0), (2, .long p1)] := hl
  refine W_name (fun Q hQ9 => ?_)
  refine lv_aload_n hx hb dX1_rewrite_0 rfl (lv_at hl 0 rfl) ?_
  refine lv_iload_n hx hb dX1_rewrite_1 rfl (lv_at hl 1 rfl) ?_
  have hPc := hP.sub (ws' := [(oF, .inr (2, [.int mo, .ref oS, .int th, .int om, .int sd, .int po, .int lr, .long lv, .int (nI d)])), (oS, .inr (1, [.ref oA, .ref oB, .int (nI h)])), (oA, .inl (cA, n, .inl P)), (oB, .inl (cB, n, .inr (.inl V)))]) [0, 1, 2, 3] rfl
  have hDc := hD.sub (ws' := [(oF, .inr (2, [.int mo, .ref oS, .int th, .int om, .int sd, .int po, .int lr, .long lv, .int (nI d)])), (oS, .inr (1, [.ref oA, .ref oB, .int (nI h)])), (oA, .inl (cA, n, .inl P)), (oB, .inl (cB, n, .inr (.inl V)))]) [0, 1, 2, 3] (by decide) rfl
  have hKc := hK.sub (tys' := [(cA, .int), (cB, .long)]) [0, 1] rfl
  have hFc := va_free (wc := [(oF, .inr (2, [.int mo, .ref oS, .int th, .int om, .int sd, .int po, .int lr, .long lv, .int (nI d)])), (oS, .inr (1, [.ref oA, .ref oB, .int (nI h)])), (oA, .inl (cA, n, .inl P)), (oB, .inl (cB, n, .inr (.inl V)))]) hD hS hA [0, 1, 2, 3] rfl
  refine va_calli (va_runV (As := [.int p0]) (rest := []) ⟨hx, hb, hml, hown, hts⟩ (kX1_placeToChange l dC dI oF oS oA oB cA cB n h d mo th om sd po lr lv P V p0 s.heap.size hh hn) (cwV 1 hts gX1_rewrite_X1_placeToChange rfl rfl rfl (by decide +kernel) ⟨Nat.le_of_ble_eq_true rfl, Nat.le_of_ble_eq_true rfl⟩) ⟨fun a U g mk q => by obtain ⟨q0, q1, qP, qK, qD⟩ := q; exact ⟨q0, q1, qP, va_K.moved (u := U) (U := U.calling g mk a) (Vm.Alike.refl U.vm) qK, qD⟩, va_recv hKc hPc (ci := 2) (q0 := 0) rfl rfl, fun U hU hW => ⟨rfl, by rw [hU], by rw [hU]; exact hPc, va_K.moved hW.alike hKc, hDc.weaken (fun _ _ _ _ => trivial)⟩⟩ rfl rfl hl.1 rfl (lv_room (Nat.le_of_ble_eq_true rfl)) dX1_rewrite_2 ⟨Nat.le_of_ble_eq_true rfl, Nat.le_of_ble_eq_true rfl⟩) hS (fun q _ h => hFc q h) hFc (fun r_1 u t H1 locs ht hvm hw hB hz1 hk1 hS => ?_)
  obtain ⟨hP1, hK1, hD1⟩ := hB
  rw [ht] at hP1
  have hK1 := va_K.moved hvm.symm hK1
  try dsimp only at hw
  obtain ⟨hP, hD⟩ := va_join (wr := []) (w1 := [(oF, .inr (2, [.int mo, .ref oS, .int th, .int om, .int sd, .int po, .int lr, .long lv, .int (nI d)])), (oS, .inr (1, [.ref oA, .ref oB, .int (nI h)])), (oA, .inl (cA, n, .inl P)), (oB, .inl (cB, n, .inr (.inl V)))]) hP hD [0, 1, 2, 3] [] rfl rfl (by decide) (by decide) hk1 hFc hP1 hD1
  generalize H1 = H at hP hS ⊢
  have hP : va_P (dC, dI) vwCl [(oF, .inr (2, [.int mo, .ref oS, .int th, .int om, .int sd, .int po, .int lr, .long lv, .int (nI d)])), (oS, .inr (1, [.ref oA, .ref oB, .int (nI h)])), (oA, .inl (cA, n, .inl P)), (oB, .inl (cB, n, .inr (.inl V)))] H := hP.sub [0, 1, 2, 3] rfl
  have hD : va_D A [(oF, .inr (2, [.int mo, .ref oS, .int th, .int om, .int sd, .int po, .int lr, .long lv, .int (nI d)])), (oS, .inr (1, [.ref oA, .ref oB, .int (nI h)])), (oA, .inl (cA, n, .inl P)), (oB, .inl (cB, n, .inr (.inl V)))] := hD.sub [0, 1, 2, 3] (by decide) rfl
  have hK : va_K (dC, dI) vwCl [(cA, .int), (cB, .long)] s := hK
  subst hw
  refine lv_istore (lv' := [(4, .int (fPC lr p0)), (0, .ref oF), (1, .int p0), (2, .long p1)]) hx hb dX1_rewrite_5 hl (by decide) rfl (fun ls hl => ?_)
  refine lv_aload_n hx hb dX1_rewrite_7 rfl (lv_at hl 1 rfl) ?_
  refine lv_iload_n hx hb dX1_rewrite_8 rfl (lv_at hl 2 rfl) ?_
  refine lv_iload hx hb dX1_rewrite_9 (lv_at hl 0 rfl) ?_
  have hPc := hP.sub (ws' := [(oF, .inr (2, [.int mo, .ref oS, .int th, .int om, .int sd, .int po, .int lr, .long lv, .int (nI d)])), (oS, .inr (1, [.ref oA, .ref oB, .int (nI h)])), (oA, .inl (cA, n, .inl P)), (oB, .inl (cB, n, .inr (.inl V)))]) [0, 1, 2, 3] rfl
  have hDc := hD.sub (ws' := [(oF, .inr (2, [.int mo, .ref oS, .int th, .int om, .int sd, .int po, .int lr, .long lv, .int (nI d)])), (oS, .inr (1, [.ref oA, .ref oB, .int (nI h)])), (oA, .inl (cA, n, .inl P)), (oB, .inl (cB, n, .inr (.inl V)))]) [0, 1, 2, 3] (by decide) rfl
  have hKc := hK.sub (tys' := [(cA, .int), (cB, .long)]) [0, 1] rfl
  have hFc := va_free (wc := [(oF, .inr (2, [.int mo, .ref oS, .int th, .int om, .int sd, .int po, .int lr, .long lv, .int (nI d)])), (oS, .inr (1, [.ref oA, .ref oB, .int (nI h)])), (oA, .inl (cA, n, .inl P)), (oB, .inl (cB, n, .inr (.inl V)))]) hD hS hA [0, 1, 2, 3] rfl
  refine va_calli (va_runV (As := [.int p0, .int (fPC lr p0)]) (rest := []) ⟨hx, hb, hml, hown, hts⟩ (kX1_statusOfChange l dC dI oF oS oA oB cA cB n h d mo th om sd po lr lv P V p0 (fPC lr p0) H.size hh hn) (cwV 2 hts gX1_rewrite_X1_statusOfChange rfl rfl rfl (by decide +kernel) ⟨Nat.le_of_ble_eq_true rfl, Nat.le_of_ble_eq_true rfl⟩) ⟨fun a U g mk q => by obtain ⟨q0, q1, qP, qK, qD⟩ := q; exact ⟨q0, q1, qP, va_K.moved (u := U) (U := U.calling g mk a) (Vm.Alike.refl U.vm) qK, qD⟩, va_recv hKc hPc (ci := 2) (q0 := 0) rfl rfl, fun U hU hW => ⟨rfl, by rw [hU], by rw [hU]; exact hPc, va_K.moved hW.alike hKc, hDc.weaken (fun _ _ _ _ => trivial)⟩⟩ rfl rfl hl.1 rfl (lv_room (Nat.le_of_ble_eq_true rfl)) dX1_rewrite_11 ⟨Nat.le_of_ble_eq_true rfl, Nat.le_of_ble_eq_true rfl⟩) hS (fun q _ h => hFc q h) hFc (fun r_2 u t H1 locs ht hvm hw hB hz1 hk1 hS => ?_)
  obtain ⟨hP1, hK1, hD1⟩ := hB
  rw [ht] at hP1
  have hK1 := va_K.moved hvm.symm hK1
  try dsimp only at hw
  obtain ⟨hP, hD⟩ := va_join (wr := []) (w1 := [(oF, .inr (2, [.int mo, .ref oS, .int th, .int om, .int sd, .int po, .int (fSL om lr), .long lv, .int (nI d)])), (oS, .inr (1, [.ref oA, .ref oB, .int (nI h)])), (oA, .inl (cA, n, .inl P)), (oB, .inl (cB, n, .inr (.inl V)))]) hP hD [0, 1, 2, 3] [] rfl rfl (by decide) (by decide) hk1 hFc hP1 hD1
  generalize H1 = H at hP hS ⊢
  have hP : va_P (dC, dI) vwCl [(oF, .inr (2, [.int mo, .ref oS, .int th, .int om, .int sd, .int po, .int (fSL om lr), .long lv, .int (nI d)])), (oS, .inr (1, [.ref oA, .ref oB, .int (nI h)])), (oA, .inl (cA, n, .inl P)), (oB, .inl (cB, n, .inr (.inl V)))] H := hP.sub [0, 1, 2, 3] rfl
  have hD : va_D A [(oF, .inr (2, [.int mo, .ref oS, .int th, .int om, .int sd, .int po, .int (fSL om lr), .long lv, .int (nI d)])), (oS, .inr (1, [.ref oA, .ref oB, .int (nI h)])), (oA, .inl (cA, n, .inl P)), (oB, .inl (cB, n, .inr (.inl V)))] := hD.sub [0, 1, 2, 3] (by decide) rfl
  have hK : va_K (dC, dI) vwCl [(cA, .int), (cB, .long)] s := hK
  subst hw
  refine lv_istore (lv' := [(5, .int (fSC om P h p0 (fPC lr p0))), (4, .int (fPC lr p0)), (0, .ref oF), (1, .int p0), (2, .long p1)]) hx hb dX1_rewrite_14 hl (by decide) rfl (fun ls hl => ?_)
  refine lv_iload hx hb dX1_rewrite_16 (lv_at hl 0 rfl) ?_
  refine lv_if_ne (tgt := 36) hx hb dX1_rewrite_18 (by decide) (fun c_3 => ?_) (fun c_3 => ?_)
  · -- taken at 18: ¬ (fSC om P h p0 (fPC lr p0)) = 0
    refine lv_iload hx hb dX1_rewrite_36 (lv_at hl 0 rfl) ?_
    subst hQ9
    have e9 : fRewr p0 p1 (th, om, sd, po, lr, lv, d, P, V, h) = (fSC om P h p0 (fPC lr p0), (th, om, sd, po, fSL om lr, lv, d, P, V, h)) := by simp only [fRewr, if_neg c_3]
    rw [e9]
    exact W.iret (v := fSC om P h p0 (fPC lr p0)) hx hb hr (fun t ht hW => ⟨⟨fSC om P h p0 (fPC lr p0), (), rfl, rfl, by rw [ht]; exact hP, va_K.moved hW.alike hK, hD⟩, hS.F ht⟩) hS.2.2 dX1_rewrite_38
  · -- not taken at 18: (fSC om P h p0 (fPC lr p0)) = 0
    refine lv_aload_n hx hb dX1_rewrite_21 rfl (lv_at hl 2 rfl) ?_
    refine va_get (D := (dC, dI)) (ci := 2) (v := .ref oS) (C := RX1) (T := TX1) (N := 9) hx hb hts (by decide +kernel) hown hK hP 0 rfl rfl 1 (by decide) (hts (.fieldLink RX1 28 "RelativeFiles" "shelf" "LRelativeFiles$Shelf;") (by decide +kernel)) (fun _ h9 => h9) rfl dX1_rewrite_22 ?_
    refine lv_iload hx hb dX1_rewrite_25 (lv_at hl 1 rfl) ?_
    refine lv_lload_n hx hb dX1_rewrite_27 rfl (lv_at hl 4 rfl) ?_
    have hq := fSC_has c_3
    have hPc := hP.sub (ws' := [(oS, .inr (1, [.ref oA, .ref oB, .int (nI h)])), (oA, .inl (cA, n, .inl P)), (oB, .inl (cB, n, .inr (.inl V)))]) [1, 2, 3] rfl
    have hDc := hD.sub (ws' := [(oS, .inr (1, [.ref oA, .ref oB, .int (nI h)])), (oA, .inl (cA, n, .inl P)), (oB, .inl (cB, n, .inr (.inl V)))]) [1, 2, 3] (by decide) rfl
    have hKc := hK.sub (tys' := [(cA, .int), (cB, .long)]) [0, 1] rfl
    have hFc := va_free (wc := [(oS, .inr (1, [.ref oA, .ref oB, .int (nI h)])), (oA, .inl (cA, n, .inl P)), (oB, .inl (cB, n, .inr (.inl V)))]) hD hS hA [1, 2, 3] rfl
    refine va_callv (va_runV (As := [.int (fPC lr p0), .long p1]) (rest := []) ⟨hx, hb, hml, hown, hts⟩ (kX0_replace l dC dI oS oA oB cA cB n h P V (fPC lr p0) p1 H.size hh hn hq) (cwV 2 hts gX1_rewrite_X0_replace rfl rfl rfl (by decide +kernel) ⟨Nat.le_of_ble_eq_true rfl, Nat.le_of_ble_eq_true rfl⟩) ⟨fun a U g mk q => by obtain ⟨q0, q1, qP, qK, qD⟩ := q; exact ⟨q0, q1, qP, va_K.moved (u := U) (U := U.calling g mk a) (Vm.Alike.refl U.vm) qK, qD⟩, va_recv hKc hPc (ci := 1) (q0 := 0) rfl rfl, fun U hU hW => ⟨rfl, by rw [hU], by rw [hU]; exact hPc, va_K.moved hW.alike hKc, hDc.weaken (fun _ _ _ _ => trivial)⟩⟩ rfl rfl hl.1 rfl (lv_room (Nat.le_of_ble_eq_true rfl)) dX1_rewrite_28 ⟨Nat.le_of_ble_eq_true rfl, Nat.le_of_ble_eq_true rfl⟩) hS (fun q _ h => hFc q h) hFc (fun u t H1 locs ht hvm hw hB hz1 hk1 hS => ?_)
    obtain ⟨hP1, hK1, hD1⟩ := hB
    rw [ht] at hP1
    have hK1 := va_K.moved hvm.symm hK1
    try dsimp only at hw
    obtain ⟨hP, hD⟩ := va_join (wr := [(oF, .inr (2, [.int mo, .ref oS, .int th, .int om, .int sd, .int po, .int (fSL om lr), .long lv, .int (nI d)]))]) (w1 := [(oS, .inr (1, [.ref oA, .ref oB, .int (nI h)])), (oA, .inl (cA, n, .inl P)), (oB, .inl (cB, n, .inr (.inl (vp_updL V (rk P (fPC lr p0) h) p1))))]) hP hD [1, 2, 3] [0] rfl rfl (by decide) (by decide) hk1 hFc hP1 hD1
    generalize H1 = H at hP hS ⊢
    have hP : va_P (dC, dI) vwCl [(oF, .inr (2, [.int mo, .ref oS, .int th, .int om, .int sd, .int po, .int (fSL om lr), .long lv, .int (nI d)])), (oS, .inr (1, [.ref oA, .ref oB, .int (nI h)])), (oA, .inl (cA, n, .inl P)), (oB, .inl (cB, n, .inr (.inl (vp_updL V (rk P (fPC lr p0) h) p1))))] H := hP.sub [0, 1, 2, 3] rfl
    have hD : va_D A [(oF, .inr (2, [.int mo, .ref oS, .int th, .int om, .int sd, .int po, .int (fSL om lr), .long lv, .int (nI d)])), (oS, .inr (1, [.ref oA, .ref oB, .int (nI h)])), (oA, .inl (cA, n, .inl P)), (oB, .inl (cB, n, .inr (.inl (vp_updL V (rk P (fPC lr p0) h) p1))))] := hD.sub [0, 1, 2, 3] (by decide) rfl
    have hK : va_K (dC, dI) vwCl [(cA, .int), (cB, .long)] s := hK
    refine lv_aload_n hx hb dX1_rewrite_31 rfl (lv_at hl 2 rfl) ?_
    refine lv_lload_n hx hb dX1_rewrite_32 rfl (lv_at hl 4 rfl) ?_
    refine va_put (D := (dC, dI)) (ci := 2) (v := .long p1) (ty := .long) (C := RX1) (T := TX1) (N := 9) hx hb hts (by decide +kernel) tyX1 tyX1_ok nmX1 hown hK hP hD hS 0 rfl rfl 7 (by decide) (hts (.fieldLink RX1 48 "RelativeFiles" "lastValue" "J") (by decide +kernel)) (fun _ h9 => h9) rfl (by decide +kernel) rfl rfl (Nat.le_of_ble_eq_true rfl) dX1_rewrite_33 (fun H locs hP hD hS => ?_)
    have hP : va_P (dC, dI) vwCl [(oF, .inr (2, [.int mo, .ref oS, .int th, .int om, .int sd, .int po, .int (fSL om lr), .long p1, .int (nI d)])), (oS, .inr (1, [.ref oA, .ref oB, .int (nI h)])), (oA, .inl (cA, n, .inl P)), (oB, .inl (cB, n, .inr (.inl (vp_updL V (rk P (fPC lr p0) h) p1))))] H := hP
    have hD : va_D A [(oF, .inr (2, [.int mo, .ref oS, .int th, .int om, .int sd, .int po, .int (fSL om lr), .long p1, .int (nI d)])), (oS, .inr (1, [.ref oA, .ref oB, .int (nI h)])), (oA, .inl (cA, n, .inl P)), (oB, .inl (cB, n, .inr (.inl (vp_updL V (rk P (fPC lr p0) h) p1))))] := hD
    refine lv_iload hx hb dX1_rewrite_36 (lv_at hl 0 rfl) ?_
    subst hQ9
    have e9 : fRewr p0 p1 (th, om, sd, po, lr, lv, d, P, V, h) = (fSC om P h p0 (fPC lr p0), (th, om, sd, po, fSL om lr, p1, d, P, vp_updL V (rk P (fPC lr p0) h) p1, h)) := by simp only [fRewr, if_pos c_3]
    rw [e9]
    exact W.iret (v := fSC om P h p0 (fPC lr p0)) hx hb hr (fun t ht hW => ⟨⟨fSC om P h p0 (fPC lr p0), (), rfl, rfl, by rw [ht]; exact hP, va_K.moved hW.alike hK, hD⟩, hS.F ht⟩) hS.2.2 dX1_rewrite_38

set_option maxHeartbeats 1000000 in
set_option maxRecDepth 100000 in
theorem kX1_remove (l : Launch) (dC : Nat → ClassId) (dI : Nat → Nat → Nat) (oF oS oA oB : Nat) (cA cB : ClassId) (n h d : Nat) (mo th om sd po lr : Int32) (lv : Int64) (P : Nat → Int32) (V : Nat → Int64) (p0 : Int32) (sz : Nat) (hh : h ≤ n) (hn : n ≤ 512) : Met l yX1_remove wsX1_remove ({ frames := 3, cells := 0, slots := 0, locals := 65 }) (va_Pc [.ref oF, .int p0] (fun U => U.heap.size = sz ∧ va_P (dC, dI) vwCl [(oF, .inr (2, [.int mo, .ref oS, .int th, .int om, .int sd, .int po, .int lr, .long lv, .int (nI d)])), (oS, .inr (1, [.ref oA, .ref oB, .int (nI h)])), (oA, .inl (cA, n, .inl P)), (oB, .inl (cB, n, .inr (.inl V)))] U.heap ∧ va_K (dC, dI) vwCl [(cA, .int), (cB, .long)] U ∧ va_D (fun _ => True) [(oF, .inr (2, [.int mo, .ref oS, .int th, .int om, .int sd, .int po, .int lr, .long lv, .int (nI d)])), (oS, .inr (1, [.ref oA, .ref oB, .int (nI h)])), (oA, .inl (cA, n, .inl P)), (oB, .inl (cB, n, .inr (.inl V)))])) (va_Qi (fun (r : Int32) (_ : Unit) => r = (fRem p0 (th, om, sd, po, lr, lv, d, P, V, h)).1) (fun (_ : Unit) (t : State) => va_P (dC, dI) vwCl (wF oF oS oA oB cA cB n mo (fRem p0 (th, om, sd, po, lr, lv, d, P, V, h)).2) t.heap ∧ va_K (dC, dI) vwCl [(cA, .int), (cB, .long)] t ∧ va_D (va_A [(oF, .inr (2, [.int mo, .ref oS, .int th, .int om, .int sd, .int po, .int lr, .long lv, .int (nI d)])), (oS, .inr (1, [.ref oA, .ref oB, .int (nI h)])), (oA, .inl (cA, n, .inl P)), (oB, .inl (cB, n, .inr (.inl V)))] sz) (wF oF oS oA oB cA cB n mo (fRem p0 (th, om, sd, po, lr, lv, d, P, V, h)).2)) (va_A [(oF, .inr (2, [.int mo, .ref oS, .int th, .int om, .int sd, .int po, .int lr, .long lv, .int (nI d)])), (oS, .inr (1, [.ref oA, .ref oB, .int (nI h)])), (oA, .inl (cA, n, .inl P)), (oB, .inl (cB, n, .inr (.inl V)))] sz)) 0 0 (va_A [(oF, .inr (2, [.int mo, .ref oS, .int th, .int om, .int sd, .int po, .int lr, .long lv, .int (nI d)])), (oS, .inr (1, [.ref oA, .ref oB, .int (nI h)])), (oA, .inl (cA, n, .inl P)), (oB, .inl (cB, n, .inr (.inl V)))] sz) := by
  refine Met.ofW (cc := cX1_remove) (maxL := 4) (ret := (some .int)) (by decide) rfl ?_
  intro p e s m args below meth c s₁ B hml hv
  obtain ⟨rfl, hsz, hP, hK, hD0⟩ := hv
  have hx := B.exec
  have hb := B.bytes
  have hr := B.returns
  have hts := atoms_spec (ws := wsX1_remove) B.pre
  have hown : s.vm.findClass RX1 = some m.cls := findClass_of_methodNamed B.named
  have hlocks := B.notSynchronized
  subst hsz
  have hD := hD0.self (sz := s.heap.size)
  generalize hAe : va_A [(oF, .inr (2, [.int mo, .ref oS, .int th, .int om, .int sd, .int po, .int lr, .long lv, .int (nI d)])), (oS, .inr (1, [.ref oA, .ref oB, .int (nI h)])), (oA, .inl (cA, n, .inl P)), (oB, .inl (cB, n, .inr (.inl V)))] s.heap.size = A at hD ⊢
  have hA : ∀ q : Nat, s.heap.size ≤ q → A q := fun q h => by rw [← hAe]; exact Or.inr h
  have hS : va_S A s.heap s.heap [] := va_S.rf
  have hP : va_P (dC, dI) vwCl [(oF, .inr (2, [.int mo, .ref oS, .int th, .int om, .int sd, .int po, .int lr, .long lv, .int (nI d)])), (oS, .inr (1, [.ref oA, .ref oB, .int (nI h)])), (oA, .inl (cA, n, .inl P)), (oB, .inl (cB, n, .inr (.inl V)))] s.heap := hP
  have hl := lv_entry ([.ref oF, .int p0]) (n := 4) (Nat.le_of_ble_eq_true rfl)
  rw [lg_entry_eq]
  generalize (lg_sl ([.ref oF, .int p0]) ++ List.replicate (4 - (lg_sl ([.ref oF, .int p0])).length) Slot.unset).toArray = ls at hl ⊢
  have hl : lv_has ls 4 [(0, .ref oF), (1, .int p0)] := hl
  refine W_name (fun Q hQ9 => ?_)
  refine lv_aload_n hx hb dX1_remove_0 rfl (lv_at hl 0 rfl) ?_
  refine lv_iload_n hx hb dX1_remove_1 rfl (lv_at hl 1 rfl) ?_
  have hPc := hP.sub (ws' := [(oF, .inr (2, [.int mo, .ref oS, .int th, .int om, .int sd, .int po, .int lr, .long lv, .int (nI d)])), (oS, .inr (1, [.ref oA, .ref oB, .int (nI h)])), (oA, .inl (cA, n, .inl P)), (oB, .inl (cB, n, .inr (.inl V)))]) [0, 1, 2, 3] rfl
  have hDc := hD.sub (ws' := [(oF, .inr (2, [.int mo, .ref oS, .int th, .int om, .int sd, .int po, .int lr, .long lv, .int (nI d)])), (oS, .inr (1, [.ref oA, .ref oB, .int (nI h)])), (oA, .inl (cA, n, .inl P)), (oB, .inl (cB, n, .inr (.inl V)))]) [0, 1, 2, 3] (by decide) rfl
  have hKc := hK.sub (tys' := [(cA, .int), (cB, .long)]) [0, 1] rfl
  have hFc := va_free (wc := [(oF, .inr (2, [.int mo, .ref oS, .int th, .int om, .int sd, .int po, .int lr, .long lv, .int (nI d)])), (oS, .inr (1, [.ref oA, .ref oB, .int (nI h)])), (oA, .inl (cA, n, .inl P)), (oB, .inl (cB, n, .inr (.inl V)))]) hD hS hA [0, 1, 2, 3] rfl
  refine va_calli (va_runV (As := [.int p0]) (rest := []) ⟨hx, hb, hml, hown, hts⟩ (kX1_placeToChange l dC dI oF oS oA oB cA cB n h d mo th om sd po lr lv P V p0 s.heap.size hh hn) (cwV 1 hts gX1_remove_X1_placeToChange rfl rfl rfl (by decide +kernel) ⟨Nat.le_of_ble_eq_true rfl, Nat.le_of_ble_eq_true rfl⟩) ⟨fun a U g mk q => by obtain ⟨q0, q1, qP, qK, qD⟩ := q; exact ⟨q0, q1, qP, va_K.moved (u := U) (U := U.calling g mk a) (Vm.Alike.refl U.vm) qK, qD⟩, va_recv hKc hPc (ci := 2) (q0 := 0) rfl rfl, fun U hU hW => ⟨rfl, by rw [hU], by rw [hU]; exact hPc, va_K.moved hW.alike hKc, hDc.weaken (fun _ _ _ _ => trivial)⟩⟩ rfl rfl hl.1 rfl (lv_room (Nat.le_of_ble_eq_true rfl)) dX1_remove_2 ⟨Nat.le_of_ble_eq_true rfl, Nat.le_of_ble_eq_true rfl⟩) hS (fun q _ h => hFc q h) hFc (fun r_1 u t H1 locs ht hvm hw hB hz1 hk1 hS => ?_)
  obtain ⟨hP1, hK1, hD1⟩ := hB
  rw [ht] at hP1
  have hK1 := va_K.moved hvm.symm hK1
  try dsimp only at hw
  obtain ⟨hP, hD⟩ := va_join (wr := []) (w1 := [(oF, .inr (2, [.int mo, .ref oS, .int th, .int om, .int sd, .int po, .int lr, .long lv, .int (nI d)])), (oS, .inr (1, [.ref oA, .ref oB, .int (nI h)])), (oA, .inl (cA, n, .inl P)), (oB, .inl (cB, n, .inr (.inl V)))]) hP hD [0, 1, 2, 3] [] rfl rfl (by decide) (by decide) hk1 hFc hP1 hD1
  generalize H1 = H at hP hS ⊢
  have hP : va_P (dC, dI) vwCl [(oF, .inr (2, [.int mo, .ref oS, .int th, .int om, .int sd, .int po, .int lr, .long lv, .int (nI d)])), (oS, .inr (1, [.ref oA, .ref oB, .int (nI h)])), (oA, .inl (cA, n, .inl P)), (oB, .inl (cB, n, .inr (.inl V)))] H := hP.sub [0, 1, 2, 3] rfl
  have hD : va_D A [(oF, .inr (2, [.int mo, .ref oS, .int th, .int om, .int sd, .int po, .int lr, .long lv, .int (nI d)])), (oS, .inr (1, [.ref oA, .ref oB, .int (nI h)])), (oA, .inl (cA, n, .inl P)), (oB, .inl (cB, n, .inr (.inl V)))] := hD.sub [0, 1, 2, 3] (by decide) rfl
  have hK : va_K (dC, dI) vwCl [(cA, .int), (cB, .long)] s := hK
  subst hw
  refine lv_istore_n (lv' := [(2, .int (fPC lr p0)), (0, .ref oF), (1, .int p0)]) hx hb dX1_remove_5 rfl hl (by decide) rfl (fun ls hl => ?_)
  refine lv_aload_n hx hb dX1_remove_6 rfl (lv_at hl 1 rfl) ?_
  refine lv_iload_n hx hb dX1_remove_7 rfl (lv_at hl 2 rfl) ?_
  refine lv_iload_n hx hb dX1_remove_8 rfl (lv_at hl 0 rfl) ?_
  have hPc := hP.sub (ws' := [(oF, .inr (2, [.int mo, .ref oS, .int th, .int om, .int sd, .int po, .int lr, .long lv, .int (nI d)])), (oS, .inr (1, [.ref oA, .ref oB, .int (nI h)])), (oA, .inl (cA, n, .inl P)), (oB, .inl (cB, n, .inr (.inl V)))]) [0, 1, 2, 3] rfl
  have hDc := hD.sub (ws' := [(oF, .inr (2, [.int mo, .ref oS, .int th, .int om, .int sd, .int po, .int lr, .long lv, .int (nI d)])), (oS, .inr (1, [.ref oA, .ref oB, .int (nI h)])), (oA, .inl (cA, n, .inl P)), (oB, .inl (cB, n, .inr (.inl V)))]) [0, 1, 2, 3] (by decide) rfl
  have hKc := hK.sub (tys' := [(cA, .int), (cB, .long)]) [0, 1] rfl
  have hFc := va_free (wc := [(oF, .inr (2, [.int mo, .ref oS, .int th, .int om, .int sd, .int po, .int lr, .long lv, .int (nI d)])), (oS, .inr (1, [.ref oA, .ref oB, .int (nI h)])), (oA, .inl (cA, n, .inl P)), (oB, .inl (cB, n, .inr (.inl V)))]) hD hS hA [0, 1, 2, 3] rfl
  refine va_calli (va_runV (As := [.int p0, .int (fPC lr p0)]) (rest := []) ⟨hx, hb, hml, hown, hts⟩ (kX1_statusOfChange l dC dI oF oS oA oB cA cB n h d mo th om sd po lr lv P V p0 (fPC lr p0) H.size hh hn) (cwV 2 hts gX1_remove_X1_statusOfChange rfl rfl rfl (by decide +kernel) ⟨Nat.le_of_ble_eq_true rfl, Nat.le_of_ble_eq_true rfl⟩) ⟨fun a U g mk q => by obtain ⟨q0, q1, qP, qK, qD⟩ := q; exact ⟨q0, q1, qP, va_K.moved (u := U) (U := U.calling g mk a) (Vm.Alike.refl U.vm) qK, qD⟩, va_recv hKc hPc (ci := 2) (q0 := 0) rfl rfl, fun U hU hW => ⟨rfl, by rw [hU], by rw [hU]; exact hPc, va_K.moved hW.alike hKc, hDc.weaken (fun _ _ _ _ => trivial)⟩⟩ rfl rfl hl.1 rfl (lv_room (Nat.le_of_ble_eq_true rfl)) dX1_remove_9 ⟨Nat.le_of_ble_eq_true rfl, Nat.le_of_ble_eq_true rfl⟩) hS (fun q _ h => hFc q h) hFc (fun r_2 u t H1 locs ht hvm hw hB hz1 hk1 hS => ?_)
  obtain ⟨hP1, hK1, hD1⟩ := hB
  rw [ht] at hP1
  have hK1 := va_K.moved hvm.symm hK1
  try dsimp only at hw
  obtain ⟨hP, hD⟩ := va_join (wr := []) (w1 := [(oF, .inr (2, [.int mo, .ref oS, .int th, .int om, .int sd, .int po, .int (fSL om lr), .long lv, .int (nI d)])), (oS, .inr (1, [.ref oA, .ref oB, .int (nI h)])), (oA, .inl (cA, n, .inl P)), (oB, .inl (cB, n, .inr (.inl V)))]) hP hD [0, 1, 2, 3] [] rfl rfl (by decide) (by decide) hk1 hFc hP1 hD1
  generalize H1 = H at hP hS ⊢
  have hP : va_P (dC, dI) vwCl [(oF, .inr (2, [.int mo, .ref oS, .int th, .int om, .int sd, .int po, .int (fSL om lr), .long lv, .int (nI d)])), (oS, .inr (1, [.ref oA, .ref oB, .int (nI h)])), (oA, .inl (cA, n, .inl P)), (oB, .inl (cB, n, .inr (.inl V)))] H := hP.sub [0, 1, 2, 3] rfl
  have hD : va_D A [(oF, .inr (2, [.int mo, .ref oS, .int th, .int om, .int sd, .int po, .int (fSL om lr), .long lv, .int (nI d)])), (oS, .inr (1, [.ref oA, .ref oB, .int (nI h)])), (oA, .inl (cA, n, .inl P)), (oB, .inl (cB, n, .inr (.inl V)))] := hD.sub [0, 1, 2, 3] (by decide) rfl
  have hK : va_K (dC, dI) vwCl [(cA, .int), (cB, .long)] s := hK
  subst hw
  refine lv_istore_n (lv' := [(3, .int (fSC om P h p0 (fPC lr p0))), (2, .int (fPC lr p0)), (0, .ref oF), (1, .int p0)]) hx hb dX1_remove_12 rfl hl (by decide) rfl (fun ls hl => ?_)
  refine lv_iload_n hx hb dX1_remove_13 rfl (lv_at hl 0 rfl) ?_
  refine lv_if_ne (tgt := 25) hx hb dX1_remove_14 (by decide) (fun c_3 => ?_) (fun c_3 => ?_)
  · -- taken at 14: ¬ (fSC om P h p0 (fPC lr p0)) = 0
    refine lv_iload_n hx hb dX1_remove_25 rfl (lv_at hl 0 rfl) ?_
    subst hQ9
    have e9 : fRem p0 (th, om, sd, po, lr, lv, d, P, V, h) = (fSC om P h p0 (fPC lr p0), (th, om, sd, po, fSL om lr, lv, d, P, V, h)) := by simp only [fRem, if_neg c_3]
    rw [e9]
    exact W.iret (v := fSC om P h p0 (fPC lr p0)) hx hb hr (fun t ht hW => ⟨⟨fSC om P h p0 (fPC lr p0), (), rfl, rfl, by rw [ht]; exact hP, va_K.moved hW.alike hK, hD⟩, hS.F ht⟩) hS.2.2 dX1_remove_26
  · -- not taken at 14: (fSC om P h p0 (fPC lr p0)) = 0
    refine lv_aload_n hx hb dX1_remove_17 rfl (lv_at hl 2 rfl) ?_
    refine va_get (D := (dC, dI)) (ci := 2) (v := .ref oS) (C := RX1) (T := TX1) (N := 9) hx hb hts (by decide +kernel) hown hK hP 0 rfl rfl 1 (by decide) (hts (.fieldLink RX1 28 "RelativeFiles" "shelf" "LRelativeFiles$Shelf;") (by decide +kernel)) (fun _ h9 => h9) rfl dX1_remove_18 ?_
    refine lv_iload_n hx hb dX1_remove_21 rfl (lv_at hl 1 rfl) ?_
    have hq := fSC_has c_3
    have hPc := hP.sub (ws' := [(oS, .inr (1, [.ref oA, .ref oB, .int (nI h)])), (oA, .inl (cA, n, .inl P)), (oB, .inl (cB, n, .inr (.inl V)))]) [1, 2, 3] rfl
    have hDc := hD.sub (ws' := [(oS, .inr (1, [.ref oA, .ref oB, .int (nI h)])), (oA, .inl (cA, n, .inl P)), (oB, .inl (cB, n, .inr (.inl V)))]) [1, 2, 3] (by decide) rfl
    have hKc := hK.sub (tys' := [(cA, .int), (cB, .long)]) [0, 1] rfl
    have hFc := va_free (wc := [(oS, .inr (1, [.ref oA, .ref oB, .int (nI h)])), (oA, .inl (cA, n, .inl P)), (oB, .inl (cB, n, .inr (.inl V)))]) hD hS hA [1, 2, 3] rfl
    refine va_callv (va_runV (As := [.int (fPC lr p0)]) (rest := []) ⟨hx, hb, hml, hown, hts⟩ (kX0_drop l dC dI oS oA oB cA cB n h P V (fPC lr p0) H.size hh hn hq) (cwV 1 hts gX1_remove_X0_drop rfl rfl rfl (by decide +kernel) ⟨Nat.le_of_ble_eq_true rfl, Nat.le_of_ble_eq_true rfl⟩) ⟨fun a U g mk q => by obtain ⟨q0, q1, qP, qK, qD⟩ := q; exact ⟨q0, q1, qP, va_K.moved (u := U) (U := U.calling g mk a) (Vm.Alike.refl U.vm) qK, qD⟩, va_recv hKc hPc (ci := 1) (q0 := 0) rfl rfl, fun U hU hW => ⟨rfl, by rw [hU], by rw [hU]; exact hPc, va_K.moved hW.alike hKc, hDc.weaken (fun _ _ _ _ => trivial)⟩⟩ rfl rfl hl.1 rfl (lv_room (Nat.le_of_ble_eq_true rfl)) dX1_remove_22 ⟨Nat.le_of_ble_eq_true rfl, Nat.le_of_ble_eq_true rfl⟩) hS (fun q _ h => hFc q h) hFc (fun u t H1 locs ht hvm hw hB hz1 hk1 hS => ?_)
    obtain ⟨hP1, hK1, hD1⟩ := hB
    rw [ht] at hP1
    have hK1 := va_K.moved hvm.symm hK1
    try dsimp only at hw
    obtain ⟨hP, hD⟩ := va_join (wr := [(oF, .inr (2, [.int mo, .ref oS, .int th, .int om, .int sd, .int po, .int (fSL om lr), .long lv, .int (nI d)]))]) (w1 := [(oS, .inr (1, [.ref oA, .ref oB, .int (nI (h - 1))])), (oA, .inl (cA, n, .inl (delA P (rk P (fPC lr p0) h) (h - 1)))), (oB, .inl (cB, n, .inr (.inl (delA V (rk P (fPC lr p0) h) (h - 1)))))]) hP hD [1, 2, 3] [0] rfl rfl (by decide) (by decide) hk1 hFc hP1 hD1
    generalize H1 = H at hP hS ⊢
    have hP : va_P (dC, dI) vwCl [(oF, .inr (2, [.int mo, .ref oS, .int th, .int om, .int sd, .int po, .int (fSL om lr), .long lv, .int (nI d)])), (oS, .inr (1, [.ref oA, .ref oB, .int (nI (h - 1))])), (oA, .inl (cA, n, .inl (delA P (rk P (fPC lr p0) h) (h - 1)))), (oB, .inl (cB, n, .inr (.inl (delA V (rk P (fPC lr p0) h) (h - 1)))))] H := hP.sub [0, 1, 2, 3] rfl
    have hD : va_D A [(oF, .inr (2, [.int mo, .ref oS, .int th, .int om, .int sd, .int po, .int (fSL om lr), .long lv, .int (nI d)])), (oS, .inr (1, [.ref oA, .ref oB, .int (nI (h - 1))])), (oA, .inl (cA, n, .inl (delA P (rk P (fPC lr p0) h) (h - 1)))), (oB, .inl (cB, n, .inr (.inl (delA V (rk P (fPC lr p0) h) (h - 1)))))] := hD.sub [0, 1, 2, 3] (by decide) rfl
    have hK : va_K (dC, dI) vwCl [(cA, .int), (cB, .long)] s := hK
    refine lv_iload_n hx hb dX1_remove_25 rfl (lv_at hl 0 rfl) ?_
    subst hQ9
    have e9 : fRem p0 (th, om, sd, po, lr, lv, d, P, V, h) = (fSC om P h p0 (fPC lr p0), (th, om, sd, po, fSL om lr, lv, d, delA P (rk P (fPC lr p0) h) (h - 1), delA V (rk P (fPC lr p0) h) (h - 1), (h - 1))) := by simp only [fRem, if_pos c_3]
    rw [e9]
    exact W.iret (v := fSC om P h p0 (fPC lr p0)) hx hb hr (fun t ht hW => ⟨⟨fSC om P h p0 (fPC lr p0), (), rfl, rfl, by rw [ht]; exact hP, va_K.moved hW.alike hK, hD⟩, hS.F ht⟩) hS.2.2 dX1_remove_26
end
