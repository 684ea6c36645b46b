/-! my names: classes, their fields in the order of the slots, methods, codes -/
def R_Marker : String := "KeyMaker$Marker"
def R_Summer : String := "KeyMaker$Summer"
def R_KeyMaker : String := "KeyMaker"
def R_Model : String := "KeyMakerModel"
def R_Law : String := "KeyMakerLaw"
def R_Integer : String := "java/lang/Integer"
def R_Arrays : String := "java/util/Arrays"
def F_Marker : u_T := fun k => match k with
  | 0 => ("KeyMaker$Marker", "summer", "LKeyMaker$Summer;", true)
  | 1 => ("KeyMaker$Marker", "shortKey", "[I", true)
  | 2 => ("KeyMaker$Marker", "block", "[I", true)
  | 3 => ("KeyMaker$Marker", "innerSum", "[I", true)
  | 4 => ("KeyMaker$Marker", "innerState", "[I", true)
  | _ => ("KeyMaker$Marker", "outerState", "[I", true)
def t_Marker : Nat → FieldType := fun k => match k with
  | 0 => .object "KeyMaker$Summer"
  | 1 => .array .int
  | 2 => .array .int
  | 3 => .array .int
  | 4 => .array .int
  | _ => .array .int
theorem n_Marker : ∀ a, a < 6 → ∀ b, b < 6 → a ≠ b → (F_Marker a).2.1 ≠ (F_Marker b).2.1 := by decide +kernel
theorem t_Marker_ok : ∀ k, k < 6 → parseFieldDescriptor (F_Marker k).2.2.1 = some (t_Marker k) := by decide +kernel
def F_Summer : u_T := fun k => match k with
  | 0 => ("KeyMaker$Summer", "state", "[I", true)
  | 1 => ("KeyMaker$Summer", "words", "[I", true)
  | _ => ("KeyMaker$Summer", "taken", "I", false)
def t_Summer : Nat → FieldType := fun k => match k with
  | 0 => .array .int
  | 1 => .array .int
  | _ => .int
theorem n_Summer : ∀ a, a < 3 → ∀ b, b < 3 → a ≠ b → (F_Summer a).2.1 ≠ (F_Summer b).2.1 := by decide +kernel
theorem t_Summer_ok : ∀ k, k < 3 → parseFieldDescriptor (F_Summer k).2.2.1 = some (t_Summer k) := by decide +kernel
def F_KeyMaker : u_T := fun k => match k with
  | 0 => ("KeyMaker", "passwordRow", "[I", true)
  | 1 => ("KeyMaker", "saltRow", "[I", true)
  | 2 => ("KeyMaker", "keyRow", "[I", true)
  | 3 => ("KeyMaker", "lastMark", "[I", true)
  | 4 => ("KeyMaker", "answer", "[I", true)
  | 5 => ("KeyMaker", "summer", "LKeyMaker$Summer;", true)
  | 6 => ("KeyMaker", "marker", "LKeyMaker$Marker;", true)
  | 7 => ("KeyMaker", "passwordCount", "I", false)
  | 8 => ("KeyMaker", "saltCount", "I", false)
  | 9 => ("KeyMaker", "keyCount", "I", false)
  | 10 => ("KeyMaker", "turnsOfEach", "I", false)
  | 11 => ("KeyMaker", "partsDone", "I", false)
  | _ => ("KeyMaker", "turnsOfThis", "I", false)
def t_KeyMaker : Nat → FieldType := fun k => match k with
  | 0 => .array .int
  | 1 => .array .int
  | 2 => .array .int
  | 3 => .array .int
  | 4 => .array .int
  | 5 => .object "KeyMaker$Summer"
  | 6 => .object "KeyMaker$Marker"
  | 7 => .int
  | 8 => .int
  | 9 => .int
  | 10 => .int
  | 11 => .int
  | _ => .int
theorem n_KeyMaker : ∀ a, a < 13 → ∀ b, b < 13 → a ≠ b → (F_KeyMaker a).2.1 ≠ (F_KeyMaker b).2.1 := by decide +kernel
theorem t_KeyMaker_ok : ∀ k, k < 13 → parseFieldDescriptor (F_KeyMaker k).2.2.1 = some (t_KeyMaker k) := by decide +kernel
def F_Model : u_T := fun k => match k with
  | 0 => ("KeyMakerModel", "cubes", "[I", true)
  | 1 => ("KeyMakerModel", "squares", "[I", true)
  | 2 => ("KeyMakerModel", "secret", "[B", true)
  | 3 => ("KeyMakerModel", "secretSize", "I", false)
  | 4 => ("KeyMakerModel", "grain", "[B", true)
  | 5 => ("KeyMakerModel", "grainSize", "I", false)
  | 6 => ("KeyMakerModel", "isStarted", "Z", false)
  | 7 => ("KeyMakerModel", "turns", "I", false)
  | 8 => ("KeyMakerModel", "wanted", "I", false)
  | 9 => ("KeyMakerModel", "done", "I", false)
  | 10 => ("KeyMakerModel", "last", "[B", true)
  | 11 => ("KeyMakerModel", "parts", "[B", true)
  | 12 => ("KeyMakerModel", "row", "[B", true)
  | 13 => ("KeyMakerModel", "rowSize", "I", false)
  | 14 => ("KeyMakerModel", "result", "[B", true)
  | 15 => ("KeyMakerModel", "state", "[I", true)
  | 16 => ("KeyMakerModel", "now", "[I", true)
  | 17 => ("KeyMakerModel", "words", "[I", true)
  | _ => ("KeyMakerModel", "padded", "[B", true)
def t_Model : Nat → FieldType := fun k => match k with
  | 0 => .array .int
  | 1 => .array .int
  | 2 => .array .byte
  | 3 => .int
  | 4 => .array .byte
  | 5 => .int
  | 6 => .boolean
  | 7 => .int
  | 8 => .int
  | 9 => .int
  | 10 => .array .byte
  | 11 => .array .byte
  | 12 => .array .byte
  | 13 => .int
  | 14 => .array .byte
  | 15 => .array .int
  | 16 => .array .int
  | 17 => .array .int
  | _ => .array .byte
theorem n_Model : ∀ a, a < 19 → ∀ b, b < 19 → a ≠ b → (F_Model a).2.1 ≠ (F_Model b).2.1 := by decide +kernel
theorem t_Model_ok : ∀ k, k < 19 → parseFieldDescriptor (F_Model k).2.2.1 = some (t_Model k) := by decide +kernel
abbrev classes : List vw_C := [(R_Marker, F_Marker, 6), (R_Summer, F_Summer, 3), (R_KeyMaker, F_KeyMaker, 13), (R_Model, F_Model, 19)]
def y_KeyMaker_init : MethodName := ⟨R_KeyMaker, "<init>", "()V"⟩
def y_Summer_init : MethodName := ⟨R_Summer, "<init>", "()V"⟩
def y_Marker_init : MethodName := ⟨R_Marker, "<init>", "()V"⟩
def y_KeyMaker_forgetAll : MethodName := ⟨R_KeyMaker, "forgetAll", "()V"⟩
def y_KeyMaker_password : MethodName := ⟨R_KeyMaker, "password", "(I)Z"⟩
def y_KeyMaker_isByte : MethodName := ⟨R_KeyMaker, "isByte", "(I)Z"⟩
def y_KeyMaker_isStarted : MethodName := ⟨R_KeyMaker, "isStarted", "()Z"⟩
def y_KeyMaker_four : MethodName := ⟨R_KeyMaker, "four", "(I)Z"⟩
def y_KeyMaker_putWord : MethodName := ⟨R_KeyMaker, "putWord", "(I[II)V"⟩
def y_KeyMaker_salt : MethodName := ⟨R_KeyMaker, "salt", "(I)Z"⟩
def y_KeyMaker_start : MethodName := ⟨R_KeyMaker, "start", "(II)I"⟩
def y_Arrays_fill : MethodName := ⟨R_Arrays, "fill", "([II)V"⟩
def y_Marker_takeKey : MethodName := ⟨R_Marker, "takeKey", "([II)V"⟩
def y_Summer_writeSum : MethodName := ⟨R_Summer, "writeSum", "([II[I)V"⟩
def y_Summer_begin : MethodName := ⟨R_Summer, "begin", "()V"⟩
def y_Summer_takeRow : MethodName := ⟨R_Summer, "takeRow", "([II)V"⟩
def y_Summer_take : MethodName := ⟨R_Summer, "take", "(I)V"⟩
def y_Summer_spreadWords : MethodName := ⟨R_Summer, "spreadWords", "()V"⟩
def y_Summer_smallOne : MethodName := ⟨R_Summer, "smallOne", "(I)I"⟩
def y_Integer_rotateRight : MethodName := ⟨R_Integer, "rotateRight", "(II)I"⟩
def y_Summer_smallZero : MethodName := ⟨R_Summer, "smallZero", "(I)I"⟩
def y_Summer_mixWords : MethodName := ⟨R_Summer, "mixWords", "()V"⟩
def y_Summer_bigOne : MethodName := ⟨R_Summer, "bigOne", "(I)I"⟩
def y_Summer_bigZero : MethodName := ⟨R_Summer, "bigZero", "(I)I"⟩
def y_Summer_finish : MethodName := ⟨R_Summer, "finish", "([I)V"⟩
def y_Marker_keepStateBehindKey : MethodName := ⟨R_Marker, "keepStateBehindKey", "(I[I)V"⟩
def y_Summer_keepState : MethodName := ⟨R_Summer, "keepState", "([I)V"⟩
def y_KeyMaker_turnsLeft : MethodName := ⟨R_KeyMaker, "turnsLeft", "()I"⟩
def y_KeyMaker_step : MethodName := ⟨R_KeyMaker, "step", "()I"⟩
def y_KeyMaker_turn : MethodName := ⟨R_KeyMaker, "turn", "()V"⟩
def y_Marker_writeMark : MethodName := ⟨R_Marker, "writeMark", "([II[I)V"⟩
def y_Summer_beginBehindBlock : MethodName := ⟨R_Summer, "beginBehindBlock", "([I)V"⟩
def y_KeyMaker_foldLastMark : MethodName := ⟨R_KeyMaker, "foldLastMark", "()V"⟩
def y_KeyMaker_run : MethodName := ⟨R_KeyMaker, "run", "(I)I"⟩
def y_KeyMaker_left : MethodName := ⟨R_KeyMaker, "left", "()I"⟩
def y_KeyMaker_key : MethodName := ⟨R_KeyMaker, "key", "(I)I"⟩
def y_KeyMaker_reset : MethodName := ⟨R_KeyMaker, "reset", "()V"⟩
def y_KeyMaker_many : MethodName := ⟨R_KeyMaker, "many", "(I)I"⟩
def y_KeyMaker_sum : MethodName := ⟨R_KeyMaker, "sum", "(I)I"⟩
def y_KeyMaker_isPlaceOfSum : MethodName := ⟨R_KeyMaker, "isPlaceOfSum", "(I)Z"⟩
def y_KeyMaker_mark : MethodName := ⟨R_KeyMaker, "mark", "(I)I"⟩
def y_KeyMaker_word : MethodName := ⟨R_KeyMaker, "word", "(II)I"⟩
def y_Model_init : MethodName := ⟨R_Model, "<init>", "()V"⟩
def y_Model_root : MethodName := ⟨R_Model, "root", "(IZ)I"⟩
def y_Model_isAtMost : MethodName := ⟨R_Model, "isAtMost", "(JIZ)Z"⟩
def y_Model_word : MethodName := ⟨R_Model, "word", "(II)I"⟩
def y_Model_password : MethodName := ⟨R_Model, "password", "(I)Z"⟩
def y_Model_takes : MethodName := ⟨R_Model, "takes", "(I)Z"⟩
def y_Model_four : MethodName := ⟨R_Model, "four", "(I)Z"⟩
def y_Model_salt : MethodName := ⟨R_Model, "salt", "(I)Z"⟩
def y_Model_start : MethodName := ⟨R_Model, "start", "(II)I"⟩
def y_Model_partCount : MethodName := ⟨R_Model, "partCount", "()I"⟩
def y_Model_left : MethodName := ⟨R_Model, "left", "()I"⟩
def y_Model_step : MethodName := ⟨R_Model, "step", "()I"⟩
def y_Model_markOf : MethodName := ⟨R_Model, "markOf", "([BI)V"⟩
def y_Model_sumOf : MethodName := ⟨R_Model, "sumOf", "([BI)V"⟩
def y_Model_lay : MethodName := ⟨R_Model, "lay", "(I)V"⟩
def y_Model_reckon : MethodName := ⟨R_Model, "reckon", "()V"⟩
def y_Model_mix : MethodName := ⟨R_Model, "mix", "(I)V"⟩
def y_Model_rot : MethodName := ⟨R_Model, "rot", "(II)I"⟩
def y_Model_run : MethodName := ⟨R_Model, "run", "(I)I"⟩
def y_Model_key : MethodName := ⟨R_Model, "key", "(I)I"⟩
def y_Model_reset : MethodName := ⟨R_Model, "reset", "()V"⟩
def y_Model_many : MethodName := ⟨R_Model, "many", "(I)I"⟩
def y_Model_sum : MethodName := ⟨R_Model, "sum", "(I)I"⟩
def y_Model_mark : MethodName := ⟨R_Model, "mark", "(I)I"⟩
abbrev b_KeyMaker_init : ByteArray := prog_1_method_1_code
abbrev b_Summer_init : ByteArray := prog_3_method_1_code
abbrev b_Marker_init : ByteArray := prog_2_method_1_code
abbrev b_KeyMaker_forgetAll : ByteArray := prog_1_method_20_code
abbrev b_KeyMaker_password : ByteArray := prog_1_method_2_code
abbrev b_KeyMaker_isByte : ByteArray := prog_1_method_15_code
abbrev b_KeyMaker_isStarted : ByteArray := prog_1_method_18_code
abbrev b_KeyMaker_four : ByteArray := prog_1_method_3_code
abbrev b_KeyMaker_putWord : ByteArray := prog_1_method_17_code
abbrev b_KeyMaker_salt : ByteArray := prog_1_method_4_code
abbrev b_KeyMaker_start : ByteArray := prog_1_method_5_code
abbrev b_Arrays_fill : ByteArray := prog_9_method_103_code
abbrev b_Marker_takeKey : ByteArray := prog_2_method_2_code
abbrev b_Summer_writeSum : ByteArray := prog_3_method_2_code
abbrev b_Summer_begin : ByteArray := prog_3_method_3_code
abbrev b_Summer_takeRow : ByteArray := prog_3_method_6_code
abbrev b_Summer_take : ByteArray := prog_3_method_8_code
abbrev b_Summer_spreadWords : ByteArray := prog_3_method_9_code
abbrev b_Summer_smallOne : ByteArray := prog_3_method_12_code
abbrev b_Integer_rotateRight : ByteArray := prog_6_method_51_code
abbrev b_Summer_smallZero : ByteArray := prog_3_method_11_code
abbrev b_Summer_mixWords : ByteArray := prog_3_method_10_code
abbrev b_Summer_bigOne : ByteArray := prog_3_method_14_code
abbrev b_Summer_bigZero : ByteArray := prog_3_method_13_code
abbrev b_Summer_finish : ByteArray := prog_3_method_7_code
abbrev b_Marker_keepStateBehindKey : ByteArray := prog_2_method_4_code
abbrev b_Summer_keepState : ByteArray := prog_3_method_5_code
abbrev b_KeyMaker_turnsLeft : ByteArray := prog_1_method_19_code
abbrev b_KeyMaker_step : ByteArray := prog_1_method_6_code
abbrev b_KeyMaker_turn : ByteArray := prog_1_method_21_code
abbrev b_Marker_writeMark : ByteArray := prog_2_method_3_code
abbrev b_Summer_beginBehindBlock : ByteArray := prog_3_method_4_code
abbrev b_KeyMaker_foldLastMark : ByteArray := prog_1_method_22_code
abbrev b_KeyMaker_run : ByteArray := prog_1_method_7_code
abbrev b_KeyMaker_left : ByteArray := prog_1_method_8_code
abbrev b_KeyMaker_key : ByteArray := prog_1_method_9_code
abbrev b_KeyMaker_reset : ByteArray := prog_1_method_10_code
abbrev b_KeyMaker_many : ByteArray := prog_1_method_11_code
abbrev b_KeyMaker_sum : ByteArray := prog_1_method_12_code
abbrev b_KeyMaker_isPlaceOfSum : ByteArray := prog_1_method_16_code
abbrev b_KeyMaker_mark : ByteArray := prog_1_method_13_code
abbrev b_KeyMaker_word : ByteArray := prog_1_method_14_code
abbrev b_Model_init : ByteArray := prog_5_method_1_code
abbrev b_Model_root : ByteArray := prog_5_method_4_code
abbrev b_Model_isAtMost : ByteArray := prog_5_method_3_code
abbrev b_Model_word : ByteArray := prog_5_method_5_code
abbrev b_Model_password : ByteArray := prog_5_method_13_code
abbrev b_Model_takes : ByteArray := prog_5_method_12_code
abbrev b_Model_four : ByteArray := prog_5_method_14_code
abbrev b_Model_salt : ByteArray := prog_5_method_15_code
abbrev b_Model_start : ByteArray := prog_5_method_17_code
abbrev b_Model_partCount : ByteArray := prog_5_method_16_code
abbrev b_Model_left : ByteArray := prog_5_method_18_code
abbrev b_Model_step : ByteArray := prog_5_method_19_code
abbrev b_Model_markOf : ByteArray := prog_5_method_10_code
abbrev b_Model_sumOf : ByteArray := prog_5_method_11_code
abbrev b_Model_lay : ByteArray := prog_5_method_7_code
abbrev b_Model_reckon : ByteArray := prog_5_method_8_code
abbrev b_Model_mix : ByteArray := prog_5_method_9_code
abbrev b_Model_rot : ByteArray := prog_5_method_6_code
abbrev b_Model_run : ByteArray := prog_5_method_20_code
abbrev b_Model_key : ByteArray := prog_5_method_21_code
abbrev b_Model_reset : ByteArray := prog_5_method_22_code
abbrev b_Model_many : ByteArray := prog_5_method_23_code
abbrev b_Model_sum : ByteArray := prog_5_method_24_code
abbrev b_Model_mark : ByteArray := prog_5_method_25_code
/-- the words that all methods are proved under -/
def xG : List Cond := lw_tbl.filter goodWord
theorem xin {w : Cond} (i : Nat) (h : lw_tbl[i]? = some w) (hg : goodWord w = true) : w ∈ xG := List.mem_filter.mpr ⟨List.mem_of_getElem? h, hg⟩
theorem xG_in : ∀ w ∈ xG, w ∈ lw_tbl := fun _ h => (List.mem_filter.mp h).1
theorem hi_Marker : ∀ w ∈ u_ws R_Marker F_Marker 6, w ∈ xG := by
  intro w h
  obtain ⟨k, hk, rfl⟩ := List.mem_map.mp h
  have hk := List.mem_range.mp hk
  rcases (show k = 0 ∨ k = 1 ∨ k = 2 ∨ k = 3 ∨ k = 4 ∨ k = 5 by omega) with rfl | rfl | rfl | rfl | rfl | rfl
  · exact xin 64 (by decide +kernel) (by decide +kernel)
  · exact xin 66 (by decide +kernel) (by decide +kernel)
  · exact xin 68 (by decide +kernel) (by decide +kernel)
  · exact xin 70 (by decide +kernel) (by decide +kernel)
  · exact xin 72 (by decide +kernel) (by decide +kernel)
  · exact xin 74 (by decide +kernel) (by decide +kernel)
theorem hi_Summer : ∀ w ∈ u_ws R_Summer F_Summer 3, w ∈ xG := by
  intro w h
  obtain ⟨k, hk, rfl⟩ := List.mem_map.mp h
  have hk := List.mem_range.mp hk
  rcases (show k = 0 ∨ k = 1 ∨ k = 2 by omega) with rfl | rfl | rfl
  · exact xin 42 (by decide +kernel) (by decide +kernel)
  · exact xin 44 (by decide +kernel) (by decide +kernel)
  · exact xin 46 (by decide +kernel) (by decide +kernel)
theorem hi_KeyMaker : ∀ w ∈ u_ws R_KeyMaker F_KeyMaker 13, w ∈ xG := by
  intro w h
  obtain ⟨k, hk, rfl⟩ := List.mem_map.mp h
  have hk := List.mem_range.mp hk
  rcases (show k = 0 ∨ k = 1 ∨ k = 2 ∨ k = 3 ∨ k = 4 ∨ k = 5 ∨ k = 6 ∨ k = 7 ∨ k = 8 ∨ k = 9 ∨ k = 10 ∨ k = 11 ∨ k = 12 by omega) with rfl | rfl | rfl | rfl | rfl | rfl | rfl | rfl | rfl | rfl | rfl | rfl | rfl
  · exact xin 94 (by decide +kernel) (by decide +kernel)
  · exact xin 96 (by decide +kernel) (by decide +kernel)
  · exact xin 98 (by decide +kernel) (by decide +kernel)
  · exact xin 100 (by decide +kernel) (by decide +kernel)
  · exact xin 102 (by decide +kernel) (by decide +kernel)
  · exact xin 104 (by decide +kernel) (by decide +kernel)
  · exact xin 106 (by decide +kernel) (by decide +kernel)
  · exact xin 108 (by decide +kernel) (by decide +kernel)
  · exact xin 110 (by decide +kernel) (by decide +kernel)
  · exact xin 112 (by decide +kernel) (by decide +kernel)
  · exact xin 114 (by decide +kernel) (by decide +kernel)
  · exact xin 116 (by decide +kernel) (by decide +kernel)
  · exact xin 118 (by decide +kernel) (by decide +kernel)
theorem hi_Model : ∀ w ∈ u_ws R_Model F_Model 19, w ∈ xG := by
  intro w h
  obtain ⟨k, hk, rfl⟩ := List.mem_map.mp h
  have hk := List.mem_range.mp hk
  rcases (show k = 0 ∨ k = 1 ∨ k = 2 ∨ k = 3 ∨ k = 4 ∨ k = 5 ∨ k = 6 ∨ k = 7 ∨ k = 8 ∨ k = 9 ∨ k = 10 ∨ k = 11 ∨ k = 12 ∨ k = 13 ∨ k = 14 ∨ k = 15 ∨ k = 16 ∨ k = 17 ∨ k = 18 by omega) with rfl | rfl | rfl | rfl | rfl | rfl | rfl | rfl | rfl | rfl | rfl | rfl | rfl | rfl | rfl | rfl | rfl | rfl | rfl
  · exact xin 318 (by decide +kernel) (by decide +kernel)
  · exact xin 320 (by decide +kernel) (by decide +kernel)
  · exact xin 322 (by decide +kernel) (by decide +kernel)
  · exact xin 324 (by decide +kernel) (by decide +kernel)
  · exact xin 326 (by decide +kernel) (by decide +kernel)
  · exact xin 328 (by decide +kernel) (by decide +kernel)
  · exact xin 330 (by decide +kernel) (by decide +kernel)
  · exact xin 332 (by decide +kernel) (by decide +kernel)
  · exact xin 334 (by decide +kernel) (by decide +kernel)
  · exact xin 336 (by decide +kernel) (by decide +kernel)
  · exact xin 338 (by decide +kernel) (by decide +kernel)
  · exact xin 340 (by decide +kernel) (by decide +kernel)
  · exact xin 342 (by decide +kernel) (by decide +kernel)
  · exact xin 344 (by decide +kernel) (by decide +kernel)
  · exact xin 346 (by decide +kernel) (by decide +kernel)
  · exact xin 348 (by decide +kernel) (by decide +kernel)
  · exact xin 350 (by decide +kernel) (by decide +kernel)
  · exact xin 352 (by decide +kernel) (by decide +kernel)
  · exact xin 354 (by decide +kernel) (by decide +kernel)
