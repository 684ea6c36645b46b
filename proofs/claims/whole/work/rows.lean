section
/-- a private method of a class that the tables say can be made, by its rows of tables_1 -/
def lw_okq (q : MethodName × Nat) : Prop := (q.1.cls ≠ "java/lang/invoke/MethodHandle" ∧ q.1.cls ≠ "java/lang/invoke/VarHandle") ∧ Cond.instantiable q.1.cls q.2 ∈ tables_1 ∧ Cond.privateMethod q.1 ∈ tables_1 ∧ Cond.instanceMethod q.1 ∈ tables_1
theorem lw_p0 : lw_okq (⟨"KeyMaker", "forgetAll", "()V"⟩, 13) := ⟨⟨by decide +kernel, by decide +kernel⟩, List.mem_of_getElem? (i := 10) (by decide +kernel), List.mem_of_getElem? (i := 62) (by decide +kernel), List.mem_of_getElem? (i := 63) (by decide +kernel)⟩
theorem lw_p1 : lw_okq (⟨"KeyMaker", "isStarted", "()Z"⟩, 13) := ⟨⟨by decide +kernel, by decide +kernel⟩, List.mem_of_getElem? (i := 10) (by decide +kernel), List.mem_of_getElem? (i := 113) (by decide +kernel), List.mem_of_getElem? (i := 114) (by decide +kernel)⟩
theorem lw_p2 : lw_okq (⟨"KeyMaker$Summer", "take", "(I)V"⟩, 3) := ⟨⟨by decide +kernel, by decide +kernel⟩, List.mem_of_getElem? (i := 18) (by decide +kernel), List.mem_of_getElem? (i := 157) (by decide +kernel), List.mem_of_getElem? (i := 158) (by decide +kernel)⟩
theorem lw_p3 : lw_okq (⟨"KeyMaker$Summer", "spreadWords", "()V"⟩, 3) := ⟨⟨by decide +kernel, by decide +kernel⟩, List.mem_of_getElem? (i := 18) (by decide +kernel), List.mem_of_getElem? (i := 161) (by decide +kernel), List.mem_of_getElem? (i := 162) (by decide +kernel)⟩
theorem lw_p4 : lw_okq (⟨"KeyMaker$Summer", "mixWords", "()V"⟩, 3) := ⟨⟨by decide +kernel, by decide +kernel⟩, List.mem_of_getElem? (i := 18) (by decide +kernel), List.mem_of_getElem? (i := 174) (by decide +kernel), List.mem_of_getElem? (i := 175) (by decide +kernel)⟩
theorem lw_p5 : lw_okq (⟨"KeyMaker$Marker", "keepStateBehindKey", "(I[I)V"⟩, 6) := ⟨⟨by decide +kernel, by decide +kernel⟩, List.mem_of_getElem? (i := 35) (by decide +kernel), List.mem_of_getElem? (i := 193) (by decide +kernel), List.mem_of_getElem? (i := 194) (by decide +kernel)⟩
theorem lw_p6 : lw_okq (⟨"KeyMaker", "turnsLeft", "()I"⟩, 13) := ⟨⟨by decide +kernel, by decide +kernel⟩, List.mem_of_getElem? (i := 10) (by decide +kernel), List.mem_of_getElem? (i := 203) (by decide +kernel), List.mem_of_getElem? (i := 204) (by decide +kernel)⟩
theorem lw_p7 : lw_okq (⟨"KeyMaker", "turn", "()V"⟩, 13) := ⟨⟨by decide +kernel, by decide +kernel⟩, List.mem_of_getElem? (i := 10) (by decide +kernel), List.mem_of_getElem? (i := 211) (by decide +kernel), List.mem_of_getElem? (i := 212) (by decide +kernel)⟩
theorem lw_p8 : lw_okq (⟨"KeyMaker", "foldLastMark", "()V"⟩, 13) := ⟨⟨by decide +kernel, by decide +kernel⟩, List.mem_of_getElem? (i := 10) (by decide +kernel), List.mem_of_getElem? (i := 224) (by decide +kernel), List.mem_of_getElem? (i := 225) (by decide +kernel)⟩
theorem lw_p9 : lw_okq (⟨"KeyMakerModel", "takes", "(I)Z"⟩, 19) := ⟨⟨by decide +kernel, by decide +kernel⟩, List.mem_of_getElem? (i := 269) (by decide +kernel), List.mem_of_getElem? (i := 351) (by decide +kernel), List.mem_of_getElem? (i := 352) (by decide +kernel)⟩
theorem lw_p10 : lw_okq (⟨"KeyMakerModel", "partCount", "()I"⟩, 19) := ⟨⟨by decide +kernel, by decide +kernel⟩, List.mem_of_getElem? (i := 269) (by decide +kernel), List.mem_of_getElem? (i := 367) (by decide +kernel), List.mem_of_getElem? (i := 368) (by decide +kernel)⟩
theorem lw_p11 : lw_okq (⟨"KeyMakerModel", "markOf", "([BI)V"⟩, 19) := ⟨⟨by decide +kernel, by decide +kernel⟩, List.mem_of_getElem? (i := 269) (by decide +kernel), List.mem_of_getElem? (i := 380) (by decide +kernel), List.mem_of_getElem? (i := 381) (by decide +kernel)⟩
theorem lw_p12 : lw_okq (⟨"KeyMakerModel", "sumOf", "([BI)V"⟩, 19) := ⟨⟨by decide +kernel, by decide +kernel⟩, List.mem_of_getElem? (i := 269) (by decide +kernel), List.mem_of_getElem? (i := 384) (by decide +kernel), List.mem_of_getElem? (i := 385) (by decide +kernel)⟩
theorem lw_p13 : lw_okq (⟨"KeyMakerModel", "lay", "(I)V"⟩, 19) := ⟨⟨by decide +kernel, by decide +kernel⟩, List.mem_of_getElem? (i := 269) (by decide +kernel), List.mem_of_getElem? (i := 388) (by decide +kernel), List.mem_of_getElem? (i := 389) (by decide +kernel)⟩
theorem lw_p14 : lw_okq (⟨"KeyMakerModel", "reckon", "()V"⟩, 19) := ⟨⟨by decide +kernel, by decide +kernel⟩, List.mem_of_getElem? (i := 269) (by decide +kernel), List.mem_of_getElem? (i := 392) (by decide +kernel), List.mem_of_getElem? (i := 393) (by decide +kernel)⟩
theorem lw_p15 : lw_okq (⟨"KeyMakerModel", "mix", "(I)V"⟩, 19) := ⟨⟨by decide +kernel, by decide +kernel⟩, List.mem_of_getElem? (i := 269) (by decide +kernel), List.mem_of_getElem? (i := 396) (by decide +kernel), List.mem_of_getElem? (i := 397) (by decide +kernel)⟩
def lw_privs_1 : List (MethodName × Nat) := [(⟨"KeyMaker", "forgetAll", "()V"⟩, 13), (⟨"KeyMaker", "isStarted", "()Z"⟩, 13), (⟨"KeyMaker$Summer", "take", "(I)V"⟩, 3), (⟨"KeyMaker$Summer", "spreadWords", "()V"⟩, 3), (⟨"KeyMaker$Summer", "mixWords", "()V"⟩, 3), (⟨"KeyMaker$Marker", "keepStateBehindKey", "(I[I)V"⟩, 6), (⟨"KeyMaker", "turnsLeft", "()I"⟩, 13), (⟨"KeyMaker", "turn", "()V"⟩, 13), (⟨"KeyMaker", "foldLastMark", "()V"⟩, 13), (⟨"KeyMakerModel", "takes", "(I)Z"⟩, 19), (⟨"KeyMakerModel", "partCount", "()I"⟩, 19), (⟨"KeyMakerModel", "markOf", "([BI)V"⟩, 19), (⟨"KeyMakerModel", "sumOf", "([BI)V"⟩, 19), (⟨"KeyMakerModel", "lay", "(I)V"⟩, 19), (⟨"KeyMakerModel", "reckon", "()V"⟩, 19), (⟨"KeyMakerModel", "mix", "(I)V"⟩, 19)]
theorem lw_r1 : ∀ q ∈ lw_privs_1, lw_okq q := List.forall_mem_cons.mpr ⟨lw_p0, List.forall_mem_cons.mpr ⟨lw_p1, List.forall_mem_cons.mpr ⟨lw_p2, List.forall_mem_cons.mpr ⟨lw_p3, List.forall_mem_cons.mpr ⟨lw_p4, List.forall_mem_cons.mpr ⟨lw_p5, List.forall_mem_cons.mpr ⟨lw_p6, List.forall_mem_cons.mpr ⟨lw_p7, List.forall_mem_cons.mpr ⟨lw_p8, List.forall_mem_cons.mpr ⟨lw_p9, List.forall_mem_cons.mpr ⟨lw_p10, List.forall_mem_cons.mpr ⟨lw_p11, List.forall_mem_cons.mpr ⟨lw_p12, List.forall_mem_cons.mpr ⟨lw_p13, List.forall_mem_cons.mpr ⟨lw_p14, List.forall_mem_cons.mpr ⟨lw_p15, fun _ h => absurd h List.not_mem_nil⟩⟩⟩⟩⟩⟩⟩⟩⟩⟩⟩⟩⟩⟩⟩⟩
def lw_privs : List (MethodName × Nat) := lw_privs_1
def lw_tbl : List Cond := k2_sels lw_privs ++ tables_1
theorem lw_privs_ok : ∀ q ∈ lw_privs, lw_okq q := lw_r1
end
section
/-! my names: classes, their fields in the order of the slots, methods, codes -/
def R_Marker : String := "KeyMaker$Marker"
def R_Summer : String := "KeyMaker$Summer"
def R_KeyMaker : String := "KeyMaker"
def R_Model : String := "KeyMakerModel"
def R_Law : String := "KeyMakerLaw"
def R_Integer : String := "java/lang/Integer"
def R_Arrays : String := "java/util/Arrays"
def F_Marker : u_T := fun k => match k with
  | 0 => ("KeyMaker$Marker", "summer", "LKeyMaker$Summer;", true)
  | 1 => ("KeyMaker$Marker", "shortKey", "[I", true)
  | 2 => ("KeyMaker$Marker", "block", "[I", true)
  | 3 => ("KeyMaker$Marker", "innerSum", "[I", true)
  | 4 => ("KeyMaker$Marker", "innerState", "[I", true)
  | _ => ("KeyMaker$Marker", "outerState", "[I", true)
def t_Marker : Nat → FieldType := fun k => match k with
  | 0 => .object "KeyMaker$Summer"
  | 1 => .array .int
  | 2 => .array .int
  | 3 => .array .int
  | 4 => .array .int
  | _ => .array .int
theorem n_Marker : ∀ a, a < 6 → ∀ b, b < 6 → a ≠ b → (F_Marker a).2.1 ≠ (F_Marker b).2.1 := by decide +kernel
theorem t_Marker_ok : ∀ k, k < 6 → parseFieldDescriptor (F_Marker k).2.2.1 = some (t_Marker k) := by decide +kernel
def F_Summer : u_T := fun k => match k with
  | 0 => ("KeyMaker$Summer", "state", "[I", true)
  | 1 => ("KeyMaker$Summer", "words", "[I", true)
  | _ => ("KeyMaker$Summer", "taken", "I", false)
def t_Summer : Nat → FieldType := fun k => match k with
  | 0 => .array .int
  | 1 => .array .int
  | _ => .int
theorem n_Summer : ∀ a, a < 3 → ∀ b, b < 3 → a ≠ b → (F_Summer a).2.1 ≠ (F_Summer b).2.1 := by decide +kernel
theorem t_Summer_ok : ∀ k, k < 3 → parseFieldDescriptor (F_Summer k).2.2.1 = some (t_Summer k) := by decide +kernel
def F_KeyMaker : u_T := fun k => match k with
  | 0 => ("KeyMaker", "passwordRow", "[I", true)
  | 1 => ("KeyMaker", "saltRow", "[I", true)
  | 2 => ("KeyMaker", "keyRow", "[I", true)
  | 3 => ("KeyMaker", "lastMark", "[I", true)
  | 4 => ("KeyMaker", "answer", "[I", true)
  | 5 => ("KeyMaker", "summer", "LKeyMaker$Summer;", true)
  | 6 => ("KeyMaker", "marker", "LKeyMaker$Marker;", true)
  | 7 => ("KeyMaker", "passwordCount", "I", false)
  | 8 => ("KeyMaker", "saltCount", "I", false)
  | 9 => ("KeyMaker", "keyCount", "I", false)
  | 10 => ("KeyMaker", "turnsOfEach", "I", false)
  | 11 => ("KeyMaker", "partsDone", "I", false)
  | _ => ("KeyMaker", "turnsOfThis", "I", false)
def t_KeyMaker : Nat → FieldType := fun k => match k with
  | 0 => .array .int
  | 1 => .array .int
  | 2 => .array .int
  | 3 => .array .int
  | 4 => .array .int
  | 5 => .object "KeyMaker$Summer"
  | 6 => .object "KeyMaker$Marker"
  | 7 => .int
  | 8 => .int
  | 9 => .int
  | 10 => .int
  | 11 => .int
  | _ => .int
theorem n_KeyMaker : ∀ a, a < 13 → ∀ b, b < 13 → a ≠ b → (F_KeyMaker a).2.1 ≠ (F_KeyMaker b).2.1 := by decide +kernel
theorem t_KeyMaker_ok : ∀ k, k < 13 → parseFieldDescriptor (F_KeyMaker k).2.2.1 = some (t_KeyMaker k) := by decide +kernel
def F_Model : u_T := fun k => match k with
  | 0 => ("KeyMakerModel", "cubes", "[I", true)
  | 1 => ("KeyMakerModel", "squares", "[I", true)
  | 2 => ("KeyMakerModel", "secret", "[B", true)
  | 3 => ("KeyMakerModel", "secretSize", "I", false)
  | 4 => ("KeyMakerModel", "grain", "[B", true)
  | 5 => ("KeyMakerModel", "grainSize", "I", false)
  | 6 => ("KeyMakerModel", "isStarted", "Z", false)
  | 7 => ("KeyMakerModel", "turns", "I", false)
  | 8 => ("KeyMakerModel", "wanted", "I", false)
  | 9 => ("KeyMakerModel", "done", "I", false)
  | 10 => ("KeyMakerModel", "last", "[B", true)
  | 11 => ("KeyMakerModel", "parts", "[B", true)
  | 12 => ("KeyMakerModel", "row", "[B", true)
  | 13 => ("KeyMakerModel", "rowSize", "I", false)
  | 14 => ("KeyMakerModel", "result", "[B", true)
  | 15 => ("KeyMakerModel", "state", "[I", true)
  | 16 => ("KeyMakerModel", "now", "[I", true)
  | 17 => ("KeyMakerModel", "words", "[I", true)
  | _ => ("KeyMakerModel", "padded", "[B", true)
def t_Model : Nat → FieldType := fun k => match k with
  | 0 => .array .int
  | 1 => .array .int
  | 2 => .array .byte
  | 3 => .int
  | 4 => .array .byte
  | 5 => .int
  | 6 => .boolean
  | 7 => .int
  | 8 => .int
  | 9 => .int
  | 10 => .array .byte
  | 11 => .array .byte
  | 12 => .array .byte
  | 13 => .int
  | 14 => .array .byte
  | 15 => .array .int
  | 16 => .array .int
  | 17 => .array .int
  | _ => .array .byte
theorem n_Model : ∀ a, a < 19 → ∀ b, b < 19 → a ≠ b → (F_Model a).2.1 ≠ (F_Model b).2.1 := by decide +kernel
theorem t_Model_ok : ∀ k, k < 19 → parseFieldDescriptor (F_Model k).2.2.1 = some (t_Model k) := by decide +kernel
abbrev classes : List vw_C := [(R_Marker, F_Marker, 6), (R_Summer, F_Summer, 3), (R_KeyMaker, F_KeyMaker, 13), (R_Model, F_Model, 19)]
def y_KeyMaker_init : MethodName := ⟨R_KeyMaker, "<init>", "()V"⟩
def y_Summer_init : MethodName := ⟨R_Summer, "<init>", "()V"⟩
def y_Marker_init : MethodName := ⟨R_Marker, "<init>", "()V"⟩
def y_KeyMaker_forgetAll : MethodName := ⟨R_KeyMaker, "forgetAll", "()V"⟩
def y_KeyMaker_password : MethodName := ⟨R_KeyMaker, "password", "(I)Z"⟩
def y_KeyMaker_isByte : MethodName := ⟨R_KeyMaker, "isByte", "(I)Z"⟩
def y_KeyMaker_isStarted : MethodName := ⟨R_KeyMaker, "isStarted", "()Z"⟩
def y_KeyMaker_four : MethodName := ⟨R_KeyMaker, "four", "(I)Z"⟩
def y_KeyMaker_putWord : MethodName := ⟨R_KeyMaker, "putWord", "(I[II)V"⟩
def y_KeyMaker_salt : MethodName := ⟨R_KeyMaker, "salt", "(I)Z"⟩
def y_KeyMaker_start : MethodName := ⟨R_KeyMaker, "start", "(II)I"⟩
def y_Arrays_fill : MethodName := ⟨R_Arrays, "fill", "([II)V"⟩
def y_Marker_takeKey : MethodName := ⟨R_Marker, "takeKey", "([II)V"⟩
def y_Summer_writeSum : MethodName := ⟨R_Summer, "writeSum", "([II[I)V"⟩
def y_Summer_begin : MethodName := ⟨R_Summer, "begin", "()V"⟩
def y_Summer_takeRow : MethodName := ⟨R_Summer, "takeRow", "([II)V"⟩
def y_Summer_take : MethodName := ⟨R_Summer, "take", "(I)V"⟩
def y_Summer_spreadWords : MethodName := ⟨R_Summer, "spreadWords", "()V"⟩
def y_Summer_smallOne : MethodName := ⟨R_Summer, "smallOne", "(I)I"⟩
def y_Integer_rotateRight : MethodName := ⟨R_Integer, "rotateRight", "(II)I"⟩
def y_Summer_smallZero : MethodName := ⟨R_Summer, "smallZero", "(I)I"⟩
def y_Summer_mixWords : MethodName := ⟨R_Summer, "mixWords", "()V"⟩
def y_Summer_bigOne : MethodName := ⟨R_Summer, "bigOne", "(I)I"⟩
def y_Summer_bigZero : MethodName := ⟨R_Summer, "bigZero", "(I)I"⟩
def y_Summer_finish : MethodName := ⟨R_Summer, "finish", "([I)V"⟩
def y_Marker_keepStateBehindKey : MethodName := ⟨R_Marker, "keepStateBehindKey", "(I[I)V"⟩
def y_Summer_keepState : MethodName := ⟨R_Summer, "keepState", "([I)V"⟩
def y_KeyMaker_turnsLeft : MethodName := ⟨R_KeyMaker, "turnsLeft", "()I"⟩
def y_KeyMaker_step : MethodName := ⟨R_KeyMaker, "step", "()I"⟩
def y_KeyMaker_turn : MethodName := ⟨R_KeyMaker, "turn", "()V"⟩
def y_Marker_writeMark : MethodName := ⟨R_Marker, "writeMark", "([II[I)V"⟩
def y_Summer_beginBehindBlock : MethodName := ⟨R_Summer, "beginBehindBlock", "([I)V"⟩
def y_KeyMaker_foldLastMark : MethodName := ⟨R_KeyMaker, "foldLastMark", "()V"⟩
def y_KeyMaker_run : MethodName := ⟨R_KeyMaker, "run", "(I)I"⟩
def y_KeyMaker_left : MethodName := ⟨R_KeyMaker, "left", "()I"⟩
def y_KeyMaker_key : MethodName := ⟨R_KeyMaker, "key", "(I)I"⟩
def y_KeyMaker_reset : MethodName := ⟨R_KeyMaker, "reset", "()V"⟩
def y_KeyMaker_many : MethodName := ⟨R_KeyMaker, "many", "(I)I"⟩
def y_KeyMaker_sum : MethodName := ⟨R_KeyMaker, "sum", "(I)I"⟩
def y_KeyMaker_isPlaceOfSum : MethodName := ⟨R_KeyMaker, "isPlaceOfSum", "(I)Z"⟩
def y_KeyMaker_mark : MethodName := ⟨R_KeyMaker, "mark", "(I)I"⟩
def y_KeyMaker_word : MethodName := ⟨R_KeyMaker, "word", "(II)I"⟩
def y_Model_init : MethodName := ⟨R_Model, "<init>", "()V"⟩
def y_Model_root : MethodName := ⟨R_Model, "root", "(IZ)I"⟩
def y_Model_isAtMost : MethodName := ⟨R_Model, "isAtMost", "(JIZ)Z"⟩
def y_Model_word : MethodName := ⟨R_Model, "word", "(II)I"⟩
def y_Model_password : MethodName := ⟨R_Model, "password", "(I)Z"⟩
def y_Model_takes : MethodName := ⟨R_Model, "takes", "(I)Z"⟩
def y_Model_four : MethodName := ⟨R_Model, "four", "(I)Z"⟩
def y_Model_salt : MethodName := ⟨R_Model, "salt", "(I)Z"⟩
def y_Model_start : MethodName := ⟨R_Model, "start", "(II)I"⟩
def y_Model_partCount : MethodName := ⟨R_Model, "partCount", "()I"⟩
def y_Model_left : MethodName := ⟨R_Model, "left", "()I"⟩
def y_Model_step : MethodName := ⟨R_Model, "step", "()I"⟩
def y_Model_markOf : MethodName := ⟨R_Model, "markOf", "([BI)V"⟩
def y_Model_sumOf : MethodName := ⟨R_Model, "sumOf", "([BI)V"⟩
def y_Model_lay : MethodName := ⟨R_Model, "lay", "(I)V"⟩
def y_Model_reckon : MethodName := ⟨R_Model, "reckon", "()V"⟩
def y_Model_mix : MethodName := ⟨R_Model, "mix", "(I)V"⟩
def y_Model_rot : MethodName := ⟨R_Model, "rot", "(II)I"⟩
def y_Model_run : MethodName := ⟨R_Model, "run", "(I)I"⟩
def y_Model_key : MethodName := ⟨R_Model, "key", "(I)I"⟩
def y_Model_reset : MethodName := ⟨R_Model, "reset", "()V"⟩
def y_Model_many : MethodName := ⟨R_Model, "many", "(I)I"⟩
def y_Model_sum : MethodName := ⟨R_Model, "sum", "(I)I"⟩
def y_Model_mark : MethodName := ⟨R_Model, "mark", "(I)I"⟩
abbrev b_KeyMaker_init : ByteArray := prog_1_method_1_code
abbrev b_Summer_init : ByteArray := prog_3_method_1_code
abbrev b_Marker_init : ByteArray := prog_2_method_1_code
abbrev b_KeyMaker_forgetAll : ByteArray := prog_1_method_20_code
abbrev b_KeyMaker_password : ByteArray := prog_1_method_2_code
abbrev b_KeyMaker_isByte : ByteArray := prog_1_method_15_code
abbrev b_KeyMaker_isStarted : ByteArray := prog_1_method_18_code
abbrev b_KeyMaker_four : ByteArray := prog_1_method_3_code
abbrev b_KeyMaker_putWord : ByteArray := prog_1_method_17_code
abbrev b_KeyMaker_salt : ByteArray := prog_1_method_4_code
abbrev b_KeyMaker_start : ByteArray := prog_1_method_5_code
abbrev b_Arrays_fill : ByteArray := prog_9_method_103_code
abbrev b_Marker_takeKey : ByteArray := prog_2_method_2_code
abbrev b_Summer_writeSum : ByteArray := prog_3_method_2_code
abbrev b_Summer_begin : ByteArray := prog_3_method_3_code
abbrev b_Summer_takeRow : ByteArray := prog_3_method_6_code
abbrev b_Summer_take : ByteArray := prog_3_method_8_code
abbrev b_Summer_spreadWords : ByteArray := prog_3_method_9_code
abbrev b_Summer_smallOne : ByteArray := prog_3_method_12_code
abbrev b_Integer_rotateRight : ByteArray := prog_6_method_51_code
abbrev b_Summer_smallZero : ByteArray := prog_3_method_11_code
abbrev b_Summer_mixWords : ByteArray := prog_3_method_10_code
abbrev b_Summer_bigOne : ByteArray := prog_3_method_14_code
abbrev b_Summer_bigZero : ByteArray := prog_3_method_13_code
abbrev b_Summer_finish : ByteArray := prog_3_method_7_code
abbrev b_Marker_keepStateBehindKey : ByteArray := prog_2_method_4_code
abbrev b_Summer_keepState : ByteArray := prog_3_method_5_code
abbrev b_KeyMaker_turnsLeft : ByteArray := prog_1_method_19_code
abbrev b_KeyMaker_step : ByteArray := prog_1_method_6_code
abbrev b_KeyMaker_turn : ByteArray := prog_1_method_21_code
abbrev b_Marker_writeMark : ByteArray := prog_2_method_3_code
abbrev b_Summer_beginBehindBlock : ByteArray := prog_3_method_4_code
abbrev b_KeyMaker_foldLastMark : ByteArray := prog_1_method_22_code
abbrev b_KeyMaker_run : ByteArray := prog_1_method_7_code
abbrev b_KeyMaker_left : ByteArray := prog_1_method_8_code
abbrev b_KeyMaker_key : ByteArray := prog_1_method_9_code
abbrev b_KeyMaker_reset : ByteArray := prog_1_method_10_code
abbrev b_KeyMaker_many : ByteArray := prog_1_method_11_code
abbrev b_KeyMaker_sum : ByteArray := prog_1_method_12_code
abbrev b_KeyMaker_isPlaceOfSum : ByteArray := prog_1_method_16_code
abbrev b_KeyMaker_mark : ByteArray := prog_1_method_13_code
abbrev b_KeyMaker_word : ByteArray := prog_1_method_14_code
abbrev b_Model_init : ByteArray := prog_5_method_1_code
abbrev b_Model_root : ByteArray := prog_5_method_4_code
abbrev b_Model_isAtMost : ByteArray := prog_5_method_3_code
abbrev b_Model_word : ByteArray := prog_5_method_5_code
abbrev b_Model_password : ByteArray := prog_5_method_13_code
abbrev b_Model_takes : ByteArray := prog_5_method_12_code
abbrev b_Model_four : ByteArray := prog_5_method_14_code
abbrev b_Model_salt : ByteArray := prog_5_method_15_code
abbrev b_Model_start : ByteArray := prog_5_method_17_code
abbrev b_Model_partCount : ByteArray := prog_5_method_16_code
abbrev b_Model_left : ByteArray := prog_5_method_18_code
abbrev b_Model_step : ByteArray := prog_5_method_19_code
abbrev b_Model_markOf : ByteArray := prog_5_method_10_code
abbrev b_Model_sumOf : ByteArray := prog_5_method_11_code
abbrev b_Model_lay : ByteArray := prog_5_method_7_code
abbrev b_Model_reckon : ByteArray := prog_5_method_8_code
abbrev b_Model_mix : ByteArray := prog_5_method_9_code
abbrev b_Model_rot : ByteArray := prog_5_method_6_code
abbrev b_Model_run : ByteArray := prog_5_method_20_code
abbrev b_Model_key : ByteArray := prog_5_method_21_code
abbrev b_Model_reset : ByteArray := prog_5_method_22_code
abbrev b_Model_many : ByteArray := prog_5_method_23_code
abbrev b_Model_sum : ByteArray := prog_5_method_24_code
abbrev b_Model_mark : ByteArray := prog_5_method_25_code
/-- the words that all methods are proved under -/
def xG : List Cond := lw_tbl.filter goodWord
theorem xin {w : Cond} (i : Nat) (h : lw_tbl[i]? = some w) (hg : goodWord w = true) : w ∈ xG := List.mem_filter.mpr ⟨List.mem_of_getElem? h, hg⟩
theorem xG_in : ∀ w ∈ xG, w ∈ lw_tbl := fun _ h => (List.mem_filter.mp h).1
theorem hi_Marker : ∀ w ∈ u_ws R_Marker F_Marker 6, w ∈ xG := by
  intro w h
  obtain ⟨k, hk, rfl⟩ := List.mem_map.mp h
  have hk := List.mem_range.mp hk
  rcases (show k = 0 ∨ k = 1 ∨ k = 2 ∨ k = 3 ∨ k = 4 ∨ k = 5 by omega) with rfl | rfl | rfl | rfl | rfl | rfl
  · exact xin 64 (by decide +kernel) (by decide +kernel)
  · exact xin 66 (by decide +kernel) (by decide +kernel)
  · exact xin 68 (by decide +kernel) (by decide +kernel)
  · exact xin 70 (by decide +kernel) (by decide +kernel)
  · exact xin 72 (by decide +kernel) (by decide +kernel)
  · exact xin 74 (by decide +kernel) (by decide +kernel)
theorem hi_Summer : ∀ w ∈ u_ws R_Summer F_Summer 3, w ∈ xG := by
  intro w h
  obtain ⟨k, hk, rfl⟩ := List.mem_map.mp h
  have hk := List.mem_range.mp hk
  rcases (show k = 0 ∨ k = 1 ∨ k = 2 by omega) with rfl | rfl | rfl
  · exact xin 42 (by decide +kernel) (by decide +kernel)
  · exact xin 44 (by decide +kernel) (by decide +kernel)
  · exact xin 46 (by decide +kernel) (by decide +kernel)
theorem hi_KeyMaker : ∀ w ∈ u_ws R_KeyMaker F_KeyMaker 13, w ∈ xG := by
  intro w h
  obtain ⟨k, hk, rfl⟩ := List.mem_map.mp h
  have hk := List.mem_range.mp hk
  rcases (show k = 0 ∨ k = 1 ∨ k = 2 ∨ k = 3 ∨ k = 4 ∨ k = 5 ∨ k = 6 ∨ k = 7 ∨ k = 8 ∨ k = 9 ∨ k = 10 ∨ k = 11 ∨ k = 12 by omega) with rfl | rfl | rfl | rfl | rfl | rfl | rfl | rfl | rfl | rfl | rfl | rfl | rfl
  · exact xin 94 (by decide +kernel) (by decide +kernel)
  · exact xin 96 (by decide +kernel) (by decide +kernel)
  · exact xin 98 (by decide +kernel) (by decide +kernel)
  · exact xin 100 (by decide +kernel) (by decide +kernel)
  · exact xin 102 (by decide +kernel) (by decide +kernel)
  · exact xin 104 (by decide +kernel) (by decide +kernel)
  · exact xin 106 (by decide +kernel) (by decide +kernel)
  · exact xin 108 (by decide +kernel) (by decide +kernel)
  · exact xin 110 (by decide +kernel) (by decide +kernel)
  · exact xin 112 (by decide +kernel) (by decide +kernel)
  · exact xin 114 (by decide +kernel) (by decide +kernel)
  · exact xin 116 (by decide +kernel) (by decide +kernel)
  · exact xin 118 (by decide +kernel) (by decide +kernel)
theorem hi_Model : ∀ w ∈ u_ws R_Model F_Model 19, w ∈ xG := by
  intro w h
  obtain ⟨k, hk, rfl⟩ := List.mem_map.mp h
  have hk := List.mem_range.mp hk
  rcases (show k = 0 ∨ k = 1 ∨ k = 2 ∨ k = 3 ∨ k = 4 ∨ k = 5 ∨ k = 6 ∨ k = 7 ∨ k = 8 ∨ k = 9 ∨ k = 10 ∨ k = 11 ∨ k = 12 ∨ k = 13 ∨ k = 14 ∨ k = 15 ∨ k = 16 ∨ k = 17 ∨ k = 18 by omega) with rfl | rfl | rfl | rfl | rfl | rfl | rfl | rfl | rfl | rfl | rfl | rfl | rfl | rfl | rfl | rfl | rfl | rfl | rfl
  · exact xin 318 (by decide +kernel) (by decide +kernel)
  · exact xin 320 (by decide +kernel) (by decide +kernel)
  · exact xin 322 (by decide +kernel) (by decide +kernel)
  · exact xin 324 (by decide +kernel) (by decide +kernel)
  · exact xin 326 (by decide +kernel) (by decide +kernel)
  · exact xin 328 (by decide +kernel) (by decide +kernel)
  · exact xin 330 (by decide +kernel) (by decide +kernel)
  · exact xin 332 (by decide +kernel) (by decide +kernel)
  · exact xin 334 (by decide +kernel) (by decide +kernel)
  · exact xin 336 (by decide +kernel) (by decide +kernel)
  · exact xin 338 (by decide +kernel) (by decide +kernel)
  · exact xin 340 (by decide +kernel) (by decide +kernel)
  · exact xin 342 (by decide +kernel) (by decide +kernel)
  · exact xin 344 (by decide +kernel) (by decide +kernel)
  · exact xin 346 (by decide +kernel) (by decide +kernel)
  · exact xin 348 (by decide +kernel) (by decide +kernel)
  · exact xin 350 (by decide +kernel) (by decide +kernel)
  · exact xin 352 (by decide +kernel) (by decide +kernel)
  · exact xin 354 (by decide +kernel) (by decide +kernel)
end
section
/-! the words, by their places -/
theorem tw_0 : (Cond.selects R_KeyMaker y_KeyMaker_forgetAll y_KeyMaker_forgetAll : Cond) ∈ xG := xin 0 (by decide +kernel) (by decide +kernel)
theorem tw_1 : (Cond.selects R_KeyMaker y_KeyMaker_isStarted y_KeyMaker_isStarted : Cond) ∈ xG := xin 1 (by decide +kernel) (by decide +kernel)
theorem tw_2 : (Cond.selects R_Summer y_Summer_take y_Summer_take : Cond) ∈ xG := xin 2 (by decide +kernel) (by decide +kernel)
theorem tw_3 : (Cond.selects R_Summer y_Summer_spreadWords y_Summer_spreadWords : Cond) ∈ xG := xin 3 (by decide +kernel) (by decide +kernel)
theorem tw_4 : (Cond.selects R_Summer y_Summer_mixWords y_Summer_mixWords : Cond) ∈ xG := xin 4 (by decide +kernel) (by decide +kernel)
theorem tw_5 : (Cond.selects R_Marker y_Marker_keepStateBehindKey y_Marker_keepStateBehindKey : Cond) ∈ xG := xin 5 (by decide +kernel) (by decide +kernel)
theorem tw_6 : (Cond.selects R_KeyMaker y_KeyMaker_turnsLeft y_KeyMaker_turnsLeft : Cond) ∈ xG := xin 6 (by decide +kernel) (by decide +kernel)
theorem tw_7 : (Cond.selects R_KeyMaker y_KeyMaker_turn y_KeyMaker_turn : Cond) ∈ xG := xin 7 (by decide +kernel) (by decide +kernel)
theorem tw_8 : (Cond.selects R_KeyMaker y_KeyMaker_foldLastMark y_KeyMaker_foldLastMark : Cond) ∈ xG := xin 8 (by decide +kernel) (by decide +kernel)
theorem tw_9 : (Cond.selects R_Model y_Model_takes y_Model_takes : Cond) ∈ xG := xin 9 (by decide +kernel) (by decide +kernel)
theorem tw_10 : (Cond.selects R_Model y_Model_partCount y_Model_partCount : Cond) ∈ xG := xin 10 (by decide +kernel) (by decide +kernel)
theorem tw_11 : (Cond.selects R_Model y_Model_markOf y_Model_markOf : Cond) ∈ xG := xin 11 (by decide +kernel) (by decide +kernel)
theorem tw_12 : (Cond.selects R_Model y_Model_sumOf y_Model_sumOf : Cond) ∈ xG := xin 12 (by decide +kernel) (by decide +kernel)
theorem tw_13 : (Cond.selects R_Model y_Model_lay y_Model_lay : Cond) ∈ xG := xin 13 (by decide +kernel) (by decide +kernel)
theorem tw_14 : (Cond.selects R_Model y_Model_reckon y_Model_reckon : Cond) ∈ xG := xin 14 (by decide +kernel) (by decide +kernel)
theorem tw_15 : (Cond.selects R_Model y_Model_mix y_Model_mix : Cond) ∈ xG := xin 15 (by decide +kernel) (by decide +kernel)
theorem tw_16 : (Cond.initialized R_Law : Cond) ∈ xG := xin 16 (by decide +kernel) (by decide +kernel)
theorem tw_17 : (Cond.initialized R_KeyMaker : Cond) ∈ xG := xin 17 (by decide +kernel) (by decide +kernel)
theorem tw_18 : (Cond.initialized R_Summer : Cond) ∈ xG := xin 18 (by decide +kernel) (by decide +kernel)
theorem tw_19 : (Cond.initialized R_Marker : Cond) ∈ xG := xin 19 (by decide +kernel) (by decide +kernel)
theorem tw_20 : (Cond.initialized R_Model : Cond) ∈ xG := xin 20 (by decide +kernel) (by decide +kernel)
theorem tw_21 : (Cond.initialized R_Arrays : Cond) ∈ xG := xin 21 (by decide +kernel) (by decide +kernel)
theorem tw_22 : (Cond.initialized "java/lang/System" : Cond) ∈ xG := xin 22 (by decide +kernel) (by decide +kernel)
theorem tw_23 : (Cond.initialized R_Integer : Cond) ∈ xG := xin 23 (by decide +kernel) (by decide +kernel)
theorem tw_24 : (Cond.initialized "java/lang/Math" : Cond) ∈ xG := xin 24 (by decide +kernel) (by decide +kernel)
theorem tw_25 : (Cond.classLink R_Law 7 R_KeyMaker : Cond) ∈ xG := xin 25 (by decide +kernel) (by decide +kernel)
theorem tw_26 : (Cond.instantiable R_KeyMaker 13 : Cond) ∈ xG := xin 26 (by decide +kernel) (by decide +kernel)
theorem tw_27 : (Cond.methodLink R_Law 9 y_KeyMaker_init : Cond) ∈ xG := xin 27 (by decide +kernel) (by decide +kernel)
theorem tw_28 : (Cond.instanceMethod y_KeyMaker_init : Cond) ∈ xG := xin 28 (by decide +kernel) (by decide +kernel)
theorem tw_29 : (Cond.code y_KeyMaker_init b_KeyMaker_init 1 none : Cond) ∈ xG := xin 29 (by decide +kernel) (by decide +kernel)
theorem tw_30 : (Cond.methodLink R_KeyMaker 1 objectInit : Cond) ∈ xG := xin 30 (by decide +kernel) (by decide +kernel)
theorem tw_31 : (Cond.instanceMethod objectInit : Cond) ∈ xG := xin 31 (by decide +kernel) (by decide +kernel)
theorem tw_32 : (Cond.code objectInit ⟨#[0xb1]⟩ 1 none : Cond) ∈ xG := xin 32 (by decide +kernel) (by decide +kernel)
theorem tw_33 : (Cond.classLink R_KeyMaker 25 R_Summer : Cond) ∈ xG := xin 33 (by decide +kernel) (by decide +kernel)
theorem tw_34 : (Cond.instantiable R_Summer 3 : Cond) ∈ xG := xin 34 (by decide +kernel) (by decide +kernel)
theorem tw_36 : (Cond.instanceMethod y_Summer_init : Cond) ∈ xG := xin 36 (by decide +kernel) (by decide +kernel)
theorem tw_37 : (Cond.code y_Summer_init b_Summer_init 1 none : Cond) ∈ xG := xin 37 (by decide +kernel) (by decide +kernel)
theorem tw_38 : (Cond.methodLink R_Summer 3 objectInit : Cond) ∈ xG := xin 38 (by decide +kernel) (by decide +kernel)
theorem tw_39 : (Cond.fieldLink R_Summer 9 "KeyMaker$Summer" "state" "[I" : Cond) ∈ xG := xin 39 (by decide +kernel) (by decide +kernel)
theorem tw_40 : (Cond.fieldLink R_Summer 15 "KeyMaker$Summer" "words" "[I" : Cond) ∈ xG := xin 40 (by decide +kernel) (by decide +kernel)
theorem tw_41 : (Cond.fieldLink R_Summer 38 "KeyMaker$Summer" "taken" "I" : Cond) ∈ xG := xin 41 (by decide +kernel) (by decide +kernel)
theorem tw_49 : (Cond.arrayClass .int : Cond) ∈ xG := xin 49 (by decide +kernel) (by decide +kernel)
theorem tw_50 : (Cond.classLink R_KeyMaker 32 R_Marker : Cond) ∈ xG := xin 50 (by decide +kernel) (by decide +kernel)
theorem tw_51 : (Cond.instantiable R_Marker 6 : Cond) ∈ xG := xin 51 (by decide +kernel) (by decide +kernel)
theorem tw_53 : (Cond.instanceMethod y_Marker_init : Cond) ∈ xG := xin 53 (by decide +kernel) (by decide +kernel)
theorem tw_54 : (Cond.code y_Marker_init b_Marker_init 1 none : Cond) ∈ xG := xin 54 (by decide +kernel) (by decide +kernel)
theorem tw_55 : (Cond.methodLink R_Marker 3 objectInit : Cond) ∈ xG := xin 55 (by decide +kernel) (by decide +kernel)
theorem tw_56 : (Cond.classLink R_Marker 9 R_Summer : Cond) ∈ xG := xin 56 (by decide +kernel) (by decide +kernel)
theorem tw_58 : (Cond.fieldLink R_Marker 12 "KeyMaker$Marker" "summer" "LKeyMaker$Summer;" : Cond) ∈ xG := xin 58 (by decide +kernel) (by decide +kernel)
theorem tw_59 : (Cond.fieldLink R_Marker 18 "KeyMaker$Marker" "shortKey" "[I" : Cond) ∈ xG := xin 59 (by decide +kernel) (by decide +kernel)
theorem tw_60 : (Cond.fieldLink R_Marker 22 "KeyMaker$Marker" "block" "[I" : Cond) ∈ xG := xin 60 (by decide +kernel) (by decide +kernel)
theorem tw_61 : (Cond.fieldLink R_Marker 25 "KeyMaker$Marker" "innerSum" "[I" : Cond) ∈ xG := xin 61 (by decide +kernel) (by decide +kernel)
theorem tw_62 : (Cond.fieldLink R_Marker 28 "KeyMaker$Marker" "innerState" "[I" : Cond) ∈ xG := xin 62 (by decide +kernel) (by decide +kernel)
theorem tw_63 : (Cond.fieldLink R_Marker 31 "KeyMaker$Marker" "outerState" "[I" : Cond) ∈ xG := xin 63 (by decide +kernel) (by decide +kernel)
theorem tw_77 : (Cond.methodLink R_KeyMaker 39 y_KeyMaker_forgetAll : Cond) ∈ xG := xin 77 (by decide +kernel) (by decide +kernel)
theorem tw_79 : (Cond.instanceMethod y_KeyMaker_forgetAll : Cond) ∈ xG := xin 79 (by decide +kernel) (by decide +kernel)
theorem tw_80 : (Cond.code y_KeyMaker_forgetAll b_KeyMaker_forgetAll 1 none : Cond) ∈ xG := xin 80 (by decide +kernel) (by decide +kernel)
theorem tw_81 : (Cond.fieldLink R_KeyMaker 9 "KeyMaker" "passwordRow" "[I" : Cond) ∈ xG := xin 81 (by decide +kernel) (by decide +kernel)
theorem tw_82 : (Cond.fieldLink R_KeyMaker 13 "KeyMaker" "saltRow" "[I" : Cond) ∈ xG := xin 82 (by decide +kernel) (by decide +kernel)
theorem tw_83 : (Cond.fieldLink R_KeyMaker 16 "KeyMaker" "keyRow" "[I" : Cond) ∈ xG := xin 83 (by decide +kernel) (by decide +kernel)
theorem tw_84 : (Cond.fieldLink R_KeyMaker 19 "KeyMaker" "lastMark" "[I" : Cond) ∈ xG := xin 84 (by decide +kernel) (by decide +kernel)
theorem tw_85 : (Cond.fieldLink R_KeyMaker 22 "KeyMaker" "answer" "[I" : Cond) ∈ xG := xin 85 (by decide +kernel) (by decide +kernel)
theorem tw_86 : (Cond.fieldLink R_KeyMaker 28 "KeyMaker" "summer" "LKeyMaker$Summer;" : Cond) ∈ xG := xin 86 (by decide +kernel) (by decide +kernel)
theorem tw_87 : (Cond.fieldLink R_KeyMaker 35 "KeyMaker" "marker" "LKeyMaker$Marker;" : Cond) ∈ xG := xin 87 (by decide +kernel) (by decide +kernel)
theorem tw_88 : (Cond.fieldLink R_KeyMaker 50 "KeyMaker" "passwordCount" "I" : Cond) ∈ xG := xin 88 (by decide +kernel) (by decide +kernel)
theorem tw_89 : (Cond.fieldLink R_KeyMaker 58 "KeyMaker" "saltCount" "I" : Cond) ∈ xG := xin 89 (by decide +kernel) (by decide +kernel)
theorem tw_90 : (Cond.fieldLink R_KeyMaker 61 "KeyMaker" "keyCount" "I" : Cond) ∈ xG := xin 90 (by decide +kernel) (by decide +kernel)
theorem tw_91 : (Cond.fieldLink R_KeyMaker 64 "KeyMaker" "turnsOfEach" "I" : Cond) ∈ xG := xin 91 (by decide +kernel) (by decide +kernel)
theorem tw_92 : (Cond.fieldLink R_KeyMaker 89 "KeyMaker" "partsDone" "I" : Cond) ∈ xG := xin 92 (by decide +kernel) (by decide +kernel)
theorem tw_93 : (Cond.fieldLink R_KeyMaker 108 "KeyMaker" "turnsOfThis" "I" : Cond) ∈ xG := xin 93 (by decide +kernel) (by decide +kernel)
theorem tw_121 : (Cond.methodLink R_Law 13 y_KeyMaker_password : Cond) ∈ xG := xin 121 (by decide +kernel) (by decide +kernel)
theorem tw_122 : (Cond.instanceMethod y_KeyMaker_password : Cond) ∈ xG := xin 122 (by decide +kernel) (by decide +kernel)
theorem tw_123 : (Cond.selects R_KeyMaker y_KeyMaker_password y_KeyMaker_password : Cond) ∈ xG := xin 123 (by decide +kernel) (by decide +kernel)
theorem tw_124 : (Cond.code y_KeyMaker_password b_KeyMaker_password 2 (some .boolean) : Cond) ∈ xG := xin 124 (by decide +kernel) (by decide +kernel)
theorem tw_125 : (Cond.methodLink R_KeyMaker 42 y_KeyMaker_isByte : Cond) ∈ xG := xin 125 (by decide +kernel) (by decide +kernel)
theorem tw_126 : (Cond.static y_KeyMaker_isByte : Cond) ∈ xG := xin 126 (by decide +kernel) (by decide +kernel)
theorem tw_127 : (Cond.code y_KeyMaker_isByte b_KeyMaker_isByte 1 (some .boolean) : Cond) ∈ xG := xin 127 (by decide +kernel) (by decide +kernel)
theorem tw_128 : (Cond.methodLink R_KeyMaker 46 y_KeyMaker_isStarted : Cond) ∈ xG := xin 128 (by decide +kernel) (by decide +kernel)
theorem tw_130 : (Cond.instanceMethod y_KeyMaker_isStarted : Cond) ∈ xG := xin 130 (by decide +kernel) (by decide +kernel)
theorem tw_131 : (Cond.code y_KeyMaker_isStarted b_KeyMaker_isStarted 1 (some .boolean) : Cond) ∈ xG := xin 131 (by decide +kernel) (by decide +kernel)
theorem tw_132 : (Cond.methodLink R_Law 18 y_KeyMaker_four : Cond) ∈ xG := xin 132 (by decide +kernel) (by decide +kernel)
theorem tw_133 : (Cond.instanceMethod y_KeyMaker_four : Cond) ∈ xG := xin 133 (by decide +kernel) (by decide +kernel)
theorem tw_134 : (Cond.selects R_KeyMaker y_KeyMaker_four y_KeyMaker_four : Cond) ∈ xG := xin 134 (by decide +kernel) (by decide +kernel)
theorem tw_135 : (Cond.code y_KeyMaker_four b_KeyMaker_four 2 (some .boolean) : Cond) ∈ xG := xin 135 (by decide +kernel) (by decide +kernel)
theorem tw_136 : (Cond.methodLink R_KeyMaker 54 y_KeyMaker_putWord : Cond) ∈ xG := xin 136 (by decide +kernel) (by decide +kernel)
theorem tw_137 : (Cond.static y_KeyMaker_putWord : Cond) ∈ xG := xin 137 (by decide +kernel) (by decide +kernel)
theorem tw_138 : (Cond.code y_KeyMaker_putWord b_KeyMaker_putWord 3 none : Cond) ∈ xG := xin 138 (by decide +kernel) (by decide +kernel)
theorem tw_139 : (Cond.methodLink R_Law 22 y_KeyMaker_salt : Cond) ∈ xG := xin 139 (by decide +kernel) (by decide +kernel)
theorem tw_140 : (Cond.instanceMethod y_KeyMaker_salt : Cond) ∈ xG := xin 140 (by decide +kernel) (by decide +kernel)
theorem tw_141 : (Cond.selects R_KeyMaker y_KeyMaker_salt y_KeyMaker_salt : Cond) ∈ xG := xin 141 (by decide +kernel) (by decide +kernel)
theorem tw_142 : (Cond.code y_KeyMaker_salt b_KeyMaker_salt 2 (some .boolean) : Cond) ∈ xG := xin 142 (by decide +kernel) (by decide +kernel)
theorem tw_143 : (Cond.methodLink R_Law 26 y_KeyMaker_start : Cond) ∈ xG := xin 143 (by decide +kernel) (by decide +kernel)
theorem tw_144 : (Cond.instanceMethod y_KeyMaker_start : Cond) ∈ xG := xin 144 (by decide +kernel) (by decide +kernel)
theorem tw_145 : (Cond.selects R_KeyMaker y_KeyMaker_start y_KeyMaker_start : Cond) ∈ xG := xin 145 (by decide +kernel) (by decide +kernel)
theorem tw_146 : (Cond.code y_KeyMaker_start b_KeyMaker_start 3 (some .int) : Cond) ∈ xG := xin 146 (by decide +kernel) (by decide +kernel)
theorem tw_147 : (Cond.methodLink R_KeyMaker 67 y_Arrays_fill : Cond) ∈ xG := xin 147 (by decide +kernel) (by decide +kernel)
theorem tw_148 : (Cond.static y_Arrays_fill : Cond) ∈ xG := xin 148 (by decide +kernel) (by decide +kernel)
theorem tw_149 : (Cond.code y_Arrays_fill b_Arrays_fill 4 none : Cond) ∈ xG := xin 149 (by decide +kernel) (by decide +kernel)
theorem tw_150 : (Cond.methodLink R_KeyMaker 73 y_Marker_takeKey : Cond) ∈ xG := xin 150 (by decide +kernel) (by decide +kernel)
theorem tw_151 : (Cond.instanceMethod y_Marker_takeKey : Cond) ∈ xG := xin 151 (by decide +kernel) (by decide +kernel)
theorem tw_152 : (Cond.selects R_Marker y_Marker_takeKey y_Marker_takeKey : Cond) ∈ xG := xin 152 (by decide +kernel) (by decide +kernel)
theorem tw_153 : (Cond.code y_Marker_takeKey b_Marker_takeKey 3 none : Cond) ∈ xG := xin 153 (by decide +kernel) (by decide +kernel)
theorem tw_154 : (Cond.methodLink R_Marker 34 y_Arrays_fill : Cond) ∈ xG := xin 154 (by decide +kernel) (by decide +kernel)
theorem tw_155 : (Cond.methodLink R_Marker 40 y_Summer_writeSum : Cond) ∈ xG := xin 155 (by decide +kernel) (by decide +kernel)
theorem tw_156 : (Cond.instanceMethod y_Summer_writeSum : Cond) ∈ xG := xin 156 (by decide +kernel) (by decide +kernel)
theorem tw_157 : (Cond.selects R_Summer y_Summer_writeSum y_Summer_writeSum : Cond) ∈ xG := xin 157 (by decide +kernel) (by decide +kernel)
theorem tw_158 : (Cond.code y_Summer_writeSum b_Summer_writeSum 4 none : Cond) ∈ xG := xin 158 (by decide +kernel) (by decide +kernel)
theorem tw_159 : (Cond.methodLink R_Summer 18 y_Summer_begin : Cond) ∈ xG := xin 159 (by decide +kernel) (by decide +kernel)
theorem tw_160 : (Cond.instanceMethod y_Summer_begin : Cond) ∈ xG := xin 160 (by decide +kernel) (by decide +kernel)
theorem tw_161 : (Cond.selects R_Summer y_Summer_begin y_Summer_begin : Cond) ∈ xG := xin 161 (by decide +kernel) (by decide +kernel)
theorem tw_162 : (Cond.code y_Summer_begin b_Summer_begin 1 none : Cond) ∈ xG := xin 162 (by decide +kernel) (by decide +kernel)
theorem tw_165 : (Cond.methodLink R_Summer 32 arraycopyName : Cond) ∈ xG := xin 165 (by decide +kernel) (by decide +kernel)
theorem tw_166 : (Cond.static arraycopyName : Cond) ∈ xG := xin 166 (by decide +kernel) (by decide +kernel)
theorem tw_167 : (Cond.native arraycopyName : Cond) ∈ xG := xin 167 (by decide +kernel) (by decide +kernel)
theorem tw_168 : (Cond.methodLink R_Summer 21 y_Summer_takeRow : Cond) ∈ xG := xin 168 (by decide +kernel) (by decide +kernel)
theorem tw_169 : (Cond.instanceMethod y_Summer_takeRow : Cond) ∈ xG := xin 169 (by decide +kernel) (by decide +kernel)
theorem tw_170 : (Cond.selects R_Summer y_Summer_takeRow y_Summer_takeRow : Cond) ∈ xG := xin 170 (by decide +kernel) (by decide +kernel)
theorem tw_171 : (Cond.code y_Summer_takeRow b_Summer_takeRow 4 none : Cond) ∈ xG := xin 171 (by decide +kernel) (by decide +kernel)
theorem tw_172 : (Cond.methodLink R_Summer 42 y_Summer_take : Cond) ∈ xG := xin 172 (by decide +kernel) (by decide +kernel)
theorem tw_174 : (Cond.instanceMethod y_Summer_take : Cond) ∈ xG := xin 174 (by decide +kernel) (by decide +kernel)
theorem tw_175 : (Cond.code y_Summer_take b_Summer_take 4 none : Cond) ∈ xG := xin 175 (by decide +kernel) (by decide +kernel)
theorem tw_176 : (Cond.methodLink R_Summer 52 y_Summer_spreadWords : Cond) ∈ xG := xin 176 (by decide +kernel) (by decide +kernel)
theorem tw_178 : (Cond.instanceMethod y_Summer_spreadWords : Cond) ∈ xG := xin 178 (by decide +kernel) (by decide +kernel)
theorem tw_179 : (Cond.code y_Summer_spreadWords b_Summer_spreadWords 2 none : Cond) ∈ xG := xin 179 (by decide +kernel) (by decide +kernel)
theorem tw_180 : (Cond.methodLink R_Summer 58 y_Summer_smallOne : Cond) ∈ xG := xin 180 (by decide +kernel) (by decide +kernel)
theorem tw_181 : (Cond.static y_Summer_smallOne : Cond) ∈ xG := xin 181 (by decide +kernel) (by decide +kernel)
theorem tw_182 : (Cond.code y_Summer_smallOne b_Summer_smallOne 1 (some .int) : Cond) ∈ xG := xin 182 (by decide +kernel) (by decide +kernel)
theorem tw_183 : (Cond.methodLink R_Summer 74 y_Integer_rotateRight : Cond) ∈ xG := xin 183 (by decide +kernel) (by decide +kernel)
theorem tw_184 : (Cond.static y_Integer_rotateRight : Cond) ∈ xG := xin 184 (by decide +kernel) (by decide +kernel)
theorem tw_185 : (Cond.code y_Integer_rotateRight b_Integer_rotateRight 2 (some .int) : Cond) ∈ xG := xin 185 (by decide +kernel) (by decide +kernel)
theorem tw_186 : (Cond.methodLink R_Summer 62 y_Summer_smallZero : Cond) ∈ xG := xin 186 (by decide +kernel) (by decide +kernel)
theorem tw_187 : (Cond.static y_Summer_smallZero : Cond) ∈ xG := xin 187 (by decide +kernel) (by decide +kernel)
theorem tw_188 : (Cond.code y_Summer_smallZero b_Summer_smallZero 1 (some .int) : Cond) ∈ xG := xin 188 (by decide +kernel) (by decide +kernel)
theorem tw_189 : (Cond.methodLink R_Summer 55 y_Summer_mixWords : Cond) ∈ xG := xin 189 (by decide +kernel) (by decide +kernel)
theorem tw_191 : (Cond.instanceMethod y_Summer_mixWords : Cond) ∈ xG := xin 191 (by decide +kernel) (by decide +kernel)
theorem tw_192 : (Cond.code y_Summer_mixWords b_Summer_mixWords 12 none : Cond) ∈ xG := xin 192 (by decide +kernel) (by decide +kernel)
theorem tw_193 : (Cond.methodLink R_Summer 65 y_Summer_bigOne : Cond) ∈ xG := xin 193 (by decide +kernel) (by decide +kernel)
theorem tw_194 : (Cond.static y_Summer_bigOne : Cond) ∈ xG := xin 194 (by decide +kernel) (by decide +kernel)
theorem tw_195 : (Cond.code y_Summer_bigOne b_Summer_bigOne 1 (some .int) : Cond) ∈ xG := xin 195 (by decide +kernel) (by decide +kernel)
theorem tw_198 : (Cond.methodLink R_Summer 71 y_Summer_bigZero : Cond) ∈ xG := xin 198 (by decide +kernel) (by decide +kernel)
theorem tw_199 : (Cond.static y_Summer_bigZero : Cond) ∈ xG := xin 199 (by decide +kernel) (by decide +kernel)
theorem tw_200 : (Cond.code y_Summer_bigZero b_Summer_bigZero 1 (some .int) : Cond) ∈ xG := xin 200 (by decide +kernel) (by decide +kernel)
theorem tw_201 : (Cond.methodLink R_Summer 25 y_Summer_finish : Cond) ∈ xG := xin 201 (by decide +kernel) (by decide +kernel)
theorem tw_202 : (Cond.instanceMethod y_Summer_finish : Cond) ∈ xG := xin 202 (by decide +kernel) (by decide +kernel)
theorem tw_203 : (Cond.selects R_Summer y_Summer_finish y_Summer_finish : Cond) ∈ xG := xin 203 (by decide +kernel) (by decide +kernel)
theorem tw_204 : (Cond.code y_Summer_finish b_Summer_finish 6 none : Cond) ∈ xG := xin 204 (by decide +kernel) (by decide +kernel)
theorem tw_205 : (Cond.constantLong R_Summer 46 8 : Cond) ∈ xG := xin 205 (by decide +kernel) (by decide +kernel)
theorem tw_207 : (Cond.methodLink R_Marker 44 arraycopyName : Cond) ∈ xG := xin 207 (by decide +kernel) (by decide +kernel)
theorem tw_208 : (Cond.methodLink R_Marker 50 y_Marker_keepStateBehindKey : Cond) ∈ xG := xin 208 (by decide +kernel) (by decide +kernel)
theorem tw_210 : (Cond.instanceMethod y_Marker_keepStateBehindKey : Cond) ∈ xG := xin 210 (by decide +kernel) (by decide +kernel)
theorem tw_211 : (Cond.code y_Marker_keepStateBehindKey b_Marker_keepStateBehindKey 4 none : Cond) ∈ xG := xin 211 (by decide +kernel) (by decide +kernel)
theorem tw_212 : (Cond.methodLink R_Marker 64 y_Summer_begin : Cond) ∈ xG := xin 212 (by decide +kernel) (by decide +kernel)
theorem tw_213 : (Cond.methodLink R_Marker 58 y_Summer_takeRow : Cond) ∈ xG := xin 213 (by decide +kernel) (by decide +kernel)
theorem tw_214 : (Cond.methodLink R_Marker 67 y_Summer_keepState : Cond) ∈ xG := xin 214 (by decide +kernel) (by decide +kernel)
theorem tw_215 : (Cond.instanceMethod y_Summer_keepState : Cond) ∈ xG := xin 215 (by decide +kernel) (by decide +kernel)
theorem tw_216 : (Cond.selects R_Summer y_Summer_keepState y_Summer_keepState : Cond) ∈ xG := xin 216 (by decide +kernel) (by decide +kernel)
theorem tw_217 : (Cond.code y_Summer_keepState b_Summer_keepState 2 none : Cond) ∈ xG := xin 217 (by decide +kernel) (by decide +kernel)
theorem tw_218 : (Cond.methodLink R_KeyMaker 76 y_KeyMaker_turnsLeft : Cond) ∈ xG := xin 218 (by decide +kernel) (by decide +kernel)
theorem tw_220 : (Cond.instanceMethod y_KeyMaker_turnsLeft : Cond) ∈ xG := xin 220 (by decide +kernel) (by decide +kernel)
theorem tw_221 : (Cond.code y_KeyMaker_turnsLeft b_KeyMaker_turnsLeft 2 (some .int) : Cond) ∈ xG := xin 221 (by decide +kernel) (by decide +kernel)
theorem tw_222 : (Cond.methodLink R_Law 31 y_KeyMaker_step : Cond) ∈ xG := xin 222 (by decide +kernel) (by decide +kernel)
theorem tw_223 : (Cond.instanceMethod y_KeyMaker_step : Cond) ∈ xG := xin 223 (by decide +kernel) (by decide +kernel)
theorem tw_224 : (Cond.selects R_KeyMaker y_KeyMaker_step y_KeyMaker_step : Cond) ∈ xG := xin 224 (by decide +kernel) (by decide +kernel)
theorem tw_225 : (Cond.code y_KeyMaker_step b_KeyMaker_step 1 (some .int) : Cond) ∈ xG := xin 225 (by decide +kernel) (by decide +kernel)
theorem tw_226 : (Cond.methodLink R_KeyMaker 80 y_KeyMaker_turn : Cond) ∈ xG := xin 226 (by decide +kernel) (by decide +kernel)
theorem tw_228 : (Cond.instanceMethod y_KeyMaker_turn : Cond) ∈ xG := xin 228 (by decide +kernel) (by decide +kernel)
theorem tw_229 : (Cond.code y_KeyMaker_turn b_KeyMaker_turn 1 none : Cond) ∈ xG := xin 229 (by decide +kernel) (by decide +kernel)
theorem tw_230 : (Cond.methodLink R_KeyMaker 99 y_Marker_writeMark : Cond) ∈ xG := xin 230 (by decide +kernel) (by decide +kernel)
theorem tw_231 : (Cond.instanceMethod y_Marker_writeMark : Cond) ∈ xG := xin 231 (by decide +kernel) (by decide +kernel)
theorem tw_232 : (Cond.selects R_Marker y_Marker_writeMark y_Marker_writeMark : Cond) ∈ xG := xin 232 (by decide +kernel) (by decide +kernel)
theorem tw_233 : (Cond.code y_Marker_writeMark b_Marker_writeMark 4 none : Cond) ∈ xG := xin 233 (by decide +kernel) (by decide +kernel)
theorem tw_234 : (Cond.methodLink R_Marker 54 y_Summer_beginBehindBlock : Cond) ∈ xG := xin 234 (by decide +kernel) (by decide +kernel)
theorem tw_235 : (Cond.instanceMethod y_Summer_beginBehindBlock : Cond) ∈ xG := xin 235 (by decide +kernel) (by decide +kernel)
theorem tw_236 : (Cond.selects R_Summer y_Summer_beginBehindBlock y_Summer_beginBehindBlock : Cond) ∈ xG := xin 236 (by decide +kernel) (by decide +kernel)
theorem tw_237 : (Cond.code y_Summer_beginBehindBlock b_Summer_beginBehindBlock 2 none : Cond) ∈ xG := xin 237 (by decide +kernel) (by decide +kernel)
theorem tw_238 : (Cond.methodLink R_Marker 61 y_Summer_finish : Cond) ∈ xG := xin 238 (by decide +kernel) (by decide +kernel)
theorem tw_239 : (Cond.methodLink R_KeyMaker 111 y_KeyMaker_foldLastMark : Cond) ∈ xG := xin 239 (by decide +kernel) (by decide +kernel)
theorem tw_241 : (Cond.instanceMethod y_KeyMaker_foldLastMark : Cond) ∈ xG := xin 241 (by decide +kernel) (by decide +kernel)
theorem tw_242 : (Cond.code y_KeyMaker_foldLastMark b_KeyMaker_foldLastMark 3 none : Cond) ∈ xG := xin 242 (by decide +kernel) (by decide +kernel)
theorem tw_243 : (Cond.methodLink R_Law 36 y_KeyMaker_run : Cond) ∈ xG := xin 243 (by decide +kernel) (by decide +kernel)
theorem tw_244 : (Cond.instanceMethod y_KeyMaker_run : Cond) ∈ xG := xin 244 (by decide +kernel) (by decide +kernel)
theorem tw_245 : (Cond.selects R_KeyMaker y_KeyMaker_run y_KeyMaker_run : Cond) ∈ xG := xin 245 (by decide +kernel) (by decide +kernel)
theorem tw_246 : (Cond.code y_KeyMaker_run b_KeyMaker_run 4 (some .int) : Cond) ∈ xG := xin 246 (by decide +kernel) (by decide +kernel)
theorem tw_247 : (Cond.methodLink R_KeyMaker 83 Lib.Math.min.name : Cond) ∈ xG := xin 247 (by decide +kernel) (by decide +kernel)
theorem tw_248 : (Cond.static Lib.Math.min.name : Cond) ∈ xG := xin 248 (by decide +kernel) (by decide +kernel)
theorem tw_249 : (Cond.code Lib.Math.min.name Lib.Math.min.code 2 (some .int) : Cond) ∈ xG := xin 249 (by decide +kernel) (by decide +kernel)
theorem tw_250 : (Cond.methodLink R_Law 41 y_KeyMaker_left : Cond) ∈ xG := xin 250 (by decide +kernel) (by decide +kernel)
theorem tw_251 : (Cond.instanceMethod y_KeyMaker_left : Cond) ∈ xG := xin 251 (by decide +kernel) (by decide +kernel)
theorem tw_252 : (Cond.selects R_KeyMaker y_KeyMaker_left y_KeyMaker_left : Cond) ∈ xG := xin 252 (by decide +kernel) (by decide +kernel)
theorem tw_253 : (Cond.code y_KeyMaker_left b_KeyMaker_left 1 (some .int) : Cond) ∈ xG := xin 253 (by decide +kernel) (by decide +kernel)
theorem tw_254 : (Cond.methodLink R_Law 45 y_KeyMaker_key : Cond) ∈ xG := xin 254 (by decide +kernel) (by decide +kernel)
theorem tw_255 : (Cond.instanceMethod y_KeyMaker_key : Cond) ∈ xG := xin 255 (by decide +kernel) (by decide +kernel)
theorem tw_256 : (Cond.selects R_KeyMaker y_KeyMaker_key y_KeyMaker_key : Cond) ∈ xG := xin 256 (by decide +kernel) (by decide +kernel)
theorem tw_257 : (Cond.code y_KeyMaker_key b_KeyMaker_key 2 (some .int) : Cond) ∈ xG := xin 257 (by decide +kernel) (by decide +kernel)
theorem tw_258 : (Cond.methodLink R_Law 49 y_KeyMaker_reset : Cond) ∈ xG := xin 258 (by decide +kernel) (by decide +kernel)
theorem tw_259 : (Cond.instanceMethod y_KeyMaker_reset : Cond) ∈ xG := xin 259 (by decide +kernel) (by decide +kernel)
theorem tw_260 : (Cond.selects R_KeyMaker y_KeyMaker_reset y_KeyMaker_reset : Cond) ∈ xG := xin 260 (by decide +kernel) (by decide +kernel)
theorem tw_261 : (Cond.code y_KeyMaker_reset b_KeyMaker_reset 1 none : Cond) ∈ xG := xin 261 (by decide +kernel) (by decide +kernel)
theorem tw_262 : (Cond.methodLink R_Law 53 y_KeyMaker_many : Cond) ∈ xG := xin 262 (by decide +kernel) (by decide +kernel)
theorem tw_263 : (Cond.instanceMethod y_KeyMaker_many : Cond) ∈ xG := xin 263 (by decide +kernel) (by decide +kernel)
theorem tw_264 : (Cond.selects R_KeyMaker y_KeyMaker_many y_KeyMaker_many : Cond) ∈ xG := xin 264 (by decide +kernel) (by decide +kernel)
theorem tw_265 : (Cond.code y_KeyMaker_many b_KeyMaker_many 2 (some .int) : Cond) ∈ xG := xin 265 (by decide +kernel) (by decide +kernel)
theorem tw_266 : (Cond.methodLink R_Law 57 y_KeyMaker_sum : Cond) ∈ xG := xin 266 (by decide +kernel) (by decide +kernel)
theorem tw_267 : (Cond.instanceMethod y_KeyMaker_sum : Cond) ∈ xG := xin 267 (by decide +kernel) (by decide +kernel)
theorem tw_268 : (Cond.selects R_KeyMaker y_KeyMaker_sum y_KeyMaker_sum : Cond) ∈ xG := xin 268 (by decide +kernel) (by decide +kernel)
theorem tw_269 : (Cond.code y_KeyMaker_sum b_KeyMaker_sum 2 (some .int) : Cond) ∈ xG := xin 269 (by decide +kernel) (by decide +kernel)
theorem tw_270 : (Cond.methodLink R_KeyMaker 92 y_KeyMaker_isPlaceOfSum : Cond) ∈ xG := xin 270 (by decide +kernel) (by decide +kernel)
theorem tw_271 : (Cond.static y_KeyMaker_isPlaceOfSum : Cond) ∈ xG := xin 271 (by decide +kernel) (by decide +kernel)
theorem tw_272 : (Cond.code y_KeyMaker_isPlaceOfSum b_KeyMaker_isPlaceOfSum 1 (some .boolean) : Cond) ∈ xG := xin 272 (by decide +kernel) (by decide +kernel)
theorem tw_273 : (Cond.methodLink R_KeyMaker 95 y_Summer_writeSum : Cond) ∈ xG := xin 273 (by decide +kernel) (by decide +kernel)
theorem tw_274 : (Cond.methodLink R_Law 61 y_KeyMaker_mark : Cond) ∈ xG := xin 274 (by decide +kernel) (by decide +kernel)
theorem tw_275 : (Cond.instanceMethod y_KeyMaker_mark : Cond) ∈ xG := xin 275 (by decide +kernel) (by decide +kernel)
theorem tw_276 : (Cond.selects R_KeyMaker y_KeyMaker_mark y_KeyMaker_mark : Cond) ∈ xG := xin 276 (by decide +kernel) (by decide +kernel)
theorem tw_277 : (Cond.code y_KeyMaker_mark b_KeyMaker_mark 2 (some .int) : Cond) ∈ xG := xin 277 (by decide +kernel) (by decide +kernel)
theorem tw_278 : (Cond.methodLink R_Law 65 y_KeyMaker_word : Cond) ∈ xG := xin 278 (by decide +kernel) (by decide +kernel)
theorem tw_279 : (Cond.instanceMethod y_KeyMaker_word : Cond) ∈ xG := xin 279 (by decide +kernel) (by decide +kernel)
theorem tw_280 : (Cond.selects R_KeyMaker y_KeyMaker_word y_KeyMaker_word : Cond) ∈ xG := xin 280 (by decide +kernel) (by decide +kernel)
theorem tw_281 : (Cond.code y_KeyMaker_word b_KeyMaker_word 3 (some .int) : Cond) ∈ xG := xin 281 (by decide +kernel) (by decide +kernel)
theorem tw_282 : (Cond.fieldLink R_KeyMaker 102 "KeyMaker" "K" "[I" : Cond) ∈ xG := xin 282 (by decide +kernel) (by decide +kernel)
theorem tw_283 : (Cond.fieldLink R_KeyMaker 105 "KeyMaker" "H" "[I" : Cond) ∈ xG := xin 283 (by decide +kernel) (by decide +kernel)
theorem tw_284 : (Cond.classLink R_Law 10 R_Model : Cond) ∈ xG := xin 284 (by decide +kernel) (by decide +kernel)
theorem tw_285 : (Cond.instantiable R_Model 19 : Cond) ∈ xG := xin 285 (by decide +kernel) (by decide +kernel)
theorem tw_286 : (Cond.methodLink R_Law 12 y_Model_init : Cond) ∈ xG := xin 286 (by decide +kernel) (by decide +kernel)
theorem tw_287 : (Cond.instanceMethod y_Model_init : Cond) ∈ xG := xin 287 (by decide +kernel) (by decide +kernel)
theorem tw_288 : (Cond.code y_Model_init b_Model_init 5 none : Cond) ∈ xG := xin 288 (by decide +kernel) (by decide +kernel)
theorem tw_289 : (Cond.methodLink R_Model 1 objectInit : Cond) ∈ xG := xin 289 (by decide +kernel) (by decide +kernel)
theorem tw_290 : (Cond.methodLink R_Model 47 y_Model_root : Cond) ∈ xG := xin 290 (by decide +kernel) (by decide +kernel)
theorem tw_291 : (Cond.static y_Model_root : Cond) ∈ xG := xin 291 (by decide +kernel) (by decide +kernel)
theorem tw_292 : (Cond.code y_Model_root b_Model_root 8 (some .int) : Cond) ∈ xG := xin 292 (by decide +kernel) (by decide +kernel)
theorem tw_293 : (Cond.constantLong R_Model 55 68719476736 : Cond) ∈ xG := xin 293 (by decide +kernel) (by decide +kernel)
theorem tw_294 : (Cond.constantLong R_Model 53 2 : Cond) ∈ xG := xin 294 (by decide +kernel) (by decide +kernel)
theorem tw_295 : (Cond.methodLink R_Model 57 y_Model_isAtMost : Cond) ∈ xG := xin 295 (by decide +kernel) (by decide +kernel)
theorem tw_296 : (Cond.static y_Model_isAtMost : Cond) ∈ xG := xin 296 (by decide +kernel) (by decide +kernel)
theorem tw_297 : (Cond.code y_Model_isAtMost b_Model_isAtMost 24 (some .boolean) : Cond) ∈ xG := xin 297 (by decide +kernel) (by decide +kernel)
theorem tw_298 : (Cond.constantLong R_Model 51 262143 : Cond) ∈ xG := xin 298 (by decide +kernel) (by decide +kernel)
theorem tw_299 : (Cond.fieldLink R_Model 7 "KeyMakerModel" "cubes" "[I" : Cond) ∈ xG := xin 299 (by decide +kernel) (by decide +kernel)
theorem tw_300 : (Cond.fieldLink R_Model 13 "KeyMakerModel" "squares" "[I" : Cond) ∈ xG := xin 300 (by decide +kernel) (by decide +kernel)
theorem tw_301 : (Cond.fieldLink R_Model 16 "KeyMakerModel" "secret" "[B" : Cond) ∈ xG := xin 301 (by decide +kernel) (by decide +kernel)
theorem tw_302 : (Cond.fieldLink R_Model 76 "KeyMakerModel" "secretSize" "I" : Cond) ∈ xG := xin 302 (by decide +kernel) (by decide +kernel)
theorem tw_303 : (Cond.fieldLink R_Model 20 "KeyMakerModel" "grain" "[B" : Cond) ∈ xG := xin 303 (by decide +kernel) (by decide +kernel)
theorem tw_304 : (Cond.fieldLink R_Model 94 "KeyMakerModel" "grainSize" "I" : Cond) ∈ xG := xin 304 (by decide +kernel) (by decide +kernel)
theorem tw_305 : (Cond.fieldLink R_Model 86 "KeyMakerModel" "isStarted" "Z" : Cond) ∈ xG := xin 305 (by decide +kernel) (by decide +kernel)
theorem tw_306 : (Cond.fieldLink R_Model 100 "KeyMakerModel" "turns" "I" : Cond) ∈ xG := xin 306 (by decide +kernel) (by decide +kernel)
theorem tw_307 : (Cond.fieldLink R_Model 97 "KeyMakerModel" "wanted" "I" : Cond) ∈ xG := xin 307 (by decide +kernel) (by decide +kernel)
theorem tw_308 : (Cond.fieldLink R_Model 103 "KeyMakerModel" "done" "I" : Cond) ∈ xG := xin 308 (by decide +kernel) (by decide +kernel)
theorem tw_309 : (Cond.fieldLink R_Model 23 "KeyMakerModel" "last" "[B" : Cond) ∈ xG := xin 309 (by decide +kernel) (by decide +kernel)
theorem tw_310 : (Cond.fieldLink R_Model 26 "KeyMakerModel" "parts" "[B" : Cond) ∈ xG := xin 310 (by decide +kernel) (by decide +kernel)
theorem tw_311 : (Cond.fieldLink R_Model 29 "KeyMakerModel" "row" "[B" : Cond) ∈ xG := xin 311 (by decide +kernel) (by decide +kernel)
theorem tw_312 : (Cond.fieldLink R_Model 61 "KeyMakerModel" "rowSize" "I" : Cond) ∈ xG := xin 312 (by decide +kernel) (by decide +kernel)
theorem tw_313 : (Cond.fieldLink R_Model 32 "KeyMakerModel" "result" "[B" : Cond) ∈ xG := xin 313 (by decide +kernel) (by decide +kernel)
theorem tw_314 : (Cond.fieldLink R_Model 35 "KeyMakerModel" "state" "[I" : Cond) ∈ xG := xin 314 (by decide +kernel) (by decide +kernel)
theorem tw_315 : (Cond.fieldLink R_Model 38 "KeyMakerModel" "now" "[I" : Cond) ∈ xG := xin 315 (by decide +kernel) (by decide +kernel)
theorem tw_316 : (Cond.fieldLink R_Model 41 "KeyMakerModel" "words" "[I" : Cond) ∈ xG := xin 316 (by decide +kernel) (by decide +kernel)
theorem tw_317 : (Cond.fieldLink R_Model 44 "KeyMakerModel" "padded" "[B" : Cond) ∈ xG := xin 317 (by decide +kernel) (by decide +kernel)
theorem tw_357 : (Cond.arrayClass .byte : Cond) ∈ xG := xin 357 (by decide +kernel) (by decide +kernel)
theorem tw_358 : (Cond.methodLink R_Law 68 y_Model_word : Cond) ∈ xG := xin 358 (by decide +kernel) (by decide +kernel)
theorem tw_359 : (Cond.instanceMethod y_Model_word : Cond) ∈ xG := xin 359 (by decide +kernel) (by decide +kernel)
theorem tw_360 : (Cond.selects R_Model y_Model_word y_Model_word : Cond) ∈ xG := xin 360 (by decide +kernel) (by decide +kernel)
theorem tw_361 : (Cond.code y_Model_word b_Model_word 3 (some .int) : Cond) ∈ xG := xin 361 (by decide +kernel) (by decide +kernel)
theorem tw_362 : (Cond.methodLink R_Law 17 y_Model_password : Cond) ∈ xG := xin 362 (by decide +kernel) (by decide +kernel)
theorem tw_363 : (Cond.instanceMethod y_Model_password : Cond) ∈ xG := xin 363 (by decide +kernel) (by decide +kernel)
theorem tw_364 : (Cond.selects R_Model y_Model_password y_Model_password : Cond) ∈ xG := xin 364 (by decide +kernel) (by decide +kernel)
theorem tw_365 : (Cond.code y_Model_password b_Model_password 2 (some .boolean) : Cond) ∈ xG := xin 365 (by decide +kernel) (by decide +kernel)
theorem tw_366 : (Cond.methodLink R_Model 90 y_Model_takes : Cond) ∈ xG := xin 366 (by decide +kernel) (by decide +kernel)
theorem tw_368 : (Cond.instanceMethod y_Model_takes : Cond) ∈ xG := xin 368 (by decide +kernel) (by decide +kernel)
theorem tw_369 : (Cond.code y_Model_takes b_Model_takes 2 (some .boolean) : Cond) ∈ xG := xin 369 (by decide +kernel) (by decide +kernel)
theorem tw_370 : (Cond.methodLink R_Law 21 y_Model_four : Cond) ∈ xG := xin 370 (by decide +kernel) (by decide +kernel)
theorem tw_371 : (Cond.instanceMethod y_Model_four : Cond) ∈ xG := xin 371 (by decide +kernel) (by decide +kernel)
theorem tw_372 : (Cond.selects R_Model y_Model_four y_Model_four : Cond) ∈ xG := xin 372 (by decide +kernel) (by decide +kernel)
theorem tw_373 : (Cond.code y_Model_four b_Model_four 3 (some .boolean) : Cond) ∈ xG := xin 373 (by decide +kernel) (by decide +kernel)
theorem tw_374 : (Cond.methodLink R_Law 25 y_Model_salt : Cond) ∈ xG := xin 374 (by decide +kernel) (by decide +kernel)
theorem tw_375 : (Cond.instanceMethod y_Model_salt : Cond) ∈ xG := xin 375 (by decide +kernel) (by decide +kernel)
theorem tw_376 : (Cond.selects R_Model y_Model_salt y_Model_salt : Cond) ∈ xG := xin 376 (by decide +kernel) (by decide +kernel)
theorem tw_377 : (Cond.code y_Model_salt b_Model_salt 2 (some .boolean) : Cond) ∈ xG := xin 377 (by decide +kernel) (by decide +kernel)
theorem tw_378 : (Cond.methodLink R_Law 30 y_Model_start : Cond) ∈ xG := xin 378 (by decide +kernel) (by decide +kernel)
theorem tw_379 : (Cond.instanceMethod y_Model_start : Cond) ∈ xG := xin 379 (by decide +kernel) (by decide +kernel)
theorem tw_380 : (Cond.selects R_Model y_Model_start y_Model_start : Cond) ∈ xG := xin 380 (by decide +kernel) (by decide +kernel)
theorem tw_381 : (Cond.code y_Model_start b_Model_start 4 (some .int) : Cond) ∈ xG := xin 381 (by decide +kernel) (by decide +kernel)
theorem tw_382 : (Cond.methodLink R_Model 106 y_Model_partCount : Cond) ∈ xG := xin 382 (by decide +kernel) (by decide +kernel)
theorem tw_384 : (Cond.instanceMethod y_Model_partCount : Cond) ∈ xG := xin 384 (by decide +kernel) (by decide +kernel)
theorem tw_385 : (Cond.code y_Model_partCount b_Model_partCount 1 (some .int) : Cond) ∈ xG := xin 385 (by decide +kernel) (by decide +kernel)
theorem tw_386 : (Cond.methodLink R_Law 44 y_Model_left : Cond) ∈ xG := xin 386 (by decide +kernel) (by decide +kernel)
theorem tw_387 : (Cond.instanceMethod y_Model_left : Cond) ∈ xG := xin 387 (by decide +kernel) (by decide +kernel)
theorem tw_388 : (Cond.selects R_Model y_Model_left y_Model_left : Cond) ∈ xG := xin 388 (by decide +kernel) (by decide +kernel)
theorem tw_389 : (Cond.code y_Model_left b_Model_left 1 (some .int) : Cond) ∈ xG := xin 389 (by decide +kernel) (by decide +kernel)
theorem tw_390 : (Cond.methodLink R_Law 35 y_Model_step : Cond) ∈ xG := xin 390 (by decide +kernel) (by decide +kernel)
theorem tw_391 : (Cond.instanceMethod y_Model_step : Cond) ∈ xG := xin 391 (by decide +kernel) (by decide +kernel)
theorem tw_392 : (Cond.selects R_Model y_Model_step y_Model_step : Cond) ∈ xG := xin 392 (by decide +kernel) (by decide +kernel)
theorem tw_393 : (Cond.code y_Model_step b_Model_step 3 (some .int) : Cond) ∈ xG := xin 393 (by decide +kernel) (by decide +kernel)
theorem tw_394 : (Cond.methodLink R_Model 110 y_Model_left : Cond) ∈ xG := xin 394 (by decide +kernel) (by decide +kernel)
theorem tw_395 : (Cond.methodLink R_Model 113 y_Model_markOf : Cond) ∈ xG := xin 395 (by decide +kernel) (by decide +kernel)
theorem tw_397 : (Cond.instanceMethod y_Model_markOf : Cond) ∈ xG := xin 397 (by decide +kernel) (by decide +kernel)
theorem tw_398 : (Cond.code y_Model_markOf b_Model_markOf 4 none : Cond) ∈ xG := xin 398 (by decide +kernel) (by decide +kernel)
theorem tw_399 : (Cond.methodLink R_Model 79 y_Model_sumOf : Cond) ∈ xG := xin 399 (by decide +kernel) (by decide +kernel)
theorem tw_401 : (Cond.instanceMethod y_Model_sumOf : Cond) ∈ xG := xin 401 (by decide +kernel) (by decide +kernel)
theorem tw_402 : (Cond.code y_Model_sumOf b_Model_sumOf 4 none : Cond) ∈ xG := xin 402 (by decide +kernel) (by decide +kernel)
theorem tw_403 : (Cond.methodLink R_Model 65 y_Model_lay : Cond) ∈ xG := xin 403 (by decide +kernel) (by decide +kernel)
theorem tw_405 : (Cond.instanceMethod y_Model_lay : Cond) ∈ xG := xin 405 (by decide +kernel) (by decide +kernel)
theorem tw_406 : (Cond.code y_Model_lay b_Model_lay 2 none : Cond) ∈ xG := xin 406 (by decide +kernel) (by decide +kernel)
theorem tw_407 : (Cond.methodLink R_Model 83 y_Model_reckon : Cond) ∈ xG := xin 407 (by decide +kernel) (by decide +kernel)
theorem tw_409 : (Cond.instanceMethod y_Model_reckon : Cond) ∈ xG := xin 409 (by decide +kernel) (by decide +kernel)
theorem tw_410 : (Cond.code y_Model_reckon b_Model_reckon 3 none : Cond) ∈ xG := xin 410 (by decide +kernel) (by decide +kernel)
theorem tw_411 : (Cond.methodLink R_Model 69 y_Model_mix : Cond) ∈ xG := xin 411 (by decide +kernel) (by decide +kernel)
theorem tw_413 : (Cond.instanceMethod y_Model_mix : Cond) ∈ xG := xin 413 (by decide +kernel) (by decide +kernel)
theorem tw_414 : (Cond.code y_Model_mix b_Model_mix 8 none : Cond) ∈ xG := xin 414 (by decide +kernel) (by decide +kernel)
theorem tw_415 : (Cond.methodLink R_Model 72 y_Model_rot : Cond) ∈ xG := xin 415 (by decide +kernel) (by decide +kernel)
theorem tw_416 : (Cond.static y_Model_rot : Cond) ∈ xG := xin 416 (by decide +kernel) (by decide +kernel)
theorem tw_417 : (Cond.code y_Model_rot b_Model_rot 2 (some .int) : Cond) ∈ xG := xin 417 (by decide +kernel) (by decide +kernel)
theorem tw_418 : (Cond.methodLink R_Law 40 y_Model_run : Cond) ∈ xG := xin 418 (by decide +kernel) (by decide +kernel)
theorem tw_419 : (Cond.instanceMethod y_Model_run : Cond) ∈ xG := xin 419 (by decide +kernel) (by decide +kernel)
theorem tw_420 : (Cond.selects R_Model y_Model_run y_Model_run : Cond) ∈ xG := xin 420 (by decide +kernel) (by decide +kernel)
theorem tw_421 : (Cond.code y_Model_run b_Model_run 3 (some .int) : Cond) ∈ xG := xin 421 (by decide +kernel) (by decide +kernel)
theorem tw_422 : (Cond.methodLink R_Model 116 y_Model_step : Cond) ∈ xG := xin 422 (by decide +kernel) (by decide +kernel)
theorem tw_423 : (Cond.methodLink R_Law 48 y_Model_key : Cond) ∈ xG := xin 423 (by decide +kernel) (by decide +kernel)
theorem tw_424 : (Cond.instanceMethod y_Model_key : Cond) ∈ xG := xin 424 (by decide +kernel) (by decide +kernel)
theorem tw_425 : (Cond.selects R_Model y_Model_key y_Model_key : Cond) ∈ xG := xin 425 (by decide +kernel) (by decide +kernel)
theorem tw_426 : (Cond.code y_Model_key b_Model_key 3 (some .int) : Cond) ∈ xG := xin 426 (by decide +kernel) (by decide +kernel)
theorem tw_427 : (Cond.methodLink R_Law 52 y_Model_reset : Cond) ∈ xG := xin 427 (by decide +kernel) (by decide +kernel)
theorem tw_428 : (Cond.instanceMethod y_Model_reset : Cond) ∈ xG := xin 428 (by decide +kernel) (by decide +kernel)
theorem tw_429 : (Cond.selects R_Model y_Model_reset y_Model_reset : Cond) ∈ xG := xin 429 (by decide +kernel) (by decide +kernel)
theorem tw_430 : (Cond.code y_Model_reset b_Model_reset 1 none : Cond) ∈ xG := xin 430 (by decide +kernel) (by decide +kernel)
theorem tw_431 : (Cond.methodLink R_Law 56 y_Model_many : Cond) ∈ xG := xin 431 (by decide +kernel) (by decide +kernel)
theorem tw_432 : (Cond.instanceMethod y_Model_many : Cond) ∈ xG := xin 432 (by decide +kernel) (by decide +kernel)
theorem tw_433 : (Cond.selects R_Model y_Model_many y_Model_many : Cond) ∈ xG := xin 433 (by decide +kernel) (by decide +kernel)
theorem tw_434 : (Cond.code y_Model_many b_Model_many 2 (some .int) : Cond) ∈ xG := xin 434 (by decide +kernel) (by decide +kernel)
theorem tw_435 : (Cond.methodLink R_Law 60 y_Model_sum : Cond) ∈ xG := xin 435 (by decide +kernel) (by decide +kernel)
theorem tw_436 : (Cond.instanceMethod y_Model_sum : Cond) ∈ xG := xin 436 (by decide +kernel) (by decide +kernel)
theorem tw_437 : (Cond.selects R_Model y_Model_sum y_Model_sum : Cond) ∈ xG := xin 437 (by decide +kernel) (by decide +kernel)
theorem tw_438 : (Cond.code y_Model_sum b_Model_sum 2 (some .int) : Cond) ∈ xG := xin 438 (by decide +kernel) (by decide +kernel)
theorem tw_439 : (Cond.methodLink R_Law 64 y_Model_mark : Cond) ∈ xG := xin 439 (by decide +kernel) (by decide +kernel)
theorem tw_440 : (Cond.instanceMethod y_Model_mark : Cond) ∈ xG := xin 440 (by decide +kernel) (by decide +kernel)
theorem tw_441 : (Cond.selects R_Model y_Model_mark y_Model_mark : Cond) ∈ xG := xin 441 (by decide +kernel) (by decide +kernel)
theorem tw_442 : (Cond.code y_Model_mark b_Model_mark 2 (some .int) : Cond) ∈ xG := xin 442 (by decide +kernel) (by decide +kernel)
end
section
theorem d_Integer_rotateRight_0 : decode b_Integer_rotateRight 0 = .ok (.iload_n 0, 1) := by decide +kernel
theorem d_Integer_rotateRight_1 : decode b_Integer_rotateRight 1 = .ok (.iload_n 1, 1) := by decide +kernel
theorem d_Integer_rotateRight_2 : decode b_Integer_rotateRight 2 = .ok (.iushr, 1) := by decide +kernel
theorem d_Integer_rotateRight_3 : decode b_Integer_rotateRight 3 = .ok (.iload_n 0, 1) := by decide +kernel
theorem d_Integer_rotateRight_4 : decode b_Integer_rotateRight 4 = .ok (.iload_n 1, 1) := by decide +kernel
theorem d_Integer_rotateRight_5 : decode b_Integer_rotateRight 5 = .ok (.ineg, 1) := by decide +kernel
theorem d_Integer_rotateRight_6 : decode b_Integer_rotateRight 6 = .ok (.ishl, 1) := by decide +kernel
theorem d_Integer_rotateRight_7 : decode b_Integer_rotateRight 7 = .ok (.ior, 1) := by decide +kernel
theorem d_Integer_rotateRight_8 : decode b_Integer_rotateRight 8 = .ok (.ireturn, 1) := by decide +kernel
theorem d_Arrays_fill_0 : decode b_Arrays_fill 0 = .ok (.iconst 0, 1) := by decide +kernel
theorem d_Arrays_fill_1 : decode b_Arrays_fill 1 = .ok (.istore_n 2, 1) := by decide +kernel
theorem d_Arrays_fill_2 : decode b_Arrays_fill 2 = .ok (.aload_n 0, 1) := by decide +kernel
theorem d_Arrays_fill_3 : decode b_Arrays_fill 3 = .ok (.arraylength, 1) := by decide +kernel
theorem d_Arrays_fill_4 : decode b_Arrays_fill 4 = .ok (.istore_n 3, 1) := by decide +kernel
theorem d_Arrays_fill_5 : decode b_Arrays_fill 5 = .ok (.iload_n 2, 1) := by decide +kernel
theorem d_Arrays_fill_6 : decode b_Arrays_fill 6 = .ok (.iload_n 3, 1) := by decide +kernel
theorem d_Arrays_fill_7 : decode b_Arrays_fill 7 = .ok (.if_icmp .ge 13, 3) := by decide +kernel
theorem d_Arrays_fill_10 : decode b_Arrays_fill 10 = .ok (.aload_n 0, 1) := by decide +kernel
theorem d_Arrays_fill_11 : decode b_Arrays_fill 11 = .ok (.iload_n 2, 1) := by decide +kernel
theorem d_Arrays_fill_12 : decode b_Arrays_fill 12 = .ok (.iload_n 1, 1) := by decide +kernel
theorem d_Arrays_fill_13 : decode b_Arrays_fill 13 = .ok (.iastore, 1) := by decide +kernel
theorem d_Arrays_fill_14 : decode b_Arrays_fill 14 = .ok (.iinc 2 1, 3) := by decide +kernel
theorem d_Arrays_fill_17 : decode b_Arrays_fill 17 = .ok (.goto (-12), 3) := by decide +kernel
theorem d_Arrays_fill_20 : decode b_Arrays_fill 20 = .ok (.return_, 1) := by decide +kernel
theorem d_Summer_init_0 : decode b_Summer_init 0 = .ok (.aload_n 0, 1) := by decide +kernel
theorem d_Summer_init_1 : decode b_Summer_init 1 = .ok (.invokespecial 3, 3) := by decide +kernel
theorem d_Summer_init_4 : decode b_Summer_init 4 = .ok (.aload_n 0, 1) := by decide +kernel
theorem d_Summer_init_5 : decode b_Summer_init 5 = .ok (.bipush 8, 2) := by decide +kernel
theorem d_Summer_init_7 : decode b_Summer_init 7 = .ok (.newarray .int, 2) := by decide +kernel
theorem d_Summer_init_9 : decode b_Summer_init 9 = .ok (.putfield 9, 3) := by decide +kernel
theorem d_Summer_init_12 : decode b_Summer_init 12 = .ok (.aload_n 0, 1) := by decide +kernel
theorem d_Summer_init_13 : decode b_Summer_init 13 = .ok (.bipush 64, 2) := by decide +kernel
theorem d_Summer_init_15 : decode b_Summer_init 15 = .ok (.newarray .int, 2) := by decide +kernel
theorem d_Summer_init_17 : decode b_Summer_init 17 = .ok (.putfield 15, 3) := by decide +kernel
theorem d_Summer_init_20 : decode b_Summer_init 20 = .ok (.return_, 1) := by decide +kernel
theorem d_Summer_writeSum_0 : decode b_Summer_writeSum 0 = .ok (.aload_n 0, 1) := by decide +kernel
theorem d_Summer_writeSum_1 : decode b_Summer_writeSum 1 = .ok (.invokevirtual 18, 3) := by decide +kernel
theorem d_Summer_writeSum_4 : decode b_Summer_writeSum 4 = .ok (.aload_n 0, 1) := by decide +kernel
theorem d_Summer_writeSum_5 : decode b_Summer_writeSum 5 = .ok (.aload_n 1, 1) := by decide +kernel
theorem d_Summer_writeSum_6 : decode b_Summer_writeSum 6 = .ok (.iload_n 2, 1) := by decide +kernel
theorem d_Summer_writeSum_7 : decode b_Summer_writeSum 7 = .ok (.invokevirtual 21, 3) := by decide +kernel
theorem d_Summer_writeSum_10 : decode b_Summer_writeSum 10 = .ok (.aload_n 0, 1) := by decide +kernel
theorem d_Summer_writeSum_11 : decode b_Summer_writeSum 11 = .ok (.aload_n 3, 1) := by decide +kernel
theorem d_Summer_writeSum_12 : decode b_Summer_writeSum 12 = .ok (.invokevirtual 25, 3) := by decide +kernel
theorem d_Summer_writeSum_15 : decode b_Summer_writeSum 15 = .ok (.return_, 1) := by decide +kernel
theorem d_Summer_begin_0 : decode b_Summer_begin 0 = .ok (.getstatic 29, 3) := by decide +kernel
theorem d_Summer_begin_3 : decode b_Summer_begin 3 = .ok (.iconst 0, 1) := by decide +kernel
theorem d_Summer_begin_4 : decode b_Summer_begin 4 = .ok (.aload_n 0, 1) := by decide +kernel
theorem d_Summer_begin_5 : decode b_Summer_begin 5 = .ok (.getfield 9, 3) := by decide +kernel
theorem d_Summer_begin_8 : decode b_Summer_begin 8 = .ok (.iconst 0, 1) := by decide +kernel
theorem d_Summer_begin_9 : decode b_Summer_begin 9 = .ok (.bipush 8, 2) := by decide +kernel
theorem d_Summer_begin_11 : decode b_Summer_begin 11 = .ok (.invokestatic 32, 3) := by decide +kernel
theorem d_Summer_begin_14 : decode b_Summer_begin 14 = .ok (.aload_n 0, 1) := by decide +kernel
theorem d_Summer_begin_15 : decode b_Summer_begin 15 = .ok (.iconst 0, 1) := by decide +kernel
theorem d_Summer_begin_16 : decode b_Summer_begin 16 = .ok (.putfield 38, 3) := by decide +kernel
theorem d_Summer_begin_19 : decode b_Summer_begin 19 = .ok (.return_, 1) := by decide +kernel
theorem d_Summer_beginBehindBlock_0 : decode b_Summer_beginBehindBlock 0 = .ok (.aload_n 1, 1) := by decide +kernel
theorem d_Summer_beginBehindBlock_1 : decode b_Summer_beginBehindBlock 1 = .ok (.iconst 0, 1) := by decide +kernel
theorem d_Summer_beginBehindBlock_2 : decode b_Summer_beginBehindBlock 2 = .ok (.aload_n 0, 1) := by decide +kernel
theorem d_Summer_beginBehindBlock_3 : decode b_Summer_beginBehindBlock 3 = .ok (.getfield 9, 3) := by decide +kernel
theorem d_Summer_beginBehindBlock_6 : decode b_Summer_beginBehindBlock 6 = .ok (.iconst 0, 1) := by decide +kernel
theorem d_Summer_beginBehindBlock_7 : decode b_Summer_beginBehindBlock 7 = .ok (.bipush 8, 2) := by decide +kernel
theorem d_Summer_beginBehindBlock_9 : decode b_Summer_beginBehindBlock 9 = .ok (.invokestatic 32, 3) := by decide +kernel
theorem d_Summer_beginBehindBlock_12 : decode b_Summer_beginBehindBlock 12 = .ok (.aload_n 0, 1) := by decide +kernel
theorem d_Summer_beginBehindBlock_13 : decode b_Summer_beginBehindBlock 13 = .ok (.bipush 64, 2) := by decide +kernel
theorem d_Summer_beginBehindBlock_15 : decode b_Summer_beginBehindBlock 15 = .ok (.putfield 38, 3) := by decide +kernel
theorem d_Summer_beginBehindBlock_18 : decode b_Summer_beginBehindBlock 18 = .ok (.return_, 1) := by decide +kernel
theorem d_Summer_keepState_0 : decode b_Summer_keepState 0 = .ok (.aload_n 0, 1) := by decide +kernel
theorem d_Summer_keepState_1 : decode b_Summer_keepState 1 = .ok (.getfield 9, 3) := by decide +kernel
theorem d_Summer_keepState_4 : decode b_Summer_keepState 4 = .ok (.iconst 0, 1) := by decide +kernel
theorem d_Summer_keepState_5 : decode b_Summer_keepState 5 = .ok (.aload_n 1, 1) := by decide +kernel
theorem d_Summer_keepState_6 : decode b_Summer_keepState 6 = .ok (.iconst 0, 1) := by decide +kernel
theorem d_Summer_keepState_7 : decode b_Summer_keepState 7 = .ok (.bipush 8, 2) := by decide +kernel
theorem d_Summer_keepState_9 : decode b_Summer_keepState 9 = .ok (.invokestatic 32, 3) := by decide +kernel
theorem d_Summer_keepState_12 : decode b_Summer_keepState 12 = .ok (.return_, 1) := by decide +kernel
theorem d_Summer_takeRow_0 : decode b_Summer_takeRow 0 = .ok (.iconst 0, 1) := by decide +kernel
theorem d_Summer_takeRow_1 : decode b_Summer_takeRow 1 = .ok (.istore_n 3, 1) := by decide +kernel
theorem d_Summer_takeRow_2 : decode b_Summer_takeRow 2 = .ok (.iload_n 3, 1) := by decide +kernel
theorem d_Summer_takeRow_3 : decode b_Summer_takeRow 3 = .ok (.iload_n 2, 1) := by decide +kernel
theorem d_Summer_takeRow_4 : decode b_Summer_takeRow 4 = .ok (.if_icmp .ge 16, 3) := by decide +kernel
theorem d_Summer_takeRow_7 : decode b_Summer_takeRow 7 = .ok (.aload_n 0, 1) := by decide +kernel
theorem d_Summer_takeRow_8 : decode b_Summer_takeRow 8 = .ok (.aload_n 1, 1) := by decide +kernel
theorem d_Summer_takeRow_9 : decode b_Summer_takeRow 9 = .ok (.iload_n 3, 1) := by decide +kernel
theorem d_Summer_takeRow_10 : decode b_Summer_takeRow 10 = .ok (.iaload, 1) := by decide +kernel
theorem d_Summer_takeRow_11 : decode b_Summer_takeRow 11 = .ok (.invokevirtual 42, 3) := by decide +kernel
theorem d_Summer_takeRow_14 : decode b_Summer_takeRow 14 = .ok (.iinc 3 1, 3) := by decide +kernel
theorem d_Summer_takeRow_17 : decode b_Summer_takeRow 17 = .ok (.goto (-15), 3) := by decide +kernel
theorem d_Summer_takeRow_20 : decode b_Summer_takeRow 20 = .ok (.return_, 1) := by decide +kernel
theorem d_Summer_finish_0 : decode b_Summer_finish 0 = .ok (.ldc2_w 46, 3) := by decide +kernel
theorem d_Summer_finish_3 : decode b_Summer_finish 3 = .ok (.aload_n 0, 1) := by decide +kernel
theorem d_Summer_finish_4 : decode b_Summer_finish 4 = .ok (.getfield 38, 3) := by decide +kernel
theorem d_Summer_finish_7 : decode b_Summer_finish 7 = .ok (.i2l, 1) := by decide +kernel
theorem d_Summer_finish_8 : decode b_Summer_finish 8 = .ok (.lmul, 1) := by decide +kernel
theorem d_Summer_finish_9 : decode b_Summer_finish 9 = .ok (.lstore_n 2, 1) := by decide +kernel
theorem d_Summer_finish_10 : decode b_Summer_finish 10 = .ok (.bipush 55, 2) := by decide +kernel
theorem d_Summer_finish_12 : decode b_Summer_finish 12 = .ok (.aload_n 0, 1) := by decide +kernel
theorem d_Summer_finish_13 : decode b_Summer_finish 13 = .ok (.getfield 38, 3) := by decide +kernel
theorem d_Summer_finish_16 : decode b_Summer_finish 16 = .ok (.isub, 1) := by decide +kernel
theorem d_Summer_finish_17 : decode b_Summer_finish 17 = .ok (.bipush 63, 2) := by decide +kernel
theorem d_Summer_finish_19 : decode b_Summer_finish 19 = .ok (.iand, 1) := by decide +kernel
theorem d_Summer_finish_20 : decode b_Summer_finish 20 = .ok (.istore 4, 2) := by decide +kernel
theorem d_Summer_finish_22 : decode b_Summer_finish 22 = .ok (.aload_n 0, 1) := by decide +kernel
theorem d_Summer_finish_23 : decode b_Summer_finish 23 = .ok (.sipush 128, 3) := by decide +kernel
theorem d_Summer_finish_26 : decode b_Summer_finish 26 = .ok (.invokevirtual 42, 3) := by decide +kernel
theorem d_Summer_finish_29 : decode b_Summer_finish 29 = .ok (.iconst 0, 1) := by decide +kernel
theorem d_Summer_finish_30 : decode b_Summer_finish 30 = .ok (.istore 5, 2) := by decide +kernel
theorem d_Summer_finish_32 : decode b_Summer_finish 32 = .ok (.iload 5, 2) := by decide +kernel
theorem d_Summer_finish_34 : decode b_Summer_finish 34 = .ok (.iload 4, 2) := by decide +kernel
theorem d_Summer_finish_36 : decode b_Summer_finish 36 = .ok (.if_icmp .ge 14, 3) := by decide +kernel
theorem d_Summer_finish_39 : decode b_Summer_finish 39 = .ok (.aload_n 0, 1) := by decide +kernel
theorem d_Summer_finish_40 : decode b_Summer_finish 40 = .ok (.iconst 0, 1) := by decide +kernel
theorem d_Summer_finish_41 : decode b_Summer_finish 41 = .ok (.invokevirtual 42, 3) := by decide +kernel
theorem d_Summer_finish_44 : decode b_Summer_finish 44 = .ok (.iinc 5 1, 3) := by decide +kernel
theorem d_Summer_finish_47 : decode b_Summer_finish 47 = .ok (.goto (-15), 3) := by decide +kernel
theorem d_Summer_finish_50 : decode b_Summer_finish 50 = .ok (.bipush 56, 2) := by decide +kernel
theorem d_Summer_finish_52 : decode b_Summer_finish 52 = .ok (.istore 5, 2) := by decide +kernel
theorem d_Summer_finish_54 : decode b_Summer_finish 54 = .ok (.iload 5, 2) := by decide +kernel
theorem d_Summer_finish_56 : decode b_Summer_finish 56 = .ok (.ifCond .lt 22, 3) := by decide +kernel
theorem d_Summer_finish_59 : decode b_Summer_finish 59 = .ok (.aload_n 0, 1) := by decide +kernel
theorem d_Summer_finish_60 : decode b_Summer_finish 60 = .ok (.lload_n 2, 1) := by decide +kernel
theorem d_Summer_finish_61 : decode b_Summer_finish 61 = .ok (.iload 5, 2) := by decide +kernel
theorem d_Summer_finish_63 : decode b_Summer_finish 63 = .ok (.lushr, 1) := by decide +kernel
theorem d_Summer_finish_64 : decode b_Summer_finish 64 = .ok (.l2i, 1) := by decide +kernel
theorem d_Summer_finish_65 : decode b_Summer_finish 65 = .ok (.sipush 255, 3) := by decide +kernel
theorem d_Summer_finish_68 : decode b_Summer_finish 68 = .ok (.iand, 1) := by decide +kernel
theorem d_Summer_finish_69 : decode b_Summer_finish 69 = .ok (.invokevirtual 42, 3) := by decide +kernel
theorem d_Summer_finish_72 : decode b_Summer_finish 72 = .ok (.iinc 5 (-8), 3) := by decide +kernel
theorem d_Summer_finish_75 : decode b_Summer_finish 75 = .ok (.goto (-21), 3) := by decide +kernel
theorem d_Summer_finish_78 : decode b_Summer_finish 78 = .ok (.iconst 0, 1) := by decide +kernel
theorem d_Summer_finish_79 : decode b_Summer_finish 79 = .ok (.istore 5, 2) := by decide +kernel
theorem d_Summer_finish_81 : decode b_Summer_finish 81 = .ok (.iload 5, 2) := by decide +kernel
theorem d_Summer_finish_83 : decode b_Summer_finish 83 = .ok (.bipush 8, 2) := by decide +kernel
theorem d_Summer_finish_85 : decode b_Summer_finish 85 = .ok (.if_icmp .ge 24, 3) := by decide +kernel
theorem d_Summer_finish_88 : decode b_Summer_finish 88 = .ok (.aload_n 0, 1) := by decide +kernel
theorem d_Summer_finish_89 : decode b_Summer_finish 89 = .ok (.getfield 9, 3) := by decide +kernel
theorem d_Summer_finish_92 : decode b_Summer_finish 92 = .ok (.iload 5, 2) := by decide +kernel
theorem d_Summer_finish_94 : decode b_Summer_finish 94 = .ok (.iaload, 1) := by decide +kernel
theorem d_Summer_finish_95 : decode b_Summer_finish 95 = .ok (.aload_n 1, 1) := by decide +kernel
theorem d_Summer_finish_96 : decode b_Summer_finish 96 = .ok (.iload 5, 2) := by decide +kernel
theorem d_Summer_finish_98 : decode b_Summer_finish 98 = .ok (.iconst 4, 1) := by decide +kernel
theorem d_Summer_finish_99 : decode b_Summer_finish 99 = .ok (.imul, 1) := by decide +kernel
theorem d_Summer_finish_100 : decode b_Summer_finish 100 = .ok (.invokestatic 48, 3) := by decide +kernel
theorem d_Summer_finish_103 : decode b_Summer_finish 103 = .ok (.iinc 5 1, 3) := by decide +kernel
theorem d_Summer_finish_106 : decode b_Summer_finish 106 = .ok (.goto (-25), 3) := by decide +kernel
theorem d_Summer_finish_109 : decode b_Summer_finish 109 = .ok (.return_, 1) := by decide +kernel
theorem d_Summer_take_0 : decode b_Summer_take 0 = .ok (.aload_n 0, 1) := by decide +kernel
theorem d_Summer_take_1 : decode b_Summer_take 1 = .ok (.getfield 38, 3) := by decide +kernel
theorem d_Summer_take_4 : decode b_Summer_take 4 = .ok (.bipush 63, 2) := by decide +kernel
theorem d_Summer_take_6 : decode b_Summer_take 6 = .ok (.iand, 1) := by decide +kernel
theorem d_Summer_take_7 : decode b_Summer_take 7 = .ok (.istore_n 2, 1) := by decide +kernel
theorem d_Summer_take_8 : decode b_Summer_take 8 = .ok (.iload_n 2, 1) := by decide +kernel
theorem d_Summer_take_9 : decode b_Summer_take 9 = .ok (.iconst 4, 1) := by decide +kernel
theorem d_Summer_take_10 : decode b_Summer_take 10 = .ok (.idiv, 1) := by decide +kernel
theorem d_Summer_take_11 : decode b_Summer_take 11 = .ok (.istore_n 3, 1) := by decide +kernel
theorem d_Summer_take_12 : decode b_Summer_take 12 = .ok (.aload_n 0, 1) := by decide +kernel
theorem d_Summer_take_13 : decode b_Summer_take 13 = .ok (.getfield 15, 3) := by decide +kernel
theorem d_Summer_take_16 : decode b_Summer_take 16 = .ok (.iload_n 3, 1) := by decide +kernel
theorem d_Summer_take_17 : decode b_Summer_take 17 = .ok (.aload_n 0, 1) := by decide +kernel
theorem d_Summer_take_18 : decode b_Summer_take 18 = .ok (.getfield 15, 3) := by decide +kernel
theorem d_Summer_take_21 : decode b_Summer_take 21 = .ok (.iload_n 3, 1) := by decide +kernel
theorem d_Summer_take_22 : decode b_Summer_take 22 = .ok (.iaload, 1) := by decide +kernel
theorem d_Summer_take_23 : decode b_Summer_take 23 = .ok (.bipush 8, 2) := by decide +kernel
theorem d_Summer_take_25 : decode b_Summer_take 25 = .ok (.ishl, 1) := by decide +kernel
theorem d_Summer_take_26 : decode b_Summer_take 26 = .ok (.iload_n 1, 1) := by decide +kernel
theorem d_Summer_take_27 : decode b_Summer_take 27 = .ok (.ior, 1) := by decide +kernel
theorem d_Summer_take_28 : decode b_Summer_take 28 = .ok (.iastore, 1) := by decide +kernel
theorem d_Summer_take_29 : decode b_Summer_take 29 = .ok (.aload_n 0, 1) := by decide +kernel
theorem d_Summer_take_30 : decode b_Summer_take 30 = .ok (.dup, 1) := by decide +kernel
theorem d_Summer_take_31 : decode b_Summer_take 31 = .ok (.getfield 38, 3) := by decide +kernel
theorem d_Summer_take_34 : decode b_Summer_take 34 = .ok (.iconst 1, 1) := by decide +kernel
theorem d_Summer_take_35 : decode b_Summer_take 35 = .ok (.iadd, 1) := by decide +kernel
theorem d_Summer_take_36 : decode b_Summer_take 36 = .ok (.putfield 38, 3) := by decide +kernel
theorem d_Summer_take_39 : decode b_Summer_take 39 = .ok (.iload_n 2, 1) := by decide +kernel
theorem d_Summer_take_40 : decode b_Summer_take 40 = .ok (.bipush 63, 2) := by decide +kernel
theorem d_Summer_take_42 : decode b_Summer_take 42 = .ok (.if_icmp .ne 11, 3) := by decide +kernel
theorem d_Summer_take_45 : decode b_Summer_take 45 = .ok (.aload_n 0, 1) := by decide +kernel
theorem d_Summer_take_46 : decode b_Summer_take 46 = .ok (.invokevirtual 52, 3) := by decide +kernel
theorem d_Summer_take_49 : decode b_Summer_take 49 = .ok (.aload_n 0, 1) := by decide +kernel
theorem d_Summer_take_50 : decode b_Summer_take 50 = .ok (.invokevirtual 55, 3) := by decide +kernel
theorem d_Summer_take_53 : decode b_Summer_take 53 = .ok (.return_, 1) := by decide +kernel
theorem d_Summer_spreadWords_0 : decode b_Summer_spreadWords 0 = .ok (.bipush 16, 2) := by decide +kernel
theorem d_Summer_spreadWords_2 : decode b_Summer_spreadWords 2 = .ok (.istore_n 1, 1) := by decide +kernel
theorem d_Summer_spreadWords_3 : decode b_Summer_spreadWords 3 = .ok (.iload_n 1, 1) := by decide +kernel
theorem d_Summer_spreadWords_4 : decode b_Summer_spreadWords 4 = .ok (.bipush 64, 2) := by decide +kernel
theorem d_Summer_spreadWords_6 : decode b_Summer_spreadWords 6 = .ok (.if_icmp .ge 59, 3) := by decide +kernel
theorem d_Summer_spreadWords_9 : decode b_Summer_spreadWords 9 = .ok (.aload_n 0, 1) := by decide +kernel
theorem d_Summer_spreadWords_10 : decode b_Summer_spreadWords 10 = .ok (.getfield 15, 3) := by decide +kernel
theorem d_Summer_spreadWords_13 : decode b_Summer_spreadWords 13 = .ok (.iload_n 1, 1) := by decide +kernel
theorem d_Summer_spreadWords_14 : decode b_Summer_spreadWords 14 = .ok (.aload_n 0, 1) := by decide +kernel
theorem d_Summer_spreadWords_15 : decode b_Summer_spreadWords 15 = .ok (.getfield 15, 3) := by decide +kernel
theorem d_Summer_spreadWords_18 : decode b_Summer_spreadWords 18 = .ok (.iload_n 1, 1) := by decide +kernel
theorem d_Summer_spreadWords_19 : decode b_Summer_spreadWords 19 = .ok (.iconst 2, 1) := by decide +kernel
theorem d_Summer_spreadWords_20 : decode b_Summer_spreadWords 20 = .ok (.isub, 1) := by decide +kernel
theorem d_Summer_spreadWords_21 : decode b_Summer_spreadWords 21 = .ok (.iaload, 1) := by decide +kernel
theorem d_Summer_spreadWords_22 : decode b_Summer_spreadWords 22 = .ok (.invokestatic 58, 3) := by decide +kernel
theorem d_Summer_spreadWords_25 : decode b_Summer_spreadWords 25 = .ok (.aload_n 0, 1) := by decide +kernel
theorem d_Summer_spreadWords_26 : decode b_Summer_spreadWords 26 = .ok (.getfield 15, 3) := by decide +kernel
theorem d_Summer_spreadWords_29 : decode b_Summer_spreadWords 29 = .ok (.iload_n 1, 1) := by decide +kernel
theorem d_Summer_spreadWords_30 : decode b_Summer_spreadWords 30 = .ok (.bipush 7, 2) := by decide +kernel
theorem d_Summer_spreadWords_32 : decode b_Summer_spreadWords 32 = .ok (.isub, 1) := by decide +kernel
theorem d_Summer_spreadWords_33 : decode b_Summer_spreadWords 33 = .ok (.iaload, 1) := by decide +kernel
theorem d_Summer_spreadWords_34 : decode b_Summer_spreadWords 34 = .ok (.iadd, 1) := by decide +kernel
theorem d_Summer_spreadWords_35 : decode b_Summer_spreadWords 35 = .ok (.aload_n 0, 1) := by decide +kernel
theorem d_Summer_spreadWords_36 : decode b_Summer_spreadWords 36 = .ok (.getfield 15, 3) := by decide +kernel
theorem d_Summer_spreadWords_39 : decode b_Summer_spreadWords 39 = .ok (.iload_n 1, 1) := by decide +kernel
theorem d_Summer_spreadWords_40 : decode b_Summer_spreadWords 40 = .ok (.bipush 15, 2) := by decide +kernel
theorem d_Summer_spreadWords_42 : decode b_Summer_spreadWords 42 = .ok (.isub, 1) := by decide +kernel
theorem d_Summer_spreadWords_43 : decode b_Summer_spreadWords 43 = .ok (.iaload, 1) := by decide +kernel
theorem d_Summer_spreadWords_44 : decode b_Summer_spreadWords 44 = .ok (.invokestatic 62, 3) := by decide +kernel
theorem d_Summer_spreadWords_47 : decode b_Summer_spreadWords 47 = .ok (.iadd, 1) := by decide +kernel
theorem d_Summer_spreadWords_48 : decode b_Summer_spreadWords 48 = .ok (.aload_n 0, 1) := by decide +kernel
theorem d_Summer_spreadWords_49 : decode b_Summer_spreadWords 49 = .ok (.getfield 15, 3) := by decide +kernel
theorem d_Summer_spreadWords_52 : decode b_Summer_spreadWords 52 = .ok (.iload_n 1, 1) := by decide +kernel
theorem d_Summer_spreadWords_53 : decode b_Summer_spreadWords 53 = .ok (.bipush 16, 2) := by decide +kernel
theorem d_Summer_spreadWords_55 : decode b_Summer_spreadWords 55 = .ok (.isub, 1) := by decide +kernel
theorem d_Summer_spreadWords_56 : decode b_Summer_spreadWords 56 = .ok (.iaload, 1) := by decide +kernel
theorem d_Summer_spreadWords_57 : decode b_Summer_spreadWords 57 = .ok (.iadd, 1) := by decide +kernel
theorem d_Summer_spreadWords_58 : decode b_Summer_spreadWords 58 = .ok (.iastore, 1) := by decide +kernel
theorem d_Summer_spreadWords_59 : decode b_Summer_spreadWords 59 = .ok (.iinc 1 1, 3) := by decide +kernel
theorem d_Summer_spreadWords_62 : decode b_Summer_spreadWords 62 = .ok (.goto (-59), 3) := by decide +kernel
theorem d_Summer_spreadWords_65 : decode b_Summer_spreadWords 65 = .ok (.return_, 1) := by decide +kernel
theorem d_Summer_mixWords_0 : decode b_Summer_mixWords 0 = .ok (.aload_n 0, 1) := by decide +kernel
theorem d_Summer_mixWords_1 : decode b_Summer_mixWords 1 = .ok (.getfield 9, 3) := by decide +kernel
theorem d_Summer_mixWords_4 : decode b_Summer_mixWords 4 = .ok (.iconst 0, 1) := by decide +kernel
theorem d_Summer_mixWords_5 : decode b_Summer_mixWords 5 = .ok (.iaload, 1) := by decide +kernel
theorem d_Summer_mixWords_6 : decode b_Summer_mixWords 6 = .ok (.istore_n 1, 1) := by decide +kernel
theorem d_Summer_mixWords_7 : decode b_Summer_mixWords 7 = .ok (.aload_n 0, 1) := by decide +kernel
theorem d_Summer_mixWords_8 : decode b_Summer_mixWords 8 = .ok (.getfield 9, 3) := by decide +kernel
theorem d_Summer_mixWords_11 : decode b_Summer_mixWords 11 = .ok (.iconst 1, 1) := by decide +kernel
theorem d_Summer_mixWords_12 : decode b_Summer_mixWords 12 = .ok (.iaload, 1) := by decide +kernel
theorem d_Summer_mixWords_13 : decode b_Summer_mixWords 13 = .ok (.istore_n 2, 1) := by decide +kernel
theorem d_Summer_mixWords_14 : decode b_Summer_mixWords 14 = .ok (.aload_n 0, 1) := by decide +kernel
theorem d_Summer_mixWords_15 : decode b_Summer_mixWords 15 = .ok (.getfield 9, 3) := by decide +kernel
theorem d_Summer_mixWords_18 : decode b_Summer_mixWords 18 = .ok (.iconst 2, 1) := by decide +kernel
theorem d_Summer_mixWords_19 : decode b_Summer_mixWords 19 = .ok (.iaload, 1) := by decide +kernel
theorem d_Summer_mixWords_20 : decode b_Summer_mixWords 20 = .ok (.istore_n 3, 1) := by decide +kernel
theorem d_Summer_mixWords_21 : decode b_Summer_mixWords 21 = .ok (.aload_n 0, 1) := by decide +kernel
theorem d_Summer_mixWords_22 : decode b_Summer_mixWords 22 = .ok (.getfield 9, 3) := by decide +kernel
theorem d_Summer_mixWords_25 : decode b_Summer_mixWords 25 = .ok (.iconst 3, 1) := by decide +kernel
theorem d_Summer_mixWords_26 : decode b_Summer_mixWords 26 = .ok (.iaload, 1) := by decide +kernel
theorem d_Summer_mixWords_27 : decode b_Summer_mixWords 27 = .ok (.istore 4, 2) := by decide +kernel
theorem d_Summer_mixWords_29 : decode b_Summer_mixWords 29 = .ok (.aload_n 0, 1) := by decide +kernel
theorem d_Summer_mixWords_30 : decode b_Summer_mixWords 30 = .ok (.getfield 9, 3) := by decide +kernel
theorem d_Summer_mixWords_33 : decode b_Summer_mixWords 33 = .ok (.iconst 4, 1) := by decide +kernel
theorem d_Summer_mixWords_34 : decode b_Summer_mixWords 34 = .ok (.iaload, 1) := by decide +kernel
theorem d_Summer_mixWords_35 : decode b_Summer_mixWords 35 = .ok (.istore 5, 2) := by decide +kernel
theorem d_Summer_mixWords_37 : decode b_Summer_mixWords 37 = .ok (.aload_n 0, 1) := by decide +kernel
theorem d_Summer_mixWords_38 : decode b_Summer_mixWords 38 = .ok (.getfield 9, 3) := by decide +kernel
theorem d_Summer_mixWords_41 : decode b_Summer_mixWords 41 = .ok (.iconst 5, 1) := by decide +kernel
theorem d_Summer_mixWords_42 : decode b_Summer_mixWords 42 = .ok (.iaload, 1) := by decide +kernel
theorem d_Summer_mixWords_43 : decode b_Summer_mixWords 43 = .ok (.istore 6, 2) := by decide +kernel
theorem d_Summer_mixWords_45 : decode b_Summer_mixWords 45 = .ok (.aload_n 0, 1) := by decide +kernel
theorem d_Summer_mixWords_46 : decode b_Summer_mixWords 46 = .ok (.getfield 9, 3) := by decide +kernel
theorem d_Summer_mixWords_49 : decode b_Summer_mixWords 49 = .ok (.bipush 6, 2) := by decide +kernel
theorem d_Summer_mixWords_51 : decode b_Summer_mixWords 51 = .ok (.iaload, 1) := by decide +kernel
theorem d_Summer_mixWords_52 : decode b_Summer_mixWords 52 = .ok (.istore 7, 2) := by decide +kernel
theorem d_Summer_mixWords_54 : decode b_Summer_mixWords 54 = .ok (.aload_n 0, 1) := by decide +kernel
theorem d_Summer_mixWords_55 : decode b_Summer_mixWords 55 = .ok (.getfield 9, 3) := by decide +kernel
theorem d_Summer_mixWords_58 : decode b_Summer_mixWords 58 = .ok (.bipush 7, 2) := by decide +kernel
theorem d_Summer_mixWords_60 : decode b_Summer_mixWords 60 = .ok (.iaload, 1) := by decide +kernel
theorem d_Summer_mixWords_61 : decode b_Summer_mixWords 61 = .ok (.istore 8, 2) := by decide +kernel
theorem d_Summer_mixWords_63 : decode b_Summer_mixWords 63 = .ok (.iconst 0, 1) := by decide +kernel
theorem d_Summer_mixWords_64 : decode b_Summer_mixWords 64 = .ok (.istore 9, 2) := by decide +kernel
theorem d_Summer_mixWords_66 : decode b_Summer_mixWords 66 = .ok (.iload 9, 2) := by decide +kernel
theorem d_Summer_mixWords_68 : decode b_Summer_mixWords 68 = .ok (.bipush 64, 2) := by decide +kernel
theorem d_Summer_mixWords_70 : decode b_Summer_mixWords 70 = .ok (.if_icmp .ge 98, 3) := by decide +kernel
theorem d_Summer_mixWords_73 : decode b_Summer_mixWords 73 = .ok (.iload 8, 2) := by decide +kernel
theorem d_Summer_mixWords_75 : decode b_Summer_mixWords 75 = .ok (.iload 5, 2) := by decide +kernel
theorem d_Summer_mixWords_77 : decode b_Summer_mixWords 77 = .ok (.invokestatic 65, 3) := by decide +kernel
theorem d_Summer_mixWords_80 : decode b_Summer_mixWords 80 = .ok (.iadd, 1) := by decide +kernel
theorem d_Summer_mixWords_81 : decode b_Summer_mixWords 81 = .ok (.iload 5, 2) := by decide +kernel
theorem d_Summer_mixWords_83 : decode b_Summer_mixWords 83 = .ok (.iload 6, 2) := by decide +kernel
theorem d_Summer_mixWords_85 : decode b_Summer_mixWords 85 = .ok (.iand, 1) := by decide +kernel
theorem d_Summer_mixWords_86 : decode b_Summer_mixWords 86 = .ok (.iload 5, 2) := by decide +kernel
theorem d_Summer_mixWords_88 : decode b_Summer_mixWords 88 = .ok (.iconst (-1), 1) := by decide +kernel
theorem d_Summer_mixWords_89 : decode b_Summer_mixWords 89 = .ok (.ixor, 1) := by decide +kernel
theorem d_Summer_mixWords_90 : decode b_Summer_mixWords 90 = .ok (.iload 7, 2) := by decide +kernel
theorem d_Summer_mixWords_92 : decode b_Summer_mixWords 92 = .ok (.iand, 1) := by decide +kernel
theorem d_Summer_mixWords_93 : decode b_Summer_mixWords 93 = .ok (.ixor, 1) := by decide +kernel
theorem d_Summer_mixWords_94 : decode b_Summer_mixWords 94 = .ok (.iadd, 1) := by decide +kernel
theorem d_Summer_mixWords_95 : decode b_Summer_mixWords 95 = .ok (.getstatic 68, 3) := by decide +kernel
theorem d_Summer_mixWords_98 : decode b_Summer_mixWords 98 = .ok (.iload 9, 2) := by decide +kernel
theorem d_Summer_mixWords_100 : decode b_Summer_mixWords 100 = .ok (.iaload, 1) := by decide +kernel
theorem d_Summer_mixWords_101 : decode b_Summer_mixWords 101 = .ok (.iadd, 1) := by decide +kernel
theorem d_Summer_mixWords_102 : decode b_Summer_mixWords 102 = .ok (.aload_n 0, 1) := by decide +kernel
theorem d_Summer_mixWords_103 : decode b_Summer_mixWords 103 = .ok (.getfield 15, 3) := by decide +kernel
theorem d_Summer_mixWords_106 : decode b_Summer_mixWords 106 = .ok (.iload 9, 2) := by decide +kernel
theorem d_Summer_mixWords_108 : decode b_Summer_mixWords 108 = .ok (.iaload, 1) := by decide +kernel
theorem d_Summer_mixWords_109 : decode b_Summer_mixWords 109 = .ok (.iadd, 1) := by decide +kernel
theorem d_Summer_mixWords_110 : decode b_Summer_mixWords 110 = .ok (.istore 10, 2) := by decide +kernel
theorem d_Summer_mixWords_112 : decode b_Summer_mixWords 112 = .ok (.iload_n 1, 1) := by decide +kernel
theorem d_Summer_mixWords_113 : decode b_Summer_mixWords 113 = .ok (.invokestatic 71, 3) := by decide +kernel
theorem d_Summer_mixWords_116 : decode b_Summer_mixWords 116 = .ok (.iload_n 1, 1) := by decide +kernel
theorem d_Summer_mixWords_117 : decode b_Summer_mixWords 117 = .ok (.iload_n 2, 1) := by decide +kernel
theorem d_Summer_mixWords_118 : decode b_Summer_mixWords 118 = .ok (.iand, 1) := by decide +kernel
theorem d_Summer_mixWords_119 : decode b_Summer_mixWords 119 = .ok (.iload_n 1, 1) := by decide +kernel
theorem d_Summer_mixWords_120 : decode b_Summer_mixWords 120 = .ok (.iload_n 3, 1) := by decide +kernel
theorem d_Summer_mixWords_121 : decode b_Summer_mixWords 121 = .ok (.iand, 1) := by decide +kernel
theorem d_Summer_mixWords_122 : decode b_Summer_mixWords 122 = .ok (.ixor, 1) := by decide +kernel
theorem d_Summer_mixWords_123 : decode b_Summer_mixWords 123 = .ok (.iload_n 2, 1) := by decide +kernel
theorem d_Summer_mixWords_124 : decode b_Summer_mixWords 124 = .ok (.iload_n 3, 1) := by decide +kernel
theorem d_Summer_mixWords_125 : decode b_Summer_mixWords 125 = .ok (.iand, 1) := by decide +kernel
theorem d_Summer_mixWords_126 : decode b_Summer_mixWords 126 = .ok (.ixor, 1) := by decide +kernel
theorem d_Summer_mixWords_127 : decode b_Summer_mixWords 127 = .ok (.iadd, 1) := by decide +kernel
theorem d_Summer_mixWords_128 : decode b_Summer_mixWords 128 = .ok (.istore 11, 2) := by decide +kernel
theorem d_Summer_mixWords_130 : decode b_Summer_mixWords 130 = .ok (.iload 7, 2) := by decide +kernel
theorem d_Summer_mixWords_132 : decode b_Summer_mixWords 132 = .ok (.istore 8, 2) := by decide +kernel
theorem d_Summer_mixWords_134 : decode b_Summer_mixWords 134 = .ok (.iload 6, 2) := by decide +kernel
theorem d_Summer_mixWords_136 : decode b_Summer_mixWords 136 = .ok (.istore 7, 2) := by decide +kernel
theorem d_Summer_mixWords_138 : decode b_Summer_mixWords 138 = .ok (.iload 5, 2) := by decide +kernel
theorem d_Summer_mixWords_140 : decode b_Summer_mixWords 140 = .ok (.istore 6, 2) := by decide +kernel
theorem d_Summer_mixWords_142 : decode b_Summer_mixWords 142 = .ok (.iload 4, 2) := by decide +kernel
theorem d_Summer_mixWords_144 : decode b_Summer_mixWords 144 = .ok (.iload 10, 2) := by decide +kernel
theorem d_Summer_mixWords_146 : decode b_Summer_mixWords 146 = .ok (.iadd, 1) := by decide +kernel
theorem d_Summer_mixWords_147 : decode b_Summer_mixWords 147 = .ok (.istore 5, 2) := by decide +kernel
theorem d_Summer_mixWords_149 : decode b_Summer_mixWords 149 = .ok (.iload_n 3, 1) := by decide +kernel
theorem d_Summer_mixWords_150 : decode b_Summer_mixWords 150 = .ok (.istore 4, 2) := by decide +kernel
theorem d_Summer_mixWords_152 : decode b_Summer_mixWords 152 = .ok (.iload_n 2, 1) := by decide +kernel
theorem d_Summer_mixWords_153 : decode b_Summer_mixWords 153 = .ok (.istore_n 3, 1) := by decide +kernel
theorem d_Summer_mixWords_154 : decode b_Summer_mixWords 154 = .ok (.iload_n 1, 1) := by decide +kernel
theorem d_Summer_mixWords_155 : decode b_Summer_mixWords 155 = .ok (.istore_n 2, 1) := by decide +kernel
theorem d_Summer_mixWords_156 : decode b_Summer_mixWords 156 = .ok (.iload 10, 2) := by decide +kernel
theorem d_Summer_mixWords_158 : decode b_Summer_mixWords 158 = .ok (.iload 11, 2) := by decide +kernel
theorem d_Summer_mixWords_160 : decode b_Summer_mixWords 160 = .ok (.iadd, 1) := by decide +kernel
theorem d_Summer_mixWords_161 : decode b_Summer_mixWords 161 = .ok (.istore_n 1, 1) := by decide +kernel
theorem d_Summer_mixWords_162 : decode b_Summer_mixWords 162 = .ok (.iinc 9 1, 3) := by decide +kernel
theorem d_Summer_mixWords_165 : decode b_Summer_mixWords 165 = .ok (.goto (-99), 3) := by decide +kernel
theorem d_Summer_mixWords_168 : decode b_Summer_mixWords 168 = .ok (.aload_n 0, 1) := by decide +kernel
theorem d_Summer_mixWords_169 : decode b_Summer_mixWords 169 = .ok (.getfield 9, 3) := by decide +kernel
theorem d_Summer_mixWords_172 : decode b_Summer_mixWords 172 = .ok (.iconst 0, 1) := by decide +kernel
theorem d_Summer_mixWords_173 : decode b_Summer_mixWords 173 = .ok (.dup2, 1) := by decide +kernel
theorem d_Summer_mixWords_174 : decode b_Summer_mixWords 174 = .ok (.iaload, 1) := by decide +kernel
theorem d_Summer_mixWords_175 : decode b_Summer_mixWords 175 = .ok (.iload_n 1, 1) := by decide +kernel
theorem d_Summer_mixWords_176 : decode b_Summer_mixWords 176 = .ok (.iadd, 1) := by decide +kernel
theorem d_Summer_mixWords_177 : decode b_Summer_mixWords 177 = .ok (.iastore, 1) := by decide +kernel
theorem d_Summer_mixWords_178 : decode b_Summer_mixWords 178 = .ok (.aload_n 0, 1) := by decide +kernel
theorem d_Summer_mixWords_179 : decode b_Summer_mixWords 179 = .ok (.getfield 9, 3) := by decide +kernel
theorem d_Summer_mixWords_182 : decode b_Summer_mixWords 182 = .ok (.iconst 1, 1) := by decide +kernel
theorem d_Summer_mixWords_183 : decode b_Summer_mixWords 183 = .ok (.dup2, 1) := by decide +kernel
theorem d_Summer_mixWords_184 : decode b_Summer_mixWords 184 = .ok (.iaload, 1) := by decide +kernel
theorem d_Summer_mixWords_185 : decode b_Summer_mixWords 185 = .ok (.iload_n 2, 1) := by decide +kernel
theorem d_Summer_mixWords_186 : decode b_Summer_mixWords 186 = .ok (.iadd, 1) := by decide +kernel
theorem d_Summer_mixWords_187 : decode b_Summer_mixWords 187 = .ok (.iastore, 1) := by decide +kernel
theorem d_Summer_mixWords_188 : decode b_Summer_mixWords 188 = .ok (.aload_n 0, 1) := by decide +kernel
theorem d_Summer_mixWords_189 : decode b_Summer_mixWords 189 = .ok (.getfield 9, 3) := by decide +kernel
theorem d_Summer_mixWords_192 : decode b_Summer_mixWords 192 = .ok (.iconst 2, 1) := by decide +kernel
theorem d_Summer_mixWords_193 : decode b_Summer_mixWords 193 = .ok (.dup2, 1) := by decide +kernel
theorem d_Summer_mixWords_194 : decode b_Summer_mixWords 194 = .ok (.iaload, 1) := by decide +kernel
theorem d_Summer_mixWords_195 : decode b_Summer_mixWords 195 = .ok (.iload_n 3, 1) := by decide +kernel
theorem d_Summer_mixWords_196 : decode b_Summer_mixWords 196 = .ok (.iadd, 1) := by decide +kernel
theorem d_Summer_mixWords_197 : decode b_Summer_mixWords 197 = .ok (.iastore, 1) := by decide +kernel
theorem d_Summer_mixWords_198 : decode b_Summer_mixWords 198 = .ok (.aload_n 0, 1) := by decide +kernel
theorem d_Summer_mixWords_199 : decode b_Summer_mixWords 199 = .ok (.getfield 9, 3) := by decide +kernel
theorem d_Summer_mixWords_202 : decode b_Summer_mixWords 202 = .ok (.iconst 3, 1) := by decide +kernel
theorem d_Summer_mixWords_203 : decode b_Summer_mixWords 203 = .ok (.dup2, 1) := by decide +kernel
theorem d_Summer_mixWords_204 : decode b_Summer_mixWords 204 = .ok (.iaload, 1) := by decide +kernel
theorem d_Summer_mixWords_205 : decode b_Summer_mixWords 205 = .ok (.iload 4, 2) := by decide +kernel
theorem d_Summer_mixWords_207 : decode b_Summer_mixWords 207 = .ok (.iadd, 1) := by decide +kernel
theorem d_Summer_mixWords_208 : decode b_Summer_mixWords 208 = .ok (.iastore, 1) := by decide +kernel
theorem d_Summer_mixWords_209 : decode b_Summer_mixWords 209 = .ok (.aload_n 0, 1) := by decide +kernel
theorem d_Summer_mixWords_210 : decode b_Summer_mixWords 210 = .ok (.getfield 9, 3) := by decide +kernel
theorem d_Summer_mixWords_213 : decode b_Summer_mixWords 213 = .ok (.iconst 4, 1) := by decide +kernel
theorem d_Summer_mixWords_214 : decode b_Summer_mixWords 214 = .ok (.dup2, 1) := by decide +kernel
theorem d_Summer_mixWords_215 : decode b_Summer_mixWords 215 = .ok (.iaload, 1) := by decide +kernel
theorem d_Summer_mixWords_216 : decode b_Summer_mixWords 216 = .ok (.iload 5, 2) := by decide +kernel
theorem d_Summer_mixWords_218 : decode b_Summer_mixWords 218 = .ok (.iadd, 1) := by decide +kernel
theorem d_Summer_mixWords_219 : decode b_Summer_mixWords 219 = .ok (.iastore, 1) := by decide +kernel
theorem d_Summer_mixWords_220 : decode b_Summer_mixWords 220 = .ok (.aload_n 0, 1) := by decide +kernel
theorem d_Summer_mixWords_221 : decode b_Summer_mixWords 221 = .ok (.getfield 9, 3) := by decide +kernel
theorem d_Summer_mixWords_224 : decode b_Summer_mixWords 224 = .ok (.iconst 5, 1) := by decide +kernel
theorem d_Summer_mixWords_225 : decode b_Summer_mixWords 225 = .ok (.dup2, 1) := by decide +kernel
theorem d_Summer_mixWords_226 : decode b_Summer_mixWords 226 = .ok (.iaload, 1) := by decide +kernel
theorem d_Summer_mixWords_227 : decode b_Summer_mixWords 227 = .ok (.iload 6, 2) := by decide +kernel
theorem d_Summer_mixWords_229 : decode b_Summer_mixWords 229 = .ok (.iadd, 1) := by decide +kernel
theorem d_Summer_mixWords_230 : decode b_Summer_mixWords 230 = .ok (.iastore, 1) := by decide +kernel
theorem d_Summer_mixWords_231 : decode b_Summer_mixWords 231 = .ok (.aload_n 0, 1) := by decide +kernel
theorem d_Summer_mixWords_232 : decode b_Summer_mixWords 232 = .ok (.getfield 9, 3) := by decide +kernel
theorem d_Summer_mixWords_235 : decode b_Summer_mixWords 235 = .ok (.bipush 6, 2) := by decide +kernel
theorem d_Summer_mixWords_237 : decode b_Summer_mixWords 237 = .ok (.dup2, 1) := by decide +kernel
theorem d_Summer_mixWords_238 : decode b_Summer_mixWords 238 = .ok (.iaload, 1) := by decide +kernel
theorem d_Summer_mixWords_239 : decode b_Summer_mixWords 239 = .ok (.iload 7, 2) := by decide +kernel
theorem d_Summer_mixWords_241 : decode b_Summer_mixWords 241 = .ok (.iadd, 1) := by decide +kernel
theorem d_Summer_mixWords_242 : decode b_Summer_mixWords 242 = .ok (.iastore, 1) := by decide +kernel
theorem d_Summer_mixWords_243 : decode b_Summer_mixWords 243 = .ok (.aload_n 0, 1) := by decide +kernel
theorem d_Summer_mixWords_244 : decode b_Summer_mixWords 244 = .ok (.getfield 9, 3) := by decide +kernel
theorem d_Summer_mixWords_247 : decode b_Summer_mixWords 247 = .ok (.bipush 7, 2) := by decide +kernel
theorem d_Summer_mixWords_249 : decode b_Summer_mixWords 249 = .ok (.dup2, 1) := by decide +kernel
theorem d_Summer_mixWords_250 : decode b_Summer_mixWords 250 = .ok (.iaload, 1) := by decide +kernel
theorem d_Summer_mixWords_251 : decode b_Summer_mixWords 251 = .ok (.iload 8, 2) := by decide +kernel
theorem d_Summer_mixWords_253 : decode b_Summer_mixWords 253 = .ok (.iadd, 1) := by decide +kernel
theorem d_Summer_mixWords_254 : decode b_Summer_mixWords 254 = .ok (.iastore, 1) := by decide +kernel
theorem d_Summer_mixWords_255 : decode b_Summer_mixWords 255 = .ok (.return_, 1) := by decide +kernel
theorem d_Summer_smallZero_0 : decode b_Summer_smallZero 0 = .ok (.iload_n 0, 1) := by decide +kernel
theorem d_Summer_smallZero_1 : decode b_Summer_smallZero 1 = .ok (.bipush 7, 2) := by decide +kernel
theorem d_Summer_smallZero_3 : decode b_Summer_smallZero 3 = .ok (.invokestatic 74, 3) := by decide +kernel
theorem d_Summer_smallZero_6 : decode b_Summer_smallZero 6 = .ok (.iload_n 0, 1) := by decide +kernel
theorem d_Summer_smallZero_7 : decode b_Summer_smallZero 7 = .ok (.bipush 18, 2) := by decide +kernel
theorem d_Summer_smallZero_9 : decode b_Summer_smallZero 9 = .ok (.invokestatic 74, 3) := by decide +kernel
theorem d_Summer_smallZero_12 : decode b_Summer_smallZero 12 = .ok (.ixor, 1) := by decide +kernel
theorem d_Summer_smallZero_13 : decode b_Summer_smallZero 13 = .ok (.iload_n 0, 1) := by decide +kernel
theorem d_Summer_smallZero_14 : decode b_Summer_smallZero 14 = .ok (.iconst 3, 1) := by decide +kernel
theorem d_Summer_smallZero_15 : decode b_Summer_smallZero 15 = .ok (.iushr, 1) := by decide +kernel
theorem d_Summer_smallZero_16 : decode b_Summer_smallZero 16 = .ok (.ixor, 1) := by decide +kernel
theorem d_Summer_smallZero_17 : decode b_Summer_smallZero 17 = .ok (.ireturn, 1) := by decide +kernel
theorem d_Summer_smallOne_0 : decode b_Summer_smallOne 0 = .ok (.iload_n 0, 1) := by decide +kernel
theorem d_Summer_smallOne_1 : decode b_Summer_smallOne 1 = .ok (.bipush 17, 2) := by decide +kernel
theorem d_Summer_smallOne_3 : decode b_Summer_smallOne 3 = .ok (.invokestatic 74, 3) := by decide +kernel
theorem d_Summer_smallOne_6 : decode b_Summer_smallOne 6 = .ok (.iload_n 0, 1) := by decide +kernel
theorem d_Summer_smallOne_7 : decode b_Summer_smallOne 7 = .ok (.bipush 19, 2) := by decide +kernel
theorem d_Summer_smallOne_9 : decode b_Summer_smallOne 9 = .ok (.invokestatic 74, 3) := by decide +kernel
theorem d_Summer_smallOne_12 : decode b_Summer_smallOne 12 = .ok (.ixor, 1) := by decide +kernel
theorem d_Summer_smallOne_13 : decode b_Summer_smallOne 13 = .ok (.iload_n 0, 1) := by decide +kernel
theorem d_Summer_smallOne_14 : decode b_Summer_smallOne 14 = .ok (.bipush 10, 2) := by decide +kernel
theorem d_Summer_smallOne_16 : decode b_Summer_smallOne 16 = .ok (.iushr, 1) := by decide +kernel
theorem d_Summer_smallOne_17 : decode b_Summer_smallOne 17 = .ok (.ixor, 1) := by decide +kernel
theorem d_Summer_smallOne_18 : decode b_Summer_smallOne 18 = .ok (.ireturn, 1) := by decide +kernel
theorem d_Summer_bigZero_0 : decode b_Summer_bigZero 0 = .ok (.iload_n 0, 1) := by decide +kernel
theorem d_Summer_bigZero_1 : decode b_Summer_bigZero 1 = .ok (.iconst 2, 1) := by decide +kernel
theorem d_Summer_bigZero_2 : decode b_Summer_bigZero 2 = .ok (.invokestatic 74, 3) := by decide +kernel
theorem d_Summer_bigZero_5 : decode b_Summer_bigZero 5 = .ok (.iload_n 0, 1) := by decide +kernel
theorem d_Summer_bigZero_6 : decode b_Summer_bigZero 6 = .ok (.bipush 13, 2) := by decide +kernel
theorem d_Summer_bigZero_8 : decode b_Summer_bigZero 8 = .ok (.invokestatic 74, 3) := by decide +kernel
theorem d_Summer_bigZero_11 : decode b_Summer_bigZero 11 = .ok (.ixor, 1) := by decide +kernel
theorem d_Summer_bigZero_12 : decode b_Summer_bigZero 12 = .ok (.iload_n 0, 1) := by decide +kernel
theorem d_Summer_bigZero_13 : decode b_Summer_bigZero 13 = .ok (.bipush 22, 2) := by decide +kernel
theorem d_Summer_bigZero_15 : decode b_Summer_bigZero 15 = .ok (.invokestatic 74, 3) := by decide +kernel
theorem d_Summer_bigZero_18 : decode b_Summer_bigZero 18 = .ok (.ixor, 1) := by decide +kernel
theorem d_Summer_bigZero_19 : decode b_Summer_bigZero 19 = .ok (.ireturn, 1) := by decide +kernel
theorem d_Summer_bigOne_0 : decode b_Summer_bigOne 0 = .ok (.iload_n 0, 1) := by decide +kernel
theorem d_Summer_bigOne_1 : decode b_Summer_bigOne 1 = .ok (.bipush 6, 2) := by decide +kernel
theorem d_Summer_bigOne_3 : decode b_Summer_bigOne 3 = .ok (.invokestatic 74, 3) := by decide +kernel
theorem d_Summer_bigOne_6 : decode b_Summer_bigOne 6 = .ok (.iload_n 0, 1) := by decide +kernel
theorem d_Summer_bigOne_7 : decode b_Summer_bigOne 7 = .ok (.bipush 11, 2) := by decide +kernel
theorem d_Summer_bigOne_9 : decode b_Summer_bigOne 9 = .ok (.invokestatic 74, 3) := by decide +kernel
theorem d_Summer_bigOne_12 : decode b_Summer_bigOne 12 = .ok (.ixor, 1) := by decide +kernel
theorem d_Summer_bigOne_13 : decode b_Summer_bigOne 13 = .ok (.iload_n 0, 1) := by decide +kernel
theorem d_Summer_bigOne_14 : decode b_Summer_bigOne 14 = .ok (.bipush 25, 2) := by decide +kernel
theorem d_Summer_bigOne_16 : decode b_Summer_bigOne 16 = .ok (.invokestatic 74, 3) := by decide +kernel
theorem d_Summer_bigOne_19 : decode b_Summer_bigOne 19 = .ok (.ixor, 1) := by decide +kernel
theorem d_Summer_bigOne_20 : decode b_Summer_bigOne 20 = .ok (.ireturn, 1) := by decide +kernel
end
section
theorem d_Marker_init_0 : decode b_Marker_init 0 = .ok (.aload_n 0, 1) := by decide +kernel
theorem d_Marker_init_1 : decode b_Marker_init 1 = .ok (.invokespecial 3, 3) := by decide +kernel
theorem d_Marker_init_4 : decode b_Marker_init 4 = .ok (.aload_n 0, 1) := by decide +kernel
theorem d_Marker_init_5 : decode b_Marker_init 5 = .ok (.new 9, 3) := by decide +kernel
theorem d_Marker_init_8 : decode b_Marker_init 8 = .ok (.dup, 1) := by decide +kernel
theorem d_Marker_init_9 : decode b_Marker_init 9 = .ok (.invokespecial 11, 3) := by decide +kernel
theorem d_Marker_init_12 : decode b_Marker_init 12 = .ok (.putfield 12, 3) := by decide +kernel
theorem d_Marker_init_15 : decode b_Marker_init 15 = .ok (.aload_n 0, 1) := by decide +kernel
theorem d_Marker_init_16 : decode b_Marker_init 16 = .ok (.bipush 64, 2) := by decide +kernel
theorem d_Marker_init_18 : decode b_Marker_init 18 = .ok (.newarray .int, 2) := by decide +kernel
theorem d_Marker_init_20 : decode b_Marker_init 20 = .ok (.putfield 18, 3) := by decide +kernel
theorem d_Marker_init_23 : decode b_Marker_init 23 = .ok (.aload_n 0, 1) := by decide +kernel
theorem d_Marker_init_24 : decode b_Marker_init 24 = .ok (.bipush 64, 2) := by decide +kernel
theorem d_Marker_init_26 : decode b_Marker_init 26 = .ok (.newarray .int, 2) := by decide +kernel
theorem d_Marker_init_28 : decode b_Marker_init 28 = .ok (.putfield 22, 3) := by decide +kernel
theorem d_Marker_init_31 : decode b_Marker_init 31 = .ok (.aload_n 0, 1) := by decide +kernel
theorem d_Marker_init_32 : decode b_Marker_init 32 = .ok (.bipush 32, 2) := by decide +kernel
theorem d_Marker_init_34 : decode b_Marker_init 34 = .ok (.newarray .int, 2) := by decide +kernel
theorem d_Marker_init_36 : decode b_Marker_init 36 = .ok (.putfield 25, 3) := by decide +kernel
theorem d_Marker_init_39 : decode b_Marker_init 39 = .ok (.aload_n 0, 1) := by decide +kernel
theorem d_Marker_init_40 : decode b_Marker_init 40 = .ok (.bipush 8, 2) := by decide +kernel
theorem d_Marker_init_42 : decode b_Marker_init 42 = .ok (.newarray .int, 2) := by decide +kernel
theorem d_Marker_init_44 : decode b_Marker_init 44 = .ok (.putfield 28, 3) := by decide +kernel
theorem d_Marker_init_47 : decode b_Marker_init 47 = .ok (.aload_n 0, 1) := by decide +kernel
theorem d_Marker_init_48 : decode b_Marker_init 48 = .ok (.bipush 8, 2) := by decide +kernel
theorem d_Marker_init_50 : decode b_Marker_init 50 = .ok (.newarray .int, 2) := by decide +kernel
theorem d_Marker_init_52 : decode b_Marker_init 52 = .ok (.putfield 31, 3) := by decide +kernel
theorem d_Marker_init_55 : decode b_Marker_init 55 = .ok (.return_, 1) := by decide +kernel
theorem d_Marker_takeKey_0 : decode b_Marker_takeKey 0 = .ok (.aload_n 0, 1) := by decide +kernel
theorem d_Marker_takeKey_1 : decode b_Marker_takeKey 1 = .ok (.getfield 18, 3) := by decide +kernel
theorem d_Marker_takeKey_4 : decode b_Marker_takeKey 4 = .ok (.iconst 0, 1) := by decide +kernel
theorem d_Marker_takeKey_5 : decode b_Marker_takeKey 5 = .ok (.invokestatic 34, 3) := by decide +kernel
theorem d_Marker_takeKey_8 : decode b_Marker_takeKey 8 = .ok (.iload_n 2, 1) := by decide +kernel
theorem d_Marker_takeKey_9 : decode b_Marker_takeKey 9 = .ok (.bipush 64, 2) := by decide +kernel
theorem d_Marker_takeKey_11 : decode b_Marker_takeKey 11 = .ok (.if_icmp .le 19, 3) := by decide +kernel
theorem d_Marker_takeKey_14 : decode b_Marker_takeKey 14 = .ok (.aload_n 0, 1) := by decide +kernel
theorem d_Marker_takeKey_15 : decode b_Marker_takeKey 15 = .ok (.getfield 12, 3) := by decide +kernel
theorem d_Marker_takeKey_18 : decode b_Marker_takeKey 18 = .ok (.aload_n 1, 1) := by decide +kernel
theorem d_Marker_takeKey_19 : decode b_Marker_takeKey 19 = .ok (.iload_n 2, 1) := by decide +kernel
theorem d_Marker_takeKey_20 : decode b_Marker_takeKey 20 = .ok (.aload_n 0, 1) := by decide +kernel
theorem d_Marker_takeKey_21 : decode b_Marker_takeKey 21 = .ok (.getfield 18, 3) := by decide +kernel
theorem d_Marker_takeKey_24 : decode b_Marker_takeKey 24 = .ok (.invokevirtual 40, 3) := by decide +kernel
theorem d_Marker_takeKey_27 : decode b_Marker_takeKey 27 = .ok (.goto 14, 3) := by decide +kernel
theorem d_Marker_takeKey_30 : decode b_Marker_takeKey 30 = .ok (.aload_n 1, 1) := by decide +kernel
theorem d_Marker_takeKey_31 : decode b_Marker_takeKey 31 = .ok (.iconst 0, 1) := by decide +kernel
theorem d_Marker_takeKey_32 : decode b_Marker_takeKey 32 = .ok (.aload_n 0, 1) := by decide +kernel
theorem d_Marker_takeKey_33 : decode b_Marker_takeKey 33 = .ok (.getfield 18, 3) := by decide +kernel
theorem d_Marker_takeKey_36 : decode b_Marker_takeKey 36 = .ok (.iconst 0, 1) := by decide +kernel
theorem d_Marker_takeKey_37 : decode b_Marker_takeKey 37 = .ok (.iload_n 2, 1) := by decide +kernel
theorem d_Marker_takeKey_38 : decode b_Marker_takeKey 38 = .ok (.invokestatic 44, 3) := by decide +kernel
theorem d_Marker_takeKey_41 : decode b_Marker_takeKey 41 = .ok (.aload_n 0, 1) := by decide +kernel
theorem d_Marker_takeKey_42 : decode b_Marker_takeKey 42 = .ok (.bipush 54, 2) := by decide +kernel
theorem d_Marker_takeKey_44 : decode b_Marker_takeKey 44 = .ok (.aload_n 0, 1) := by decide +kernel
theorem d_Marker_takeKey_45 : decode b_Marker_takeKey 45 = .ok (.getfield 28, 3) := by decide +kernel
theorem d_Marker_takeKey_48 : decode b_Marker_takeKey 48 = .ok (.invokevirtual 50, 3) := by decide +kernel
theorem d_Marker_takeKey_51 : decode b_Marker_takeKey 51 = .ok (.aload_n 0, 1) := by decide +kernel
theorem d_Marker_takeKey_52 : decode b_Marker_takeKey 52 = .ok (.bipush 92, 2) := by decide +kernel
theorem d_Marker_takeKey_54 : decode b_Marker_takeKey 54 = .ok (.aload_n 0, 1) := by decide +kernel
theorem d_Marker_takeKey_55 : decode b_Marker_takeKey 55 = .ok (.getfield 31, 3) := by decide +kernel
theorem d_Marker_takeKey_58 : decode b_Marker_takeKey 58 = .ok (.invokevirtual 50, 3) := by decide +kernel
theorem d_Marker_takeKey_61 : decode b_Marker_takeKey 61 = .ok (.return_, 1) := by decide +kernel
theorem d_Marker_writeMark_0 : decode b_Marker_writeMark 0 = .ok (.aload_n 0, 1) := by decide +kernel
theorem d_Marker_writeMark_1 : decode b_Marker_writeMark 1 = .ok (.getfield 12, 3) := by decide +kernel
theorem d_Marker_writeMark_4 : decode b_Marker_writeMark 4 = .ok (.aload_n 0, 1) := by decide +kernel
theorem d_Marker_writeMark_5 : decode b_Marker_writeMark 5 = .ok (.getfield 28, 3) := by decide +kernel
theorem d_Marker_writeMark_8 : decode b_Marker_writeMark 8 = .ok (.invokevirtual 54, 3) := by decide +kernel
theorem d_Marker_writeMark_11 : decode b_Marker_writeMark 11 = .ok (.aload_n 0, 1) := by decide +kernel
theorem d_Marker_writeMark_12 : decode b_Marker_writeMark 12 = .ok (.getfield 12, 3) := by decide +kernel
theorem d_Marker_writeMark_15 : decode b_Marker_writeMark 15 = .ok (.aload_n 1, 1) := by decide +kernel
theorem d_Marker_writeMark_16 : decode b_Marker_writeMark 16 = .ok (.iload_n 2, 1) := by decide +kernel
theorem d_Marker_writeMark_17 : decode b_Marker_writeMark 17 = .ok (.invokevirtual 58, 3) := by decide +kernel
theorem d_Marker_writeMark_20 : decode b_Marker_writeMark 20 = .ok (.aload_n 0, 1) := by decide +kernel
theorem d_Marker_writeMark_21 : decode b_Marker_writeMark 21 = .ok (.getfield 12, 3) := by decide +kernel
theorem d_Marker_writeMark_24 : decode b_Marker_writeMark 24 = .ok (.aload_n 0, 1) := by decide +kernel
theorem d_Marker_writeMark_25 : decode b_Marker_writeMark 25 = .ok (.getfield 25, 3) := by decide +kernel
theorem d_Marker_writeMark_28 : decode b_Marker_writeMark 28 = .ok (.invokevirtual 61, 3) := by decide +kernel
theorem d_Marker_writeMark_31 : decode b_Marker_writeMark 31 = .ok (.aload_n 0, 1) := by decide +kernel
theorem d_Marker_writeMark_32 : decode b_Marker_writeMark 32 = .ok (.getfield 12, 3) := by decide +kernel
theorem d_Marker_writeMark_35 : decode b_Marker_writeMark 35 = .ok (.aload_n 0, 1) := by decide +kernel
theorem d_Marker_writeMark_36 : decode b_Marker_writeMark 36 = .ok (.getfield 31, 3) := by decide +kernel
theorem d_Marker_writeMark_39 : decode b_Marker_writeMark 39 = .ok (.invokevirtual 54, 3) := by decide +kernel
theorem d_Marker_writeMark_42 : decode b_Marker_writeMark 42 = .ok (.aload_n 0, 1) := by decide +kernel
theorem d_Marker_writeMark_43 : decode b_Marker_writeMark 43 = .ok (.getfield 12, 3) := by decide +kernel
theorem d_Marker_writeMark_46 : decode b_Marker_writeMark 46 = .ok (.aload_n 0, 1) := by decide +kernel
theorem d_Marker_writeMark_47 : decode b_Marker_writeMark 47 = .ok (.getfield 25, 3) := by decide +kernel
theorem d_Marker_writeMark_50 : decode b_Marker_writeMark 50 = .ok (.bipush 32, 2) := by decide +kernel
theorem d_Marker_writeMark_52 : decode b_Marker_writeMark 52 = .ok (.invokevirtual 58, 3) := by decide +kernel
theorem d_Marker_writeMark_55 : decode b_Marker_writeMark 55 = .ok (.aload_n 0, 1) := by decide +kernel
theorem d_Marker_writeMark_56 : decode b_Marker_writeMark 56 = .ok (.getfield 12, 3) := by decide +kernel
theorem d_Marker_writeMark_59 : decode b_Marker_writeMark 59 = .ok (.aload_n 3, 1) := by decide +kernel
theorem d_Marker_writeMark_60 : decode b_Marker_writeMark 60 = .ok (.invokevirtual 61, 3) := by decide +kernel
theorem d_Marker_writeMark_63 : decode b_Marker_writeMark 63 = .ok (.return_, 1) := by decide +kernel
theorem d_Marker_keepStateBehindKey_0 : decode b_Marker_keepStateBehindKey 0 = .ok (.iconst 0, 1) := by decide +kernel
theorem d_Marker_keepStateBehindKey_1 : decode b_Marker_keepStateBehindKey 1 = .ok (.istore_n 3, 1) := by decide +kernel
theorem d_Marker_keepStateBehindKey_2 : decode b_Marker_keepStateBehindKey 2 = .ok (.iload_n 3, 1) := by decide +kernel
theorem d_Marker_keepStateBehindKey_3 : decode b_Marker_keepStateBehindKey 3 = .ok (.bipush 64, 2) := by decide +kernel
theorem d_Marker_keepStateBehindKey_5 : decode b_Marker_keepStateBehindKey 5 = .ok (.if_icmp .ge 23, 3) := by decide +kernel
theorem d_Marker_keepStateBehindKey_8 : decode b_Marker_keepStateBehindKey 8 = .ok (.aload_n 0, 1) := by decide +kernel
theorem d_Marker_keepStateBehindKey_9 : decode b_Marker_keepStateBehindKey 9 = .ok (.getfield 22, 3) := by decide +kernel
theorem d_Marker_keepStateBehindKey_12 : decode b_Marker_keepStateBehindKey 12 = .ok (.iload_n 3, 1) := by decide +kernel
theorem d_Marker_keepStateBehindKey_13 : decode b_Marker_keepStateBehindKey 13 = .ok (.aload_n 0, 1) := by decide +kernel
theorem d_Marker_keepStateBehindKey_14 : decode b_Marker_keepStateBehindKey 14 = .ok (.getfield 18, 3) := by decide +kernel
theorem d_Marker_keepStateBehindKey_17 : decode b_Marker_keepStateBehindKey 17 = .ok (.iload_n 3, 1) := by decide +kernel
theorem d_Marker_keepStateBehindKey_18 : decode b_Marker_keepStateBehindKey 18 = .ok (.iaload, 1) := by decide +kernel
theorem d_Marker_keepStateBehindKey_19 : decode b_Marker_keepStateBehindKey 19 = .ok (.iload_n 1, 1) := by decide +kernel
theorem d_Marker_keepStateBehindKey_20 : decode b_Marker_keepStateBehindKey 20 = .ok (.ixor, 1) := by decide +kernel
theorem d_Marker_keepStateBehindKey_21 : decode b_Marker_keepStateBehindKey 21 = .ok (.iastore, 1) := by decide +kernel
theorem d_Marker_keepStateBehindKey_22 : decode b_Marker_keepStateBehindKey 22 = .ok (.iinc 3 1, 3) := by decide +kernel
theorem d_Marker_keepStateBehindKey_25 : decode b_Marker_keepStateBehindKey 25 = .ok (.goto (-23), 3) := by decide +kernel
theorem d_Marker_keepStateBehindKey_28 : decode b_Marker_keepStateBehindKey 28 = .ok (.aload_n 0, 1) := by decide +kernel
theorem d_Marker_keepStateBehindKey_29 : decode b_Marker_keepStateBehindKey 29 = .ok (.getfield 12, 3) := by decide +kernel
theorem d_Marker_keepStateBehindKey_32 : decode b_Marker_keepStateBehindKey 32 = .ok (.invokevirtual 64, 3) := by decide +kernel
theorem d_Marker_keepStateBehindKey_35 : decode b_Marker_keepStateBehindKey 35 = .ok (.aload_n 0, 1) := by decide +kernel
theorem d_Marker_keepStateBehindKey_36 : decode b_Marker_keepStateBehindKey 36 = .ok (.getfield 12, 3) := by decide +kernel
theorem d_Marker_keepStateBehindKey_39 : decode b_Marker_keepStateBehindKey 39 = .ok (.aload_n 0, 1) := by decide +kernel
theorem d_Marker_keepStateBehindKey_40 : decode b_Marker_keepStateBehindKey 40 = .ok (.getfield 22, 3) := by decide +kernel
theorem d_Marker_keepStateBehindKey_43 : decode b_Marker_keepStateBehindKey 43 = .ok (.bipush 64, 2) := by decide +kernel
theorem d_Marker_keepStateBehindKey_45 : decode b_Marker_keepStateBehindKey 45 = .ok (.invokevirtual 58, 3) := by decide +kernel
theorem d_Marker_keepStateBehindKey_48 : decode b_Marker_keepStateBehindKey 48 = .ok (.aload_n 0, 1) := by decide +kernel
theorem d_Marker_keepStateBehindKey_49 : decode b_Marker_keepStateBehindKey 49 = .ok (.getfield 12, 3) := by decide +kernel
theorem d_Marker_keepStateBehindKey_52 : decode b_Marker_keepStateBehindKey 52 = .ok (.aload_n 2, 1) := by decide +kernel
theorem d_Marker_keepStateBehindKey_53 : decode b_Marker_keepStateBehindKey 53 = .ok (.invokevirtual 67, 3) := by decide +kernel
theorem d_Marker_keepStateBehindKey_56 : decode b_Marker_keepStateBehindKey 56 = .ok (.return_, 1) := by decide +kernel
end
section
theorem d_KeyMaker_init_0 : decode b_KeyMaker_init 0 = .ok (.aload_n 0, 1) := by decide +kernel
theorem d_KeyMaker_init_1 : decode b_KeyMaker_init 1 = .ok (.invokespecial 1, 3) := by decide +kernel
theorem d_KeyMaker_init_4 : decode b_KeyMaker_init 4 = .ok (.aload_n 0, 1) := by decide +kernel
theorem d_KeyMaker_init_5 : decode b_KeyMaker_init 5 = .ok (.sipush 150, 3) := by decide +kernel
theorem d_KeyMaker_init_8 : decode b_KeyMaker_init 8 = .ok (.newarray .int, 2) := by decide +kernel
theorem d_KeyMaker_init_10 : decode b_KeyMaker_init 10 = .ok (.putfield 9, 3) := by decide +kernel
theorem d_KeyMaker_init_13 : decode b_KeyMaker_init 13 = .ok (.aload_n 0, 1) := by decide +kernel
theorem d_KeyMaker_init_14 : decode b_KeyMaker_init 14 = .ok (.bipush 84, 2) := by decide +kernel
theorem d_KeyMaker_init_16 : decode b_KeyMaker_init 16 = .ok (.newarray .int, 2) := by decide +kernel
theorem d_KeyMaker_init_18 : decode b_KeyMaker_init 18 = .ok (.putfield 13, 3) := by decide +kernel
theorem d_KeyMaker_init_21 : decode b_KeyMaker_init 21 = .ok (.aload_n 0, 1) := by decide +kernel
theorem d_KeyMaker_init_22 : decode b_KeyMaker_init 22 = .ok (.sipush 128, 3) := by decide +kernel
theorem d_KeyMaker_init_25 : decode b_KeyMaker_init 25 = .ok (.newarray .int, 2) := by decide +kernel
theorem d_KeyMaker_init_27 : decode b_KeyMaker_init 27 = .ok (.putfield 16, 3) := by decide +kernel
theorem d_KeyMaker_init_30 : decode b_KeyMaker_init 30 = .ok (.aload_n 0, 1) := by decide +kernel
theorem d_KeyMaker_init_31 : decode b_KeyMaker_init 31 = .ok (.bipush 32, 2) := by decide +kernel
theorem d_KeyMaker_init_33 : decode b_KeyMaker_init 33 = .ok (.newarray .int, 2) := by decide +kernel
theorem d_KeyMaker_init_35 : decode b_KeyMaker_init 35 = .ok (.putfield 19, 3) := by decide +kernel
theorem d_KeyMaker_init_38 : decode b_KeyMaker_init 38 = .ok (.aload_n 0, 1) := by decide +kernel
theorem d_KeyMaker_init_39 : decode b_KeyMaker_init 39 = .ok (.bipush 32, 2) := by decide +kernel
theorem d_KeyMaker_init_41 : decode b_KeyMaker_init 41 = .ok (.newarray .int, 2) := by decide +kernel
theorem d_KeyMaker_init_43 : decode b_KeyMaker_init 43 = .ok (.putfield 22, 3) := by decide +kernel
theorem d_KeyMaker_init_46 : decode b_KeyMaker_init 46 = .ok (.aload_n 0, 1) := by decide +kernel
theorem d_KeyMaker_init_47 : decode b_KeyMaker_init 47 = .ok (.new 25, 3) := by decide +kernel
theorem d_KeyMaker_init_50 : decode b_KeyMaker_init 50 = .ok (.dup, 1) := by decide +kernel
theorem d_KeyMaker_init_51 : decode b_KeyMaker_init 51 = .ok (.invokespecial 27, 3) := by decide +kernel
theorem d_KeyMaker_init_54 : decode b_KeyMaker_init 54 = .ok (.putfield 28, 3) := by decide +kernel
theorem d_KeyMaker_init_57 : decode b_KeyMaker_init 57 = .ok (.aload_n 0, 1) := by decide +kernel
theorem d_KeyMaker_init_58 : decode b_KeyMaker_init 58 = .ok (.new 32, 3) := by decide +kernel
theorem d_KeyMaker_init_61 : decode b_KeyMaker_init 61 = .ok (.dup, 1) := by decide +kernel
theorem d_KeyMaker_init_62 : decode b_KeyMaker_init 62 = .ok (.invokespecial 34, 3) := by decide +kernel
theorem d_KeyMaker_init_65 : decode b_KeyMaker_init 65 = .ok (.putfield 35, 3) := by decide +kernel
theorem d_KeyMaker_init_68 : decode b_KeyMaker_init 68 = .ok (.aload_n 0, 1) := by decide +kernel
theorem d_KeyMaker_init_69 : decode b_KeyMaker_init 69 = .ok (.invokevirtual 39, 3) := by decide +kernel
theorem d_KeyMaker_init_72 : decode b_KeyMaker_init 72 = .ok (.return_, 1) := by decide +kernel
theorem d_KeyMaker_password_0 : decode b_KeyMaker_password 0 = .ok (.iload_n 1, 1) := by decide +kernel
theorem d_KeyMaker_password_1 : decode b_KeyMaker_password 1 = .ok (.invokestatic 42, 3) := by decide +kernel
theorem d_KeyMaker_password_4 : decode b_KeyMaker_password 4 = .ok (.ifCond .eq 20, 3) := by decide +kernel
theorem d_KeyMaker_password_7 : decode b_KeyMaker_password 7 = .ok (.aload_n 0, 1) := by decide +kernel
theorem d_KeyMaker_password_8 : decode b_KeyMaker_password 8 = .ok (.invokevirtual 46, 3) := by decide +kernel
theorem d_KeyMaker_password_11 : decode b_KeyMaker_password 11 = .ok (.ifCond .ne 13, 3) := by decide +kernel
theorem d_KeyMaker_password_14 : decode b_KeyMaker_password 14 = .ok (.aload_n 0, 1) := by decide +kernel
theorem d_KeyMaker_password_15 : decode b_KeyMaker_password 15 = .ok (.getfield 50, 3) := by decide +kernel
theorem d_KeyMaker_password_18 : decode b_KeyMaker_password 18 = .ok (.sipush 150, 3) := by decide +kernel
theorem d_KeyMaker_password_21 : decode b_KeyMaker_password 21 = .ok (.if_icmp .lt 5, 3) := by decide +kernel
theorem d_KeyMaker_password_24 : decode b_KeyMaker_password 24 = .ok (.iconst 0, 1) := by decide +kernel
theorem d_KeyMaker_password_25 : decode b_KeyMaker_password 25 = .ok (.ireturn, 1) := by decide +kernel
theorem d_KeyMaker_password_26 : decode b_KeyMaker_password 26 = .ok (.aload_n 0, 1) := by decide +kernel
theorem d_KeyMaker_password_27 : decode b_KeyMaker_password 27 = .ok (.getfield 9, 3) := by decide +kernel
theorem d_KeyMaker_password_30 : decode b_KeyMaker_password 30 = .ok (.aload_n 0, 1) := by decide +kernel
theorem d_KeyMaker_password_31 : decode b_KeyMaker_password 31 = .ok (.getfield 50, 3) := by decide +kernel
theorem d_KeyMaker_password_34 : decode b_KeyMaker_password 34 = .ok (.iload_n 1, 1) := by decide +kernel
theorem d_KeyMaker_password_35 : decode b_KeyMaker_password 35 = .ok (.iastore, 1) := by decide +kernel
theorem d_KeyMaker_password_36 : decode b_KeyMaker_password 36 = .ok (.aload_n 0, 1) := by decide +kernel
theorem d_KeyMaker_password_37 : decode b_KeyMaker_password 37 = .ok (.dup, 1) := by decide +kernel
theorem d_KeyMaker_password_38 : decode b_KeyMaker_password 38 = .ok (.getfield 50, 3) := by decide +kernel
theorem d_KeyMaker_password_41 : decode b_KeyMaker_password 41 = .ok (.iconst 1, 1) := by decide +kernel
theorem d_KeyMaker_password_42 : decode b_KeyMaker_password 42 = .ok (.iadd, 1) := by decide +kernel
theorem d_KeyMaker_password_43 : decode b_KeyMaker_password 43 = .ok (.putfield 50, 3) := by decide +kernel
theorem d_KeyMaker_password_46 : decode b_KeyMaker_password 46 = .ok (.iconst 1, 1) := by decide +kernel
theorem d_KeyMaker_password_47 : decode b_KeyMaker_password 47 = .ok (.ireturn, 1) := by decide +kernel
theorem d_KeyMaker_four_0 : decode b_KeyMaker_four 0 = .ok (.aload_n 0, 1) := by decide +kernel
theorem d_KeyMaker_four_1 : decode b_KeyMaker_four 1 = .ok (.invokevirtual 46, 3) := by decide +kernel
theorem d_KeyMaker_four_4 : decode b_KeyMaker_four 4 = .ok (.ifCond .ne 15, 3) := by decide +kernel
theorem d_KeyMaker_four_7 : decode b_KeyMaker_four 7 = .ok (.aload_n 0, 1) := by decide +kernel
theorem d_KeyMaker_four_8 : decode b_KeyMaker_four 8 = .ok (.getfield 50, 3) := by decide +kernel
theorem d_KeyMaker_four_11 : decode b_KeyMaker_four 11 = .ok (.iconst 4, 1) := by decide +kernel
theorem d_KeyMaker_four_12 : decode b_KeyMaker_four 12 = .ok (.iadd, 1) := by decide +kernel
theorem d_KeyMaker_four_13 : decode b_KeyMaker_four 13 = .ok (.sipush 150, 3) := by decide +kernel
theorem d_KeyMaker_four_16 : decode b_KeyMaker_four 16 = .ok (.if_icmp .le 5, 3) := by decide +kernel
theorem d_KeyMaker_four_19 : decode b_KeyMaker_four 19 = .ok (.iconst 0, 1) := by decide +kernel
theorem d_KeyMaker_four_20 : decode b_KeyMaker_four 20 = .ok (.ireturn, 1) := by decide +kernel
theorem d_KeyMaker_four_21 : decode b_KeyMaker_four 21 = .ok (.iload_n 1, 1) := by decide +kernel
theorem d_KeyMaker_four_22 : decode b_KeyMaker_four 22 = .ok (.aload_n 0, 1) := by decide +kernel
theorem d_KeyMaker_four_23 : decode b_KeyMaker_four 23 = .ok (.getfield 9, 3) := by decide +kernel
theorem d_KeyMaker_four_26 : decode b_KeyMaker_four 26 = .ok (.aload_n 0, 1) := by decide +kernel
theorem d_KeyMaker_four_27 : decode b_KeyMaker_four 27 = .ok (.getfield 50, 3) := by decide +kernel
theorem d_KeyMaker_four_30 : decode b_KeyMaker_four 30 = .ok (.invokestatic 54, 3) := by decide +kernel
theorem d_KeyMaker_four_33 : decode b_KeyMaker_four 33 = .ok (.aload_n 0, 1) := by decide +kernel
theorem d_KeyMaker_four_34 : decode b_KeyMaker_four 34 = .ok (.dup, 1) := by decide +kernel
theorem d_KeyMaker_four_35 : decode b_KeyMaker_four 35 = .ok (.getfield 50, 3) := by decide +kernel
theorem d_KeyMaker_four_38 : decode b_KeyMaker_four 38 = .ok (.iconst 4, 1) := by decide +kernel
theorem d_KeyMaker_four_39 : decode b_KeyMaker_four 39 = .ok (.iadd, 1) := by decide +kernel
theorem d_KeyMaker_four_40 : decode b_KeyMaker_four 40 = .ok (.putfield 50, 3) := by decide +kernel
theorem d_KeyMaker_four_43 : decode b_KeyMaker_four 43 = .ok (.iconst 1, 1) := by decide +kernel
theorem d_KeyMaker_four_44 : decode b_KeyMaker_four 44 = .ok (.ireturn, 1) := by decide +kernel
theorem d_KeyMaker_salt_0 : decode b_KeyMaker_salt 0 = .ok (.iload_n 1, 1) := by decide +kernel
theorem d_KeyMaker_salt_1 : decode b_KeyMaker_salt 1 = .ok (.invokestatic 42, 3) := by decide +kernel
theorem d_KeyMaker_salt_4 : decode b_KeyMaker_salt 4 = .ok (.ifCond .eq 19, 3) := by decide +kernel
theorem d_KeyMaker_salt_7 : decode b_KeyMaker_salt 7 = .ok (.aload_n 0, 1) := by decide +kernel
theorem d_KeyMaker_salt_8 : decode b_KeyMaker_salt 8 = .ok (.invokevirtual 46, 3) := by decide +kernel
theorem d_KeyMaker_salt_11 : decode b_KeyMaker_salt 11 = .ok (.ifCond .ne 12, 3) := by decide +kernel
theorem d_KeyMaker_salt_14 : decode b_KeyMaker_salt 14 = .ok (.aload_n 0, 1) := by decide +kernel
theorem d_KeyMaker_salt_15 : decode b_KeyMaker_salt 15 = .ok (.getfield 58, 3) := by decide +kernel
theorem d_KeyMaker_salt_18 : decode b_KeyMaker_salt 18 = .ok (.bipush 80, 2) := by decide +kernel
theorem d_KeyMaker_salt_20 : decode b_KeyMaker_salt 20 = .ok (.if_icmp .lt 5, 3) := by decide +kernel
theorem d_KeyMaker_salt_23 : decode b_KeyMaker_salt 23 = .ok (.iconst 0, 1) := by decide +kernel
theorem d_KeyMaker_salt_24 : decode b_KeyMaker_salt 24 = .ok (.ireturn, 1) := by decide +kernel
theorem d_KeyMaker_salt_25 : decode b_KeyMaker_salt 25 = .ok (.aload_n 0, 1) := by decide +kernel
theorem d_KeyMaker_salt_26 : decode b_KeyMaker_salt 26 = .ok (.getfield 13, 3) := by decide +kernel
theorem d_KeyMaker_salt_29 : decode b_KeyMaker_salt 29 = .ok (.aload_n 0, 1) := by decide +kernel
theorem d_KeyMaker_salt_30 : decode b_KeyMaker_salt 30 = .ok (.getfield 58, 3) := by decide +kernel
theorem d_KeyMaker_salt_33 : decode b_KeyMaker_salt 33 = .ok (.iload_n 1, 1) := by decide +kernel
theorem d_KeyMaker_salt_34 : decode b_KeyMaker_salt 34 = .ok (.iastore, 1) := by decide +kernel
theorem d_KeyMaker_salt_35 : decode b_KeyMaker_salt 35 = .ok (.aload_n 0, 1) := by decide +kernel
theorem d_KeyMaker_salt_36 : decode b_KeyMaker_salt 36 = .ok (.dup, 1) := by decide +kernel
theorem d_KeyMaker_salt_37 : decode b_KeyMaker_salt 37 = .ok (.getfield 58, 3) := by decide +kernel
theorem d_KeyMaker_salt_40 : decode b_KeyMaker_salt 40 = .ok (.iconst 1, 1) := by decide +kernel
theorem d_KeyMaker_salt_41 : decode b_KeyMaker_salt 41 = .ok (.iadd, 1) := by decide +kernel
theorem d_KeyMaker_salt_42 : decode b_KeyMaker_salt 42 = .ok (.putfield 58, 3) := by decide +kernel
theorem d_KeyMaker_salt_45 : decode b_KeyMaker_salt 45 = .ok (.iconst 1, 1) := by decide +kernel
theorem d_KeyMaker_salt_46 : decode b_KeyMaker_salt 46 = .ok (.ireturn, 1) := by decide +kernel
theorem d_KeyMaker_start_0 : decode b_KeyMaker_start 0 = .ok (.aload_n 0, 1) := by decide +kernel
theorem d_KeyMaker_start_1 : decode b_KeyMaker_start 1 = .ok (.invokevirtual 46, 3) := by decide +kernel
theorem d_KeyMaker_start_4 : decode b_KeyMaker_start 4 = .ok (.ifCond .ne 26, 3) := by decide +kernel
theorem d_KeyMaker_start_7 : decode b_KeyMaker_start 7 = .ok (.iload_n 1, 1) := by decide +kernel
theorem d_KeyMaker_start_8 : decode b_KeyMaker_start 8 = .ok (.iconst 1, 1) := by decide +kernel
theorem d_KeyMaker_start_9 : decode b_KeyMaker_start 9 = .ok (.if_icmp .lt 21, 3) := by decide +kernel
theorem d_KeyMaker_start_12 : decode b_KeyMaker_start 12 = .ok (.iload_n 1, 1) := by decide +kernel
theorem d_KeyMaker_start_13 : decode b_KeyMaker_start 13 = .ok (.sipush 1000, 3) := by decide +kernel
theorem d_KeyMaker_start_16 : decode b_KeyMaker_start 16 = .ok (.if_icmp .gt 14, 3) := by decide +kernel
theorem d_KeyMaker_start_19 : decode b_KeyMaker_start 19 = .ok (.iload_n 2, 1) := by decide +kernel
theorem d_KeyMaker_start_20 : decode b_KeyMaker_start 20 = .ok (.iconst 1, 1) := by decide +kernel
theorem d_KeyMaker_start_21 : decode b_KeyMaker_start 21 = .ok (.if_icmp .lt 9, 3) := by decide +kernel
theorem d_KeyMaker_start_24 : decode b_KeyMaker_start 24 = .ok (.iload_n 2, 1) := by decide +kernel
theorem d_KeyMaker_start_25 : decode b_KeyMaker_start 25 = .ok (.bipush 100, 2) := by decide +kernel
theorem d_KeyMaker_start_27 : decode b_KeyMaker_start 27 = .ok (.if_icmp .le 5, 3) := by decide +kernel
theorem d_KeyMaker_start_30 : decode b_KeyMaker_start 30 = .ok (.iconst (-1), 1) := by decide +kernel
theorem d_KeyMaker_start_31 : decode b_KeyMaker_start 31 = .ok (.ireturn, 1) := by decide +kernel
theorem d_KeyMaker_start_32 : decode b_KeyMaker_start 32 = .ok (.aload_n 0, 1) := by decide +kernel
theorem d_KeyMaker_start_33 : decode b_KeyMaker_start 33 = .ok (.iload_n 2, 1) := by decide +kernel
theorem d_KeyMaker_start_34 : decode b_KeyMaker_start 34 = .ok (.putfield 61, 3) := by decide +kernel
theorem d_KeyMaker_start_37 : decode b_KeyMaker_start 37 = .ok (.aload_n 0, 1) := by decide +kernel
theorem d_KeyMaker_start_38 : decode b_KeyMaker_start 38 = .ok (.iload_n 1, 1) := by decide +kernel
theorem d_KeyMaker_start_39 : decode b_KeyMaker_start 39 = .ok (.putfield 64, 3) := by decide +kernel
theorem d_KeyMaker_start_42 : decode b_KeyMaker_start 42 = .ok (.aload_n 0, 1) := by decide +kernel
theorem d_KeyMaker_start_43 : decode b_KeyMaker_start 43 = .ok (.getfield 16, 3) := by decide +kernel
theorem d_KeyMaker_start_46 : decode b_KeyMaker_start 46 = .ok (.iconst 0, 1) := by decide +kernel
theorem d_KeyMaker_start_47 : decode b_KeyMaker_start 47 = .ok (.invokestatic 67, 3) := by decide +kernel
theorem d_KeyMaker_start_50 : decode b_KeyMaker_start 50 = .ok (.aload_n 0, 1) := by decide +kernel
theorem d_KeyMaker_start_51 : decode b_KeyMaker_start 51 = .ok (.getfield 35, 3) := by decide +kernel
theorem d_KeyMaker_start_54 : decode b_KeyMaker_start 54 = .ok (.aload_n 0, 1) := by decide +kernel
theorem d_KeyMaker_start_55 : decode b_KeyMaker_start 55 = .ok (.getfield 9, 3) := by decide +kernel
theorem d_KeyMaker_start_58 : decode b_KeyMaker_start 58 = .ok (.aload_n 0, 1) := by decide +kernel
theorem d_KeyMaker_start_59 : decode b_KeyMaker_start 59 = .ok (.getfield 50, 3) := by decide +kernel
theorem d_KeyMaker_start_62 : decode b_KeyMaker_start 62 = .ok (.invokevirtual 73, 3) := by decide +kernel
theorem d_KeyMaker_start_65 : decode b_KeyMaker_start 65 = .ok (.aload_n 0, 1) := by decide +kernel
theorem d_KeyMaker_start_66 : decode b_KeyMaker_start 66 = .ok (.invokevirtual 76, 3) := by decide +kernel
theorem d_KeyMaker_start_69 : decode b_KeyMaker_start 69 = .ok (.ireturn, 1) := by decide +kernel
theorem d_KeyMaker_step_0 : decode b_KeyMaker_step 0 = .ok (.aload_n 0, 1) := by decide +kernel
theorem d_KeyMaker_step_1 : decode b_KeyMaker_step 1 = .ok (.invokevirtual 76, 3) := by decide +kernel
theorem d_KeyMaker_step_4 : decode b_KeyMaker_step 4 = .ok (.ifCond .gt 5, 3) := by decide +kernel
theorem d_KeyMaker_step_7 : decode b_KeyMaker_step 7 = .ok (.iconst (-1), 1) := by decide +kernel
theorem d_KeyMaker_step_8 : decode b_KeyMaker_step 8 = .ok (.ireturn, 1) := by decide +kernel
theorem d_KeyMaker_step_9 : decode b_KeyMaker_step 9 = .ok (.aload_n 0, 1) := by decide +kernel
theorem d_KeyMaker_step_10 : decode b_KeyMaker_step 10 = .ok (.invokevirtual 80, 3) := by decide +kernel
theorem d_KeyMaker_step_13 : decode b_KeyMaker_step 13 = .ok (.aload_n 0, 1) := by decide +kernel
theorem d_KeyMaker_step_14 : decode b_KeyMaker_step 14 = .ok (.invokevirtual 76, 3) := by decide +kernel
theorem d_KeyMaker_step_17 : decode b_KeyMaker_step 17 = .ok (.ireturn, 1) := by decide +kernel
theorem d_KeyMaker_run_0 : decode b_KeyMaker_run 0 = .ok (.aload_n 0, 1) := by decide +kernel
theorem d_KeyMaker_run_1 : decode b_KeyMaker_run 1 = .ok (.invokevirtual 46, 3) := by decide +kernel
theorem d_KeyMaker_run_4 : decode b_KeyMaker_run 4 = .ok (.ifCond .eq 7, 3) := by decide +kernel
theorem d_KeyMaker_run_7 : decode b_KeyMaker_run 7 = .ok (.iload_n 1, 1) := by decide +kernel
theorem d_KeyMaker_run_8 : decode b_KeyMaker_run 8 = .ok (.ifCond .ge 5, 3) := by decide +kernel
theorem d_KeyMaker_run_11 : decode b_KeyMaker_run 11 = .ok (.iconst (-1), 1) := by decide +kernel
theorem d_KeyMaker_run_12 : decode b_KeyMaker_run 12 = .ok (.ireturn, 1) := by decide +kernel
theorem d_KeyMaker_run_13 : decode b_KeyMaker_run 13 = .ok (.iload_n 1, 1) := by decide +kernel
theorem d_KeyMaker_run_14 : decode b_KeyMaker_run 14 = .ok (.aload_n 0, 1) := by decide +kernel
theorem d_KeyMaker_run_15 : decode b_KeyMaker_run 15 = .ok (.invokevirtual 76, 3) := by decide +kernel
theorem d_KeyMaker_run_18 : decode b_KeyMaker_run 18 = .ok (.invokestatic 83, 3) := by decide +kernel
theorem d_KeyMaker_run_21 : decode b_KeyMaker_run 21 = .ok (.istore_n 2, 1) := by decide +kernel
theorem d_KeyMaker_run_22 : decode b_KeyMaker_run 22 = .ok (.iconst 0, 1) := by decide +kernel
theorem d_KeyMaker_run_23 : decode b_KeyMaker_run 23 = .ok (.istore_n 3, 1) := by decide +kernel
theorem d_KeyMaker_run_24 : decode b_KeyMaker_run 24 = .ok (.iload_n 3, 1) := by decide +kernel
theorem d_KeyMaker_run_25 : decode b_KeyMaker_run 25 = .ok (.iload_n 2, 1) := by decide +kernel
theorem d_KeyMaker_run_26 : decode b_KeyMaker_run 26 = .ok (.if_icmp .ge 13, 3) := by decide +kernel
theorem d_KeyMaker_run_29 : decode b_KeyMaker_run 29 = .ok (.aload_n 0, 1) := by decide +kernel
theorem d_KeyMaker_run_30 : decode b_KeyMaker_run 30 = .ok (.invokevirtual 80, 3) := by decide +kernel
theorem d_KeyMaker_run_33 : decode b_KeyMaker_run 33 = .ok (.iinc 3 1, 3) := by decide +kernel
theorem d_KeyMaker_run_36 : decode b_KeyMaker_run 36 = .ok (.goto (-12), 3) := by decide +kernel
theorem d_KeyMaker_run_39 : decode b_KeyMaker_run 39 = .ok (.iload_n 2, 1) := by decide +kernel
theorem d_KeyMaker_run_40 : decode b_KeyMaker_run 40 = .ok (.ireturn, 1) := by decide +kernel
theorem d_KeyMaker_left_0 : decode b_KeyMaker_left 0 = .ok (.aload_n 0, 1) := by decide +kernel
theorem d_KeyMaker_left_1 : decode b_KeyMaker_left 1 = .ok (.invokevirtual 46, 3) := by decide +kernel
theorem d_KeyMaker_left_4 : decode b_KeyMaker_left 4 = .ok (.ifCond .eq 10, 3) := by decide +kernel
theorem d_KeyMaker_left_7 : decode b_KeyMaker_left 7 = .ok (.aload_n 0, 1) := by decide +kernel
theorem d_KeyMaker_left_8 : decode b_KeyMaker_left 8 = .ok (.invokevirtual 76, 3) := by decide +kernel
theorem d_KeyMaker_left_11 : decode b_KeyMaker_left 11 = .ok (.goto 4, 3) := by decide +kernel
theorem d_KeyMaker_left_14 : decode b_KeyMaker_left 14 = .ok (.iconst (-1), 1) := by decide +kernel
theorem d_KeyMaker_left_15 : decode b_KeyMaker_left 15 = .ok (.ireturn, 1) := by decide +kernel
theorem d_KeyMaker_key_0 : decode b_KeyMaker_key 0 = .ok (.iload_n 1, 1) := by decide +kernel
theorem d_KeyMaker_key_1 : decode b_KeyMaker_key 1 = .ok (.ifCond .lt 22, 3) := by decide +kernel
theorem d_KeyMaker_key_4 : decode b_KeyMaker_key 4 = .ok (.iload_n 1, 1) := by decide +kernel
theorem d_KeyMaker_key_5 : decode b_KeyMaker_key 5 = .ok (.aload_n 0, 1) := by decide +kernel
theorem d_KeyMaker_key_6 : decode b_KeyMaker_key 6 = .ok (.getfield 61, 3) := by decide +kernel
theorem d_KeyMaker_key_9 : decode b_KeyMaker_key 9 = .ok (.if_icmp .ge 14, 3) := by decide +kernel
theorem d_KeyMaker_key_12 : decode b_KeyMaker_key 12 = .ok (.iload_n 1, 1) := by decide +kernel
theorem d_KeyMaker_key_13 : decode b_KeyMaker_key 13 = .ok (.aload_n 0, 1) := by decide +kernel
theorem d_KeyMaker_key_14 : decode b_KeyMaker_key 14 = .ok (.getfield 89, 3) := by decide +kernel
theorem d_KeyMaker_key_17 : decode b_KeyMaker_key 17 = .ok (.bipush 32, 2) := by decide +kernel
theorem d_KeyMaker_key_19 : decode b_KeyMaker_key 19 = .ok (.imul, 1) := by decide +kernel
theorem d_KeyMaker_key_20 : decode b_KeyMaker_key 20 = .ok (.if_icmp .lt 5, 3) := by decide +kernel
theorem d_KeyMaker_key_23 : decode b_KeyMaker_key 23 = .ok (.iconst (-1), 1) := by decide +kernel
theorem d_KeyMaker_key_24 : decode b_KeyMaker_key 24 = .ok (.ireturn, 1) := by decide +kernel
theorem d_KeyMaker_key_25 : decode b_KeyMaker_key 25 = .ok (.aload_n 0, 1) := by decide +kernel
theorem d_KeyMaker_key_26 : decode b_KeyMaker_key 26 = .ok (.getfield 16, 3) := by decide +kernel
theorem d_KeyMaker_key_29 : decode b_KeyMaker_key 29 = .ok (.iload_n 1, 1) := by decide +kernel
theorem d_KeyMaker_key_30 : decode b_KeyMaker_key 30 = .ok (.iaload, 1) := by decide +kernel
theorem d_KeyMaker_key_31 : decode b_KeyMaker_key 31 = .ok (.ireturn, 1) := by decide +kernel
theorem d_KeyMaker_reset_0 : decode b_KeyMaker_reset 0 = .ok (.aload_n 0, 1) := by decide +kernel
theorem d_KeyMaker_reset_1 : decode b_KeyMaker_reset 1 = .ok (.invokevirtual 39, 3) := by decide +kernel
theorem d_KeyMaker_reset_4 : decode b_KeyMaker_reset 4 = .ok (.return_, 1) := by decide +kernel
theorem d_KeyMaker_many_0 : decode b_KeyMaker_many 0 = .ok (.iload_n 1, 1) := by decide +kernel
theorem d_KeyMaker_many_1 : decode b_KeyMaker_many 1 = .ok (.tableswitch 42 0 2 #[27, 32, 37], 27) := by decide +kernel
theorem d_KeyMaker_many_28 : decode b_KeyMaker_many 28 = .ok (.aload_n 0, 1) := by decide +kernel
theorem d_KeyMaker_many_29 : decode b_KeyMaker_many 29 = .ok (.getfield 50, 3) := by decide +kernel
theorem d_KeyMaker_many_32 : decode b_KeyMaker_many 32 = .ok (.ireturn, 1) := by decide +kernel
theorem d_KeyMaker_many_33 : decode b_KeyMaker_many 33 = .ok (.aload_n 0, 1) := by decide +kernel
theorem d_KeyMaker_many_34 : decode b_KeyMaker_many 34 = .ok (.getfield 58, 3) := by decide +kernel
theorem d_KeyMaker_many_37 : decode b_KeyMaker_many 37 = .ok (.ireturn, 1) := by decide +kernel
theorem d_KeyMaker_many_38 : decode b_KeyMaker_many 38 = .ok (.aload_n 0, 1) := by decide +kernel
theorem d_KeyMaker_many_39 : decode b_KeyMaker_many 39 = .ok (.getfield 61, 3) := by decide +kernel
theorem d_KeyMaker_many_42 : decode b_KeyMaker_many 42 = .ok (.ireturn, 1) := by decide +kernel
theorem d_KeyMaker_many_43 : decode b_KeyMaker_many 43 = .ok (.iconst (-1), 1) := by decide +kernel
theorem d_KeyMaker_many_44 : decode b_KeyMaker_many 44 = .ok (.ireturn, 1) := by decide +kernel
theorem d_KeyMaker_sum_0 : decode b_KeyMaker_sum 0 = .ok (.iload_n 1, 1) := by decide +kernel
theorem d_KeyMaker_sum_1 : decode b_KeyMaker_sum 1 = .ok (.invokestatic 92, 3) := by decide +kernel
theorem d_KeyMaker_sum_4 : decode b_KeyMaker_sum 4 = .ok (.ifCond .ne 5, 3) := by decide +kernel
theorem d_KeyMaker_sum_7 : decode b_KeyMaker_sum 7 = .ok (.iconst (-1), 1) := by decide +kernel
theorem d_KeyMaker_sum_8 : decode b_KeyMaker_sum 8 = .ok (.ireturn, 1) := by decide +kernel
theorem d_KeyMaker_sum_9 : decode b_KeyMaker_sum 9 = .ok (.aload_n 0, 1) := by decide +kernel
theorem d_KeyMaker_sum_10 : decode b_KeyMaker_sum 10 = .ok (.getfield 28, 3) := by decide +kernel
theorem d_KeyMaker_sum_13 : decode b_KeyMaker_sum 13 = .ok (.aload_n 0, 1) := by decide +kernel
theorem d_KeyMaker_sum_14 : decode b_KeyMaker_sum 14 = .ok (.getfield 9, 3) := by decide +kernel
theorem d_KeyMaker_sum_17 : decode b_KeyMaker_sum 17 = .ok (.aload_n 0, 1) := by decide +kernel
theorem d_KeyMaker_sum_18 : decode b_KeyMaker_sum 18 = .ok (.getfield 50, 3) := by decide +kernel
theorem d_KeyMaker_sum_21 : decode b_KeyMaker_sum 21 = .ok (.aload_n 0, 1) := by decide +kernel
theorem d_KeyMaker_sum_22 : decode b_KeyMaker_sum 22 = .ok (.getfield 22, 3) := by decide +kernel
theorem d_KeyMaker_sum_25 : decode b_KeyMaker_sum 25 = .ok (.invokevirtual 95, 3) := by decide +kernel
theorem d_KeyMaker_sum_28 : decode b_KeyMaker_sum 28 = .ok (.aload_n 0, 1) := by decide +kernel
theorem d_KeyMaker_sum_29 : decode b_KeyMaker_sum 29 = .ok (.getfield 22, 3) := by decide +kernel
theorem d_KeyMaker_sum_32 : decode b_KeyMaker_sum 32 = .ok (.iload_n 1, 1) := by decide +kernel
theorem d_KeyMaker_sum_33 : decode b_KeyMaker_sum 33 = .ok (.iaload, 1) := by decide +kernel
theorem d_KeyMaker_sum_34 : decode b_KeyMaker_sum 34 = .ok (.ireturn, 1) := by decide +kernel
theorem d_KeyMaker_mark_0 : decode b_KeyMaker_mark 0 = .ok (.iload_n 1, 1) := by decide +kernel
theorem d_KeyMaker_mark_1 : decode b_KeyMaker_mark 1 = .ok (.invokestatic 92, 3) := by decide +kernel
theorem d_KeyMaker_mark_4 : decode b_KeyMaker_mark 4 = .ok (.ifCond .ne 5, 3) := by decide +kernel
theorem d_KeyMaker_mark_7 : decode b_KeyMaker_mark 7 = .ok (.iconst (-1), 1) := by decide +kernel
theorem d_KeyMaker_mark_8 : decode b_KeyMaker_mark 8 = .ok (.ireturn, 1) := by decide +kernel
theorem d_KeyMaker_mark_9 : decode b_KeyMaker_mark 9 = .ok (.aload_n 0, 1) := by decide +kernel
theorem d_KeyMaker_mark_10 : decode b_KeyMaker_mark 10 = .ok (.getfield 35, 3) := by decide +kernel
theorem d_KeyMaker_mark_13 : decode b_KeyMaker_mark 13 = .ok (.aload_n 0, 1) := by decide +kernel
theorem d_KeyMaker_mark_14 : decode b_KeyMaker_mark 14 = .ok (.getfield 9, 3) := by decide +kernel
theorem d_KeyMaker_mark_17 : decode b_KeyMaker_mark 17 = .ok (.aload_n 0, 1) := by decide +kernel
theorem d_KeyMaker_mark_18 : decode b_KeyMaker_mark 18 = .ok (.getfield 50, 3) := by decide +kernel
theorem d_KeyMaker_mark_21 : decode b_KeyMaker_mark 21 = .ok (.invokevirtual 73, 3) := by decide +kernel
theorem d_KeyMaker_mark_24 : decode b_KeyMaker_mark 24 = .ok (.aload_n 0, 1) := by decide +kernel
theorem d_KeyMaker_mark_25 : decode b_KeyMaker_mark 25 = .ok (.getfield 35, 3) := by decide +kernel
theorem d_KeyMaker_mark_28 : decode b_KeyMaker_mark 28 = .ok (.aload_n 0, 1) := by decide +kernel
theorem d_KeyMaker_mark_29 : decode b_KeyMaker_mark 29 = .ok (.getfield 13, 3) := by decide +kernel
theorem d_KeyMaker_mark_32 : decode b_KeyMaker_mark 32 = .ok (.aload_n 0, 1) := by decide +kernel
theorem d_KeyMaker_mark_33 : decode b_KeyMaker_mark 33 = .ok (.getfield 58, 3) := by decide +kernel
theorem d_KeyMaker_mark_36 : decode b_KeyMaker_mark 36 = .ok (.aload_n 0, 1) := by decide +kernel
theorem d_KeyMaker_mark_37 : decode b_KeyMaker_mark 37 = .ok (.getfield 22, 3) := by decide +kernel
theorem d_KeyMaker_mark_40 : decode b_KeyMaker_mark 40 = .ok (.invokevirtual 99, 3) := by decide +kernel
theorem d_KeyMaker_mark_43 : decode b_KeyMaker_mark 43 = .ok (.aload_n 0, 1) := by decide +kernel
theorem d_KeyMaker_mark_44 : decode b_KeyMaker_mark 44 = .ok (.getfield 22, 3) := by decide +kernel
theorem d_KeyMaker_mark_47 : decode b_KeyMaker_mark 47 = .ok (.iload_n 1, 1) := by decide +kernel
theorem d_KeyMaker_mark_48 : decode b_KeyMaker_mark 48 = .ok (.iaload, 1) := by decide +kernel
theorem d_KeyMaker_mark_49 : decode b_KeyMaker_mark 49 = .ok (.ireturn, 1) := by decide +kernel
theorem d_KeyMaker_word_0 : decode b_KeyMaker_word 0 = .ok (.iload_n 1, 1) := by decide +kernel
theorem d_KeyMaker_word_1 : decode b_KeyMaker_word 1 = .ok (.ifCond .ne 21, 3) := by decide +kernel
theorem d_KeyMaker_word_4 : decode b_KeyMaker_word 4 = .ok (.iload_n 2, 1) := by decide +kernel
theorem d_KeyMaker_word_5 : decode b_KeyMaker_word 5 = .ok (.ifCond .lt 17, 3) := by decide +kernel
theorem d_KeyMaker_word_8 : decode b_KeyMaker_word 8 = .ok (.iload_n 2, 1) := by decide +kernel
theorem d_KeyMaker_word_9 : decode b_KeyMaker_word 9 = .ok (.getstatic 102, 3) := by decide +kernel
theorem d_KeyMaker_word_12 : decode b_KeyMaker_word 12 = .ok (.arraylength, 1) := by decide +kernel
theorem d_KeyMaker_word_13 : decode b_KeyMaker_word 13 = .ok (.if_icmp .ge 9, 3) := by decide +kernel
theorem d_KeyMaker_word_16 : decode b_KeyMaker_word 16 = .ok (.getstatic 102, 3) := by decide +kernel
theorem d_KeyMaker_word_19 : decode b_KeyMaker_word 19 = .ok (.iload_n 2, 1) := by decide +kernel
theorem d_KeyMaker_word_20 : decode b_KeyMaker_word 20 = .ok (.iaload, 1) := by decide +kernel
theorem d_KeyMaker_word_21 : decode b_KeyMaker_word 21 = .ok (.ireturn, 1) := by decide +kernel
theorem d_KeyMaker_word_22 : decode b_KeyMaker_word 22 = .ok (.iload_n 1, 1) := by decide +kernel
theorem d_KeyMaker_word_23 : decode b_KeyMaker_word 23 = .ok (.iconst 1, 1) := by decide +kernel
theorem d_KeyMaker_word_24 : decode b_KeyMaker_word 24 = .ok (.if_icmp .ne 21, 3) := by decide +kernel
theorem d_KeyMaker_word_27 : decode b_KeyMaker_word 27 = .ok (.iload_n 2, 1) := by decide +kernel
theorem d_KeyMaker_word_28 : decode b_KeyMaker_word 28 = .ok (.ifCond .lt 17, 3) := by decide +kernel
theorem d_KeyMaker_word_31 : decode b_KeyMaker_word 31 = .ok (.iload_n 2, 1) := by decide +kernel
theorem d_KeyMaker_word_32 : decode b_KeyMaker_word 32 = .ok (.getstatic 105, 3) := by decide +kernel
theorem d_KeyMaker_word_35 : decode b_KeyMaker_word 35 = .ok (.arraylength, 1) := by decide +kernel
theorem d_KeyMaker_word_36 : decode b_KeyMaker_word 36 = .ok (.if_icmp .ge 9, 3) := by decide +kernel
theorem d_KeyMaker_word_39 : decode b_KeyMaker_word 39 = .ok (.getstatic 105, 3) := by decide +kernel
theorem d_KeyMaker_word_42 : decode b_KeyMaker_word 42 = .ok (.iload_n 2, 1) := by decide +kernel
theorem d_KeyMaker_word_43 : decode b_KeyMaker_word 43 = .ok (.iaload, 1) := by decide +kernel
theorem d_KeyMaker_word_44 : decode b_KeyMaker_word 44 = .ok (.ireturn, 1) := by decide +kernel
theorem d_KeyMaker_word_45 : decode b_KeyMaker_word 45 = .ok (.iconst 0, 1) := by decide +kernel
theorem d_KeyMaker_word_46 : decode b_KeyMaker_word 46 = .ok (.ireturn, 1) := by decide +kernel
theorem d_KeyMaker_isByte_0 : decode b_KeyMaker_isByte 0 = .ok (.iload_n 0, 1) := by decide +kernel
theorem d_KeyMaker_isByte_1 : decode b_KeyMaker_isByte 1 = .ok (.ifCond .lt 14, 3) := by decide +kernel
theorem d_KeyMaker_isByte_4 : decode b_KeyMaker_isByte 4 = .ok (.iload_n 0, 1) := by decide +kernel
theorem d_KeyMaker_isByte_5 : decode b_KeyMaker_isByte 5 = .ok (.sipush 255, 3) := by decide +kernel
theorem d_KeyMaker_isByte_8 : decode b_KeyMaker_isByte 8 = .ok (.if_icmp .gt 7, 3) := by decide +kernel
theorem d_KeyMaker_isByte_11 : decode b_KeyMaker_isByte 11 = .ok (.iconst 1, 1) := by decide +kernel
theorem d_KeyMaker_isByte_12 : decode b_KeyMaker_isByte 12 = .ok (.goto 4, 3) := by decide +kernel
theorem d_KeyMaker_isByte_15 : decode b_KeyMaker_isByte 15 = .ok (.iconst 0, 1) := by decide +kernel
theorem d_KeyMaker_isByte_16 : decode b_KeyMaker_isByte 16 = .ok (.ireturn, 1) := by decide +kernel
theorem d_KeyMaker_isPlaceOfSum_0 : decode b_KeyMaker_isPlaceOfSum 0 = .ok (.iload_n 0, 1) := by decide +kernel
theorem d_KeyMaker_isPlaceOfSum_1 : decode b_KeyMaker_isPlaceOfSum 1 = .ok (.ifCond .lt 13, 3) := by decide +kernel
theorem d_KeyMaker_isPlaceOfSum_4 : decode b_KeyMaker_isPlaceOfSum 4 = .ok (.iload_n 0, 1) := by decide +kernel
theorem d_KeyMaker_isPlaceOfSum_5 : decode b_KeyMaker_isPlaceOfSum 5 = .ok (.bipush 32, 2) := by decide +kernel
theorem d_KeyMaker_isPlaceOfSum_7 : decode b_KeyMaker_isPlaceOfSum 7 = .ok (.if_icmp .ge 7, 3) := by decide +kernel
theorem d_KeyMaker_isPlaceOfSum_10 : decode b_KeyMaker_isPlaceOfSum 10 = .ok (.iconst 1, 1) := by decide +kernel
theorem d_KeyMaker_isPlaceOfSum_11 : decode b_KeyMaker_isPlaceOfSum 11 = .ok (.goto 4, 3) := by decide +kernel
theorem d_KeyMaker_isPlaceOfSum_14 : decode b_KeyMaker_isPlaceOfSum 14 = .ok (.iconst 0, 1) := by decide +kernel
theorem d_KeyMaker_isPlaceOfSum_15 : decode b_KeyMaker_isPlaceOfSum 15 = .ok (.ireturn, 1) := by decide +kernel
theorem d_KeyMaker_putWord_0 : decode b_KeyMaker_putWord 0 = .ok (.aload_n 1, 1) := by decide +kernel
theorem d_KeyMaker_putWord_1 : decode b_KeyMaker_putWord 1 = .ok (.iload_n 2, 1) := by decide +kernel
theorem d_KeyMaker_putWord_2 : decode b_KeyMaker_putWord 2 = .ok (.iload_n 0, 1) := by decide +kernel
theorem d_KeyMaker_putWord_3 : decode b_KeyMaker_putWord 3 = .ok (.bipush 24, 2) := by decide +kernel
theorem d_KeyMaker_putWord_5 : decode b_KeyMaker_putWord 5 = .ok (.iushr, 1) := by decide +kernel
theorem d_KeyMaker_putWord_6 : decode b_KeyMaker_putWord 6 = .ok (.iastore, 1) := by decide +kernel
theorem d_KeyMaker_putWord_7 : decode b_KeyMaker_putWord 7 = .ok (.aload_n 1, 1) := by decide +kernel
theorem d_KeyMaker_putWord_8 : decode b_KeyMaker_putWord 8 = .ok (.iload_n 2, 1) := by decide +kernel
theorem d_KeyMaker_putWord_9 : decode b_KeyMaker_putWord 9 = .ok (.iconst 1, 1) := by decide +kernel
theorem d_KeyMaker_putWord_10 : decode b_KeyMaker_putWord 10 = .ok (.iadd, 1) := by decide +kernel
theorem d_KeyMaker_putWord_11 : decode b_KeyMaker_putWord 11 = .ok (.iload_n 0, 1) := by decide +kernel
theorem d_KeyMaker_putWord_12 : decode b_KeyMaker_putWord 12 = .ok (.bipush 16, 2) := by decide +kernel
theorem d_KeyMaker_putWord_14 : decode b_KeyMaker_putWord 14 = .ok (.iushr, 1) := by decide +kernel
theorem d_KeyMaker_putWord_15 : decode b_KeyMaker_putWord 15 = .ok (.sipush 255, 3) := by decide +kernel
theorem d_KeyMaker_putWord_18 : decode b_KeyMaker_putWord 18 = .ok (.iand, 1) := by decide +kernel
theorem d_KeyMaker_putWord_19 : decode b_KeyMaker_putWord 19 = .ok (.iastore, 1) := by decide +kernel
theorem d_KeyMaker_putWord_20 : decode b_KeyMaker_putWord 20 = .ok (.aload_n 1, 1) := by decide +kernel
theorem d_KeyMaker_putWord_21 : decode b_KeyMaker_putWord 21 = .ok (.iload_n 2, 1) := by decide +kernel
theorem d_KeyMaker_putWord_22 : decode b_KeyMaker_putWord 22 = .ok (.iconst 2, 1) := by decide +kernel
theorem d_KeyMaker_putWord_23 : decode b_KeyMaker_putWord 23 = .ok (.iadd, 1) := by decide +kernel
theorem d_KeyMaker_putWord_24 : decode b_KeyMaker_putWord 24 = .ok (.iload_n 0, 1) := by decide +kernel
theorem d_KeyMaker_putWord_25 : decode b_KeyMaker_putWord 25 = .ok (.bipush 8, 2) := by decide +kernel
theorem d_KeyMaker_putWord_27 : decode b_KeyMaker_putWord 27 = .ok (.iushr, 1) := by decide +kernel
theorem d_KeyMaker_putWord_28 : decode b_KeyMaker_putWord 28 = .ok (.sipush 255, 3) := by decide +kernel
theorem d_KeyMaker_putWord_31 : decode b_KeyMaker_putWord 31 = .ok (.iand, 1) := by decide +kernel
theorem d_KeyMaker_putWord_32 : decode b_KeyMaker_putWord 32 = .ok (.iastore, 1) := by decide +kernel
theorem d_KeyMaker_putWord_33 : decode b_KeyMaker_putWord 33 = .ok (.aload_n 1, 1) := by decide +kernel
theorem d_KeyMaker_putWord_34 : decode b_KeyMaker_putWord 34 = .ok (.iload_n 2, 1) := by decide +kernel
theorem d_KeyMaker_putWord_35 : decode b_KeyMaker_putWord 35 = .ok (.iconst 3, 1) := by decide +kernel
theorem d_KeyMaker_putWord_36 : decode b_KeyMaker_putWord 36 = .ok (.iadd, 1) := by decide +kernel
theorem d_KeyMaker_putWord_37 : decode b_KeyMaker_putWord 37 = .ok (.iload_n 0, 1) := by decide +kernel
theorem d_KeyMaker_putWord_38 : decode b_KeyMaker_putWord 38 = .ok (.sipush 255, 3) := by decide +kernel
theorem d_KeyMaker_putWord_41 : decode b_KeyMaker_putWord 41 = .ok (.iand, 1) := by decide +kernel
theorem d_KeyMaker_putWord_42 : decode b_KeyMaker_putWord 42 = .ok (.iastore, 1) := by decide +kernel
theorem d_KeyMaker_putWord_43 : decode b_KeyMaker_putWord 43 = .ok (.return_, 1) := by decide +kernel
theorem d_KeyMaker_isStarted_0 : decode b_KeyMaker_isStarted 0 = .ok (.aload_n 0, 1) := by decide +kernel
theorem d_KeyMaker_isStarted_1 : decode b_KeyMaker_isStarted 1 = .ok (.getfield 61, 3) := by decide +kernel
theorem d_KeyMaker_isStarted_4 : decode b_KeyMaker_isStarted 4 = .ok (.ifCond .le 7, 3) := by decide +kernel
theorem d_KeyMaker_isStarted_7 : decode b_KeyMaker_isStarted 7 = .ok (.iconst 1, 1) := by decide +kernel
theorem d_KeyMaker_isStarted_8 : decode b_KeyMaker_isStarted 8 = .ok (.goto 4, 3) := by decide +kernel
theorem d_KeyMaker_isStarted_11 : decode b_KeyMaker_isStarted 11 = .ok (.iconst 0, 1) := by decide +kernel
theorem d_KeyMaker_isStarted_12 : decode b_KeyMaker_isStarted 12 = .ok (.ireturn, 1) := by decide +kernel
theorem d_KeyMaker_turnsLeft_0 : decode b_KeyMaker_turnsLeft 0 = .ok (.aload_n 0, 1) := by decide +kernel
theorem d_KeyMaker_turnsLeft_1 : decode b_KeyMaker_turnsLeft 1 = .ok (.getfield 61, 3) := by decide +kernel
theorem d_KeyMaker_turnsLeft_4 : decode b_KeyMaker_turnsLeft 4 = .ok (.bipush 32, 2) := by decide +kernel
theorem d_KeyMaker_turnsLeft_6 : decode b_KeyMaker_turnsLeft 6 = .ok (.iadd, 1) := by decide +kernel
theorem d_KeyMaker_turnsLeft_7 : decode b_KeyMaker_turnsLeft 7 = .ok (.iconst 1, 1) := by decide +kernel
theorem d_KeyMaker_turnsLeft_8 : decode b_KeyMaker_turnsLeft 8 = .ok (.isub, 1) := by decide +kernel
theorem d_KeyMaker_turnsLeft_9 : decode b_KeyMaker_turnsLeft 9 = .ok (.bipush 32, 2) := by decide +kernel
theorem d_KeyMaker_turnsLeft_11 : decode b_KeyMaker_turnsLeft 11 = .ok (.idiv, 1) := by decide +kernel
theorem d_KeyMaker_turnsLeft_12 : decode b_KeyMaker_turnsLeft 12 = .ok (.istore_n 1, 1) := by decide +kernel
theorem d_KeyMaker_turnsLeft_13 : decode b_KeyMaker_turnsLeft 13 = .ok (.iload_n 1, 1) := by decide +kernel
theorem d_KeyMaker_turnsLeft_14 : decode b_KeyMaker_turnsLeft 14 = .ok (.aload_n 0, 1) := by decide +kernel
theorem d_KeyMaker_turnsLeft_15 : decode b_KeyMaker_turnsLeft 15 = .ok (.getfield 89, 3) := by decide +kernel
theorem d_KeyMaker_turnsLeft_18 : decode b_KeyMaker_turnsLeft 18 = .ok (.isub, 1) := by decide +kernel
theorem d_KeyMaker_turnsLeft_19 : decode b_KeyMaker_turnsLeft 19 = .ok (.aload_n 0, 1) := by decide +kernel
theorem d_KeyMaker_turnsLeft_20 : decode b_KeyMaker_turnsLeft 20 = .ok (.getfield 64, 3) := by decide +kernel
theorem d_KeyMaker_turnsLeft_23 : decode b_KeyMaker_turnsLeft 23 = .ok (.imul, 1) := by decide +kernel
theorem d_KeyMaker_turnsLeft_24 : decode b_KeyMaker_turnsLeft 24 = .ok (.aload_n 0, 1) := by decide +kernel
theorem d_KeyMaker_turnsLeft_25 : decode b_KeyMaker_turnsLeft 25 = .ok (.getfield 108, 3) := by decide +kernel
theorem d_KeyMaker_turnsLeft_28 : decode b_KeyMaker_turnsLeft 28 = .ok (.isub, 1) := by decide +kernel
theorem d_KeyMaker_turnsLeft_29 : decode b_KeyMaker_turnsLeft 29 = .ok (.ireturn, 1) := by decide +kernel
theorem d_KeyMaker_forgetAll_0 : decode b_KeyMaker_forgetAll 0 = .ok (.aload_n 0, 1) := by decide +kernel
theorem d_KeyMaker_forgetAll_1 : decode b_KeyMaker_forgetAll 1 = .ok (.iconst 0, 1) := by decide +kernel
theorem d_KeyMaker_forgetAll_2 : decode b_KeyMaker_forgetAll 2 = .ok (.putfield 50, 3) := by decide +kernel
theorem d_KeyMaker_forgetAll_5 : decode b_KeyMaker_forgetAll 5 = .ok (.aload_n 0, 1) := by decide +kernel
theorem d_KeyMaker_forgetAll_6 : decode b_KeyMaker_forgetAll 6 = .ok (.iconst 0, 1) := by decide +kernel
theorem d_KeyMaker_forgetAll_7 : decode b_KeyMaker_forgetAll 7 = .ok (.putfield 58, 3) := by decide +kernel
theorem d_KeyMaker_forgetAll_10 : decode b_KeyMaker_forgetAll 10 = .ok (.aload_n 0, 1) := by decide +kernel
theorem d_KeyMaker_forgetAll_11 : decode b_KeyMaker_forgetAll 11 = .ok (.iconst 0, 1) := by decide +kernel
theorem d_KeyMaker_forgetAll_12 : decode b_KeyMaker_forgetAll 12 = .ok (.putfield 61, 3) := by decide +kernel
theorem d_KeyMaker_forgetAll_15 : decode b_KeyMaker_forgetAll 15 = .ok (.aload_n 0, 1) := by decide +kernel
theorem d_KeyMaker_forgetAll_16 : decode b_KeyMaker_forgetAll 16 = .ok (.iconst 0, 1) := by decide +kernel
theorem d_KeyMaker_forgetAll_17 : decode b_KeyMaker_forgetAll 17 = .ok (.putfield 64, 3) := by decide +kernel
theorem d_KeyMaker_forgetAll_20 : decode b_KeyMaker_forgetAll 20 = .ok (.aload_n 0, 1) := by decide +kernel
theorem d_KeyMaker_forgetAll_21 : decode b_KeyMaker_forgetAll 21 = .ok (.iconst 0, 1) := by decide +kernel
theorem d_KeyMaker_forgetAll_22 : decode b_KeyMaker_forgetAll 22 = .ok (.putfield 89, 3) := by decide +kernel
theorem d_KeyMaker_forgetAll_25 : decode b_KeyMaker_forgetAll 25 = .ok (.aload_n 0, 1) := by decide +kernel
theorem d_KeyMaker_forgetAll_26 : decode b_KeyMaker_forgetAll 26 = .ok (.iconst 0, 1) := by decide +kernel
theorem d_KeyMaker_forgetAll_27 : decode b_KeyMaker_forgetAll 27 = .ok (.putfield 108, 3) := by decide +kernel
theorem d_KeyMaker_forgetAll_30 : decode b_KeyMaker_forgetAll 30 = .ok (.return_, 1) := by decide +kernel
theorem d_KeyMaker_turn_0 : decode b_KeyMaker_turn 0 = .ok (.aload_n 0, 1) := by decide +kernel
theorem d_KeyMaker_turn_1 : decode b_KeyMaker_turn 1 = .ok (.getfield 108, 3) := by decide +kernel
theorem d_KeyMaker_turn_4 : decode b_KeyMaker_turn 4 = .ok (.ifCond .ne 44, 3) := by decide +kernel
theorem d_KeyMaker_turn_7 : decode b_KeyMaker_turn 7 = .ok (.aload_n 0, 1) := by decide +kernel
theorem d_KeyMaker_turn_8 : decode b_KeyMaker_turn 8 = .ok (.getfield 89, 3) := by decide +kernel
theorem d_KeyMaker_turn_11 : decode b_KeyMaker_turn 11 = .ok (.iconst 1, 1) := by decide +kernel
theorem d_KeyMaker_turn_12 : decode b_KeyMaker_turn 12 = .ok (.iadd, 1) := by decide +kernel
theorem d_KeyMaker_turn_13 : decode b_KeyMaker_turn 13 = .ok (.aload_n 0, 1) := by decide +kernel
theorem d_KeyMaker_turn_14 : decode b_KeyMaker_turn 14 = .ok (.getfield 13, 3) := by decide +kernel
theorem d_KeyMaker_turn_17 : decode b_KeyMaker_turn 17 = .ok (.aload_n 0, 1) := by decide +kernel
theorem d_KeyMaker_turn_18 : decode b_KeyMaker_turn 18 = .ok (.getfield 58, 3) := by decide +kernel
theorem d_KeyMaker_turn_21 : decode b_KeyMaker_turn 21 = .ok (.invokestatic 54, 3) := by decide +kernel
theorem d_KeyMaker_turn_24 : decode b_KeyMaker_turn 24 = .ok (.aload_n 0, 1) := by decide +kernel
theorem d_KeyMaker_turn_25 : decode b_KeyMaker_turn 25 = .ok (.getfield 35, 3) := by decide +kernel
theorem d_KeyMaker_turn_28 : decode b_KeyMaker_turn 28 = .ok (.aload_n 0, 1) := by decide +kernel
theorem d_KeyMaker_turn_29 : decode b_KeyMaker_turn 29 = .ok (.getfield 13, 3) := by decide +kernel
theorem d_KeyMaker_turn_32 : decode b_KeyMaker_turn 32 = .ok (.aload_n 0, 1) := by decide +kernel
theorem d_KeyMaker_turn_33 : decode b_KeyMaker_turn 33 = .ok (.getfield 58, 3) := by decide +kernel
theorem d_KeyMaker_turn_36 : decode b_KeyMaker_turn 36 = .ok (.iconst 4, 1) := by decide +kernel
theorem d_KeyMaker_turn_37 : decode b_KeyMaker_turn 37 = .ok (.iadd, 1) := by decide +kernel
theorem d_KeyMaker_turn_38 : decode b_KeyMaker_turn 38 = .ok (.aload_n 0, 1) := by decide +kernel
theorem d_KeyMaker_turn_39 : decode b_KeyMaker_turn 39 = .ok (.getfield 19, 3) := by decide +kernel
theorem d_KeyMaker_turn_42 : decode b_KeyMaker_turn 42 = .ok (.invokevirtual 99, 3) := by decide +kernel
theorem d_KeyMaker_turn_45 : decode b_KeyMaker_turn 45 = .ok (.goto 20, 3) := by decide +kernel
theorem d_KeyMaker_turn_48 : decode b_KeyMaker_turn 48 = .ok (.aload_n 0, 1) := by decide +kernel
theorem d_KeyMaker_turn_49 : decode b_KeyMaker_turn 49 = .ok (.getfield 35, 3) := by decide +kernel
theorem d_KeyMaker_turn_52 : decode b_KeyMaker_turn 52 = .ok (.aload_n 0, 1) := by decide +kernel
theorem d_KeyMaker_turn_53 : decode b_KeyMaker_turn 53 = .ok (.getfield 19, 3) := by decide +kernel
theorem d_KeyMaker_turn_56 : decode b_KeyMaker_turn 56 = .ok (.bipush 32, 2) := by decide +kernel
theorem d_KeyMaker_turn_58 : decode b_KeyMaker_turn 58 = .ok (.aload_n 0, 1) := by decide +kernel
theorem d_KeyMaker_turn_59 : decode b_KeyMaker_turn 59 = .ok (.getfield 19, 3) := by decide +kernel
theorem d_KeyMaker_turn_62 : decode b_KeyMaker_turn 62 = .ok (.invokevirtual 99, 3) := by decide +kernel
theorem d_KeyMaker_turn_65 : decode b_KeyMaker_turn 65 = .ok (.aload_n 0, 1) := by decide +kernel
theorem d_KeyMaker_turn_66 : decode b_KeyMaker_turn 66 = .ok (.invokevirtual 111, 3) := by decide +kernel
theorem d_KeyMaker_turn_69 : decode b_KeyMaker_turn 69 = .ok (.aload_n 0, 1) := by decide +kernel
theorem d_KeyMaker_turn_70 : decode b_KeyMaker_turn 70 = .ok (.dup, 1) := by decide +kernel
theorem d_KeyMaker_turn_71 : decode b_KeyMaker_turn 71 = .ok (.getfield 108, 3) := by decide +kernel
theorem d_KeyMaker_turn_74 : decode b_KeyMaker_turn 74 = .ok (.iconst 1, 1) := by decide +kernel
theorem d_KeyMaker_turn_75 : decode b_KeyMaker_turn 75 = .ok (.iadd, 1) := by decide +kernel
theorem d_KeyMaker_turn_76 : decode b_KeyMaker_turn 76 = .ok (.putfield 108, 3) := by decide +kernel
theorem d_KeyMaker_turn_79 : decode b_KeyMaker_turn 79 = .ok (.aload_n 0, 1) := by decide +kernel
theorem d_KeyMaker_turn_80 : decode b_KeyMaker_turn 80 = .ok (.getfield 108, 3) := by decide +kernel
theorem d_KeyMaker_turn_83 : decode b_KeyMaker_turn 83 = .ok (.aload_n 0, 1) := by decide +kernel
theorem d_KeyMaker_turn_84 : decode b_KeyMaker_turn 84 = .ok (.getfield 64, 3) := by decide +kernel
theorem d_KeyMaker_turn_87 : decode b_KeyMaker_turn 87 = .ok (.if_icmp .ne 18, 3) := by decide +kernel
theorem d_KeyMaker_turn_90 : decode b_KeyMaker_turn 90 = .ok (.aload_n 0, 1) := by decide +kernel
theorem d_KeyMaker_turn_91 : decode b_KeyMaker_turn 91 = .ok (.dup, 1) := by decide +kernel
theorem d_KeyMaker_turn_92 : decode b_KeyMaker_turn 92 = .ok (.getfield 89, 3) := by decide +kernel
theorem d_KeyMaker_turn_95 : decode b_KeyMaker_turn 95 = .ok (.iconst 1, 1) := by decide +kernel
theorem d_KeyMaker_turn_96 : decode b_KeyMaker_turn 96 = .ok (.iadd, 1) := by decide +kernel
theorem d_KeyMaker_turn_97 : decode b_KeyMaker_turn 97 = .ok (.putfield 89, 3) := by decide +kernel
theorem d_KeyMaker_turn_100 : decode b_KeyMaker_turn 100 = .ok (.aload_n 0, 1) := by decide +kernel
theorem d_KeyMaker_turn_101 : decode b_KeyMaker_turn 101 = .ok (.iconst 0, 1) := by decide +kernel
theorem d_KeyMaker_turn_102 : decode b_KeyMaker_turn 102 = .ok (.putfield 108, 3) := by decide +kernel
theorem d_KeyMaker_turn_105 : decode b_KeyMaker_turn 105 = .ok (.return_, 1) := by decide +kernel
theorem d_KeyMaker_foldLastMark_0 : decode b_KeyMaker_foldLastMark 0 = .ok (.aload_n 0, 1) := by decide +kernel
theorem d_KeyMaker_foldLastMark_1 : decode b_KeyMaker_foldLastMark 1 = .ok (.getfield 89, 3) := by decide +kernel
theorem d_KeyMaker_foldLastMark_4 : decode b_KeyMaker_foldLastMark 4 = .ok (.bipush 32, 2) := by decide +kernel
theorem d_KeyMaker_foldLastMark_6 : decode b_KeyMaker_foldLastMark 6 = .ok (.imul, 1) := by decide +kernel
theorem d_KeyMaker_foldLastMark_7 : decode b_KeyMaker_foldLastMark 7 = .ok (.istore_n 1, 1) := by decide +kernel
theorem d_KeyMaker_foldLastMark_8 : decode b_KeyMaker_foldLastMark 8 = .ok (.iconst 0, 1) := by decide +kernel
theorem d_KeyMaker_foldLastMark_9 : decode b_KeyMaker_foldLastMark 9 = .ok (.istore_n 2, 1) := by decide +kernel
theorem d_KeyMaker_foldLastMark_10 : decode b_KeyMaker_foldLastMark 10 = .ok (.iload_n 2, 1) := by decide +kernel
theorem d_KeyMaker_foldLastMark_11 : decode b_KeyMaker_foldLastMark 11 = .ok (.bipush 32, 2) := by decide +kernel
theorem d_KeyMaker_foldLastMark_13 : decode b_KeyMaker_foldLastMark 13 = .ok (.if_icmp .ge 26, 3) := by decide +kernel
theorem d_KeyMaker_foldLastMark_16 : decode b_KeyMaker_foldLastMark 16 = .ok (.aload_n 0, 1) := by decide +kernel
theorem d_KeyMaker_foldLastMark_17 : decode b_KeyMaker_foldLastMark 17 = .ok (.getfield 16, 3) := by decide +kernel
theorem d_KeyMaker_foldLastMark_20 : decode b_KeyMaker_foldLastMark 20 = .ok (.iload_n 1, 1) := by decide +kernel
theorem d_KeyMaker_foldLastMark_21 : decode b_KeyMaker_foldLastMark 21 = .ok (.iload_n 2, 1) := by decide +kernel
theorem d_KeyMaker_foldLastMark_22 : decode b_KeyMaker_foldLastMark 22 = .ok (.iadd, 1) := by decide +kernel
theorem d_KeyMaker_foldLastMark_23 : decode b_KeyMaker_foldLastMark 23 = .ok (.dup2, 1) := by decide +kernel
theorem d_KeyMaker_foldLastMark_24 : decode b_KeyMaker_foldLastMark 24 = .ok (.iaload, 1) := by decide +kernel
theorem d_KeyMaker_foldLastMark_25 : decode b_KeyMaker_foldLastMark 25 = .ok (.aload_n 0, 1) := by decide +kernel
theorem d_KeyMaker_foldLastMark_26 : decode b_KeyMaker_foldLastMark 26 = .ok (.getfield 19, 3) := by decide +kernel
theorem d_KeyMaker_foldLastMark_29 : decode b_KeyMaker_foldLastMark 29 = .ok (.iload_n 2, 1) := by decide +kernel
theorem d_KeyMaker_foldLastMark_30 : decode b_KeyMaker_foldLastMark 30 = .ok (.iaload, 1) := by decide +kernel
theorem d_KeyMaker_foldLastMark_31 : decode b_KeyMaker_foldLastMark 31 = .ok (.ixor, 1) := by decide +kernel
theorem d_KeyMaker_foldLastMark_32 : decode b_KeyMaker_foldLastMark 32 = .ok (.iastore, 1) := by decide +kernel
theorem d_KeyMaker_foldLastMark_33 : decode b_KeyMaker_foldLastMark 33 = .ok (.iinc 2 1, 3) := by decide +kernel
theorem d_KeyMaker_foldLastMark_36 : decode b_KeyMaker_foldLastMark 36 = .ok (.goto (-26), 3) := by decide +kernel
theorem d_KeyMaker_foldLastMark_39 : decode b_KeyMaker_foldLastMark 39 = .ok (.return_, 1) := by decide +kernel
end
section
theorem d_Model_init_0 : decode b_Model_init 0 = .ok (.aload_n 0, 1) := by decide +kernel
theorem d_Model_init_1 : decode b_Model_init 1 = .ok (.invokespecial 1, 3) := by decide +kernel
theorem d_Model_init_4 : decode b_Model_init 4 = .ok (.aload_n 0, 1) := by decide +kernel
theorem d_Model_init_5 : decode b_Model_init 5 = .ok (.bipush 64, 2) := by decide +kernel
theorem d_Model_init_7 : decode b_Model_init 7 = .ok (.newarray .int, 2) := by decide +kernel
theorem d_Model_init_9 : decode b_Model_init 9 = .ok (.putfield 7, 3) := by decide +kernel
theorem d_Model_init_12 : decode b_Model_init 12 = .ok (.aload_n 0, 1) := by decide +kernel
theorem d_Model_init_13 : decode b_Model_init 13 = .ok (.bipush 8, 2) := by decide +kernel
theorem d_Model_init_15 : decode b_Model_init 15 = .ok (.newarray .int, 2) := by decide +kernel
theorem d_Model_init_17 : decode b_Model_init 17 = .ok (.putfield 13, 3) := by decide +kernel
theorem d_Model_init_20 : decode b_Model_init 20 = .ok (.aload_n 0, 1) := by decide +kernel
theorem d_Model_init_21 : decode b_Model_init 21 = .ok (.sipush 150, 3) := by decide +kernel
theorem d_Model_init_24 : decode b_Model_init 24 = .ok (.newarray .byte, 2) := by decide +kernel
theorem d_Model_init_26 : decode b_Model_init 26 = .ok (.putfield 16, 3) := by decide +kernel
theorem d_Model_init_29 : decode b_Model_init 29 = .ok (.aload_n 0, 1) := by decide +kernel
theorem d_Model_init_30 : decode b_Model_init 30 = .ok (.bipush 84, 2) := by decide +kernel
theorem d_Model_init_32 : decode b_Model_init 32 = .ok (.newarray .byte, 2) := by decide +kernel
theorem d_Model_init_34 : decode b_Model_init 34 = .ok (.putfield 20, 3) := by decide +kernel
theorem d_Model_init_37 : decode b_Model_init 37 = .ok (.aload_n 0, 1) := by decide +kernel
theorem d_Model_init_38 : decode b_Model_init 38 = .ok (.bipush 32, 2) := by decide +kernel
theorem d_Model_init_40 : decode b_Model_init 40 = .ok (.newarray .byte, 2) := by decide +kernel
theorem d_Model_init_42 : decode b_Model_init 42 = .ok (.putfield 23, 3) := by decide +kernel
theorem d_Model_init_45 : decode b_Model_init 45 = .ok (.aload_n 0, 1) := by decide +kernel
theorem d_Model_init_46 : decode b_Model_init 46 = .ok (.sipush 128, 3) := by decide +kernel
theorem d_Model_init_49 : decode b_Model_init 49 = .ok (.newarray .byte, 2) := by decide +kernel
theorem d_Model_init_51 : decode b_Model_init 51 = .ok (.putfield 26, 3) := by decide +kernel
theorem d_Model_init_54 : decode b_Model_init 54 = .ok (.aload_n 0, 1) := by decide +kernel
theorem d_Model_init_55 : decode b_Model_init 55 = .ok (.sipush 320, 3) := by decide +kernel
theorem d_Model_init_58 : decode b_Model_init 58 = .ok (.newarray .byte, 2) := by decide +kernel
theorem d_Model_init_60 : decode b_Model_init 60 = .ok (.putfield 29, 3) := by decide +kernel
theorem d_Model_init_63 : decode b_Model_init 63 = .ok (.aload_n 0, 1) := by decide +kernel
theorem d_Model_init_64 : decode b_Model_init 64 = .ok (.bipush 32, 2) := by decide +kernel
theorem d_Model_init_66 : decode b_Model_init 66 = .ok (.newarray .byte, 2) := by decide +kernel
theorem d_Model_init_68 : decode b_Model_init 68 = .ok (.putfield 32, 3) := by decide +kernel
theorem d_Model_init_71 : decode b_Model_init 71 = .ok (.aload_n 0, 1) := by decide +kernel
theorem d_Model_init_72 : decode b_Model_init 72 = .ok (.bipush 8, 2) := by decide +kernel
theorem d_Model_init_74 : decode b_Model_init 74 = .ok (.newarray .int, 2) := by decide +kernel
theorem d_Model_init_76 : decode b_Model_init 76 = .ok (.putfield 35, 3) := by decide +kernel
theorem d_Model_init_79 : decode b_Model_init 79 = .ok (.aload_n 0, 1) := by decide +kernel
theorem d_Model_init_80 : decode b_Model_init 80 = .ok (.bipush 8, 2) := by decide +kernel
theorem d_Model_init_82 : decode b_Model_init 82 = .ok (.newarray .int, 2) := by decide +kernel
theorem d_Model_init_84 : decode b_Model_init 84 = .ok (.putfield 38, 3) := by decide +kernel
theorem d_Model_init_87 : decode b_Model_init 87 = .ok (.aload_n 0, 1) := by decide +kernel
theorem d_Model_init_88 : decode b_Model_init 88 = .ok (.bipush 64, 2) := by decide +kernel
theorem d_Model_init_90 : decode b_Model_init 90 = .ok (.newarray .int, 2) := by decide +kernel
theorem d_Model_init_92 : decode b_Model_init 92 = .ok (.putfield 41, 3) := by decide +kernel
theorem d_Model_init_95 : decode b_Model_init 95 = .ok (.aload_n 0, 1) := by decide +kernel
theorem d_Model_init_96 : decode b_Model_init 96 = .ok (.bipush 64, 2) := by decide +kernel
theorem d_Model_init_98 : decode b_Model_init 98 = .ok (.newarray .byte, 2) := by decide +kernel
theorem d_Model_init_100 : decode b_Model_init 100 = .ok (.putfield 44, 3) := by decide +kernel
theorem d_Model_init_103 : decode b_Model_init 103 = .ok (.iconst 0, 1) := by decide +kernel
theorem d_Model_init_104 : decode b_Model_init 104 = .ok (.istore_n 1, 1) := by decide +kernel
theorem d_Model_init_105 : decode b_Model_init 105 = .ok (.iconst 2, 1) := by decide +kernel
theorem d_Model_init_106 : decode b_Model_init 106 = .ok (.istore_n 2, 1) := by decide +kernel
theorem d_Model_init_107 : decode b_Model_init 107 = .ok (.iload_n 1, 1) := by decide +kernel
theorem d_Model_init_108 : decode b_Model_init 108 = .ok (.bipush 64, 2) := by decide +kernel
theorem d_Model_init_110 : decode b_Model_init 110 = .ok (.if_icmp .ge 78, 3) := by decide +kernel
theorem d_Model_init_113 : decode b_Model_init 113 = .ok (.iconst 1, 1) := by decide +kernel
theorem d_Model_init_114 : decode b_Model_init 114 = .ok (.istore_n 3, 1) := by decide +kernel
theorem d_Model_init_115 : decode b_Model_init 115 = .ok (.iconst 2, 1) := by decide +kernel
theorem d_Model_init_116 : decode b_Model_init 116 = .ok (.istore 4, 2) := by decide +kernel
theorem d_Model_init_118 : decode b_Model_init 118 = .ok (.iload 4, 2) := by decide +kernel
theorem d_Model_init_120 : decode b_Model_init 120 = .ok (.iload_n 2, 1) := by decide +kernel
theorem d_Model_init_121 : decode b_Model_init 121 = .ok (.if_icmp .ge 26, 3) := by decide +kernel
theorem d_Model_init_124 : decode b_Model_init 124 = .ok (.iload_n 3, 1) := by decide +kernel
theorem d_Model_init_125 : decode b_Model_init 125 = .ok (.ifCond .eq 14, 3) := by decide +kernel
theorem d_Model_init_128 : decode b_Model_init 128 = .ok (.iload_n 2, 1) := by decide +kernel
theorem d_Model_init_129 : decode b_Model_init 129 = .ok (.iload 4, 2) := by decide +kernel
theorem d_Model_init_131 : decode b_Model_init 131 = .ok (.irem, 1) := by decide +kernel
theorem d_Model_init_132 : decode b_Model_init 132 = .ok (.ifCond .eq 7, 3) := by decide +kernel
theorem d_Model_init_135 : decode b_Model_init 135 = .ok (.iconst 1, 1) := by decide +kernel
theorem d_Model_init_136 : decode b_Model_init 136 = .ok (.goto 4, 3) := by decide +kernel
theorem d_Model_init_139 : decode b_Model_init 139 = .ok (.iconst 0, 1) := by decide +kernel
theorem d_Model_init_140 : decode b_Model_init 140 = .ok (.istore_n 3, 1) := by decide +kernel
theorem d_Model_init_141 : decode b_Model_init 141 = .ok (.iinc 4 1, 3) := by decide +kernel
theorem d_Model_init_144 : decode b_Model_init 144 = .ok (.goto (-26), 3) := by decide +kernel
theorem d_Model_init_147 : decode b_Model_init 147 = .ok (.iload_n 3, 1) := by decide +kernel
theorem d_Model_init_148 : decode b_Model_init 148 = .ok (.ifCond .eq 34, 3) := by decide +kernel
theorem d_Model_init_151 : decode b_Model_init 151 = .ok (.aload_n 0, 1) := by decide +kernel
theorem d_Model_init_152 : decode b_Model_init 152 = .ok (.getfield 7, 3) := by decide +kernel
theorem d_Model_init_155 : decode b_Model_init 155 = .ok (.iload_n 1, 1) := by decide +kernel
theorem d_Model_init_156 : decode b_Model_init 156 = .ok (.iload_n 2, 1) := by decide +kernel
theorem d_Model_init_157 : decode b_Model_init 157 = .ok (.iconst 1, 1) := by decide +kernel
theorem d_Model_init_158 : decode b_Model_init 158 = .ok (.invokestatic 47, 3) := by decide +kernel
theorem d_Model_init_161 : decode b_Model_init 161 = .ok (.iastore, 1) := by decide +kernel
theorem d_Model_init_162 : decode b_Model_init 162 = .ok (.iload_n 1, 1) := by decide +kernel
theorem d_Model_init_163 : decode b_Model_init 163 = .ok (.bipush 8, 2) := by decide +kernel
theorem d_Model_init_165 : decode b_Model_init 165 = .ok (.if_icmp .ge 14, 3) := by decide +kernel
theorem d_Model_init_168 : decode b_Model_init 168 = .ok (.aload_n 0, 1) := by decide +kernel
theorem d_Model_init_169 : decode b_Model_init 169 = .ok (.getfield 13, 3) := by decide +kernel
theorem d_Model_init_172 : decode b_Model_init 172 = .ok (.iload_n 1, 1) := by decide +kernel
theorem d_Model_init_173 : decode b_Model_init 173 = .ok (.iload_n 2, 1) := by decide +kernel
theorem d_Model_init_174 : decode b_Model_init 174 = .ok (.iconst 0, 1) := by decide +kernel
theorem d_Model_init_175 : decode b_Model_init 175 = .ok (.invokestatic 47, 3) := by decide +kernel
theorem d_Model_init_178 : decode b_Model_init 178 = .ok (.iastore, 1) := by decide +kernel
theorem d_Model_init_179 : decode b_Model_init 179 = .ok (.iinc 1 1, 3) := by decide +kernel
theorem d_Model_init_182 : decode b_Model_init 182 = .ok (.iinc 2 1, 3) := by decide +kernel
theorem d_Model_init_185 : decode b_Model_init 185 = .ok (.goto (-78), 3) := by decide +kernel
theorem d_Model_init_188 : decode b_Model_init 188 = .ok (.return_, 1) := by decide +kernel
theorem d_Model_isAtMost_0 : decode b_Model_isAtMost 0 = .ok (.lload_n 0, 1) := by decide +kernel
theorem d_Model_isAtMost_1 : decode b_Model_isAtMost 1 = .ok (.bipush 18, 2) := by decide +kernel
theorem d_Model_isAtMost_3 : decode b_Model_isAtMost 3 = .ok (.lshr, 1) := by decide +kernel
theorem d_Model_isAtMost_4 : decode b_Model_isAtMost 4 = .ok (.lstore 4, 2) := by decide +kernel
theorem d_Model_isAtMost_6 : decode b_Model_isAtMost 6 = .ok (.lload_n 0, 1) := by decide +kernel
theorem d_Model_isAtMost_7 : decode b_Model_isAtMost 7 = .ok (.ldc2_w 51, 3) := by decide +kernel
theorem d_Model_isAtMost_10 : decode b_Model_isAtMost 10 = .ok (.land, 1) := by decide +kernel
theorem d_Model_isAtMost_11 : decode b_Model_isAtMost 11 = .ok (.lstore 6, 2) := by decide +kernel
theorem d_Model_isAtMost_13 : decode b_Model_isAtMost 13 = .ok (.lload 6, 2) := by decide +kernel
theorem d_Model_isAtMost_15 : decode b_Model_isAtMost 15 = .ok (.lload 6, 2) := by decide +kernel
theorem d_Model_isAtMost_17 : decode b_Model_isAtMost 17 = .ok (.lmul, 1) := by decide +kernel
theorem d_Model_isAtMost_18 : decode b_Model_isAtMost 18 = .ok (.lstore 8, 2) := by decide +kernel
theorem d_Model_isAtMost_20 : decode b_Model_isAtMost 20 = .ok (.ldc2_w 53, 3) := by decide +kernel
theorem d_Model_isAtMost_23 : decode b_Model_isAtMost 23 = .ok (.lload 4, 2) := by decide +kernel
theorem d_Model_isAtMost_25 : decode b_Model_isAtMost 25 = .ok (.lmul, 1) := by decide +kernel
theorem d_Model_isAtMost_26 : decode b_Model_isAtMost 26 = .ok (.lload 6, 2) := by decide +kernel
theorem d_Model_isAtMost_28 : decode b_Model_isAtMost 28 = .ok (.lmul, 1) := by decide +kernel
theorem d_Model_isAtMost_29 : decode b_Model_isAtMost 29 = .ok (.lload 8, 2) := by decide +kernel
theorem d_Model_isAtMost_31 : decode b_Model_isAtMost 31 = .ok (.bipush 18, 2) := by decide +kernel
theorem d_Model_isAtMost_33 : decode b_Model_isAtMost 33 = .ok (.lshr, 1) := by decide +kernel
theorem d_Model_isAtMost_34 : decode b_Model_isAtMost 34 = .ok (.ladd, 1) := by decide +kernel
theorem d_Model_isAtMost_35 : decode b_Model_isAtMost 35 = .ok (.lstore 10, 2) := by decide +kernel
theorem d_Model_isAtMost_37 : decode b_Model_isAtMost 37 = .ok (.lload 8, 2) := by decide +kernel
theorem d_Model_isAtMost_39 : decode b_Model_isAtMost 39 = .ok (.ldc2_w 51, 3) := by decide +kernel
theorem d_Model_isAtMost_42 : decode b_Model_isAtMost 42 = .ok (.land, 1) := by decide +kernel
theorem d_Model_isAtMost_43 : decode b_Model_isAtMost 43 = .ok (.lstore 8, 2) := by decide +kernel
theorem d_Model_isAtMost_45 : decode b_Model_isAtMost 45 = .ok (.lload 4, 2) := by decide +kernel
theorem d_Model_isAtMost_47 : decode b_Model_isAtMost 47 = .ok (.lload 4, 2) := by decide +kernel
theorem d_Model_isAtMost_49 : decode b_Model_isAtMost 49 = .ok (.lmul, 1) := by decide +kernel
theorem d_Model_isAtMost_50 : decode b_Model_isAtMost 50 = .ok (.lload 10, 2) := by decide +kernel
theorem d_Model_isAtMost_52 : decode b_Model_isAtMost 52 = .ok (.bipush 18, 2) := by decide +kernel
theorem d_Model_isAtMost_54 : decode b_Model_isAtMost 54 = .ok (.lshr, 1) := by decide +kernel
theorem d_Model_isAtMost_55 : decode b_Model_isAtMost 55 = .ok (.ladd, 1) := by decide +kernel
theorem d_Model_isAtMost_56 : decode b_Model_isAtMost 56 = .ok (.lstore 12, 2) := by decide +kernel
theorem d_Model_isAtMost_58 : decode b_Model_isAtMost 58 = .ok (.lload 10, 2) := by decide +kernel
theorem d_Model_isAtMost_60 : decode b_Model_isAtMost 60 = .ok (.ldc2_w 51, 3) := by decide +kernel
theorem d_Model_isAtMost_63 : decode b_Model_isAtMost 63 = .ok (.land, 1) := by decide +kernel
theorem d_Model_isAtMost_64 : decode b_Model_isAtMost 64 = .ok (.lstore 10, 2) := by decide +kernel
theorem d_Model_isAtMost_66 : decode b_Model_isAtMost 66 = .ok (.iload_n 3, 1) := by decide +kernel
theorem d_Model_isAtMost_67 : decode b_Model_isAtMost 67 = .ok (.ifCond .ne 41, 3) := by decide +kernel
theorem d_Model_isAtMost_70 : decode b_Model_isAtMost 70 = .ok (.lload 12, 2) := by decide +kernel
theorem d_Model_isAtMost_72 : decode b_Model_isAtMost 72 = .ok (.iload_n 2, 1) := by decide +kernel
theorem d_Model_isAtMost_73 : decode b_Model_isAtMost 73 = .ok (.i2l, 1) := by decide +kernel
theorem d_Model_isAtMost_74 : decode b_Model_isAtMost 74 = .ok (.bipush 28, 2) := by decide +kernel
theorem d_Model_isAtMost_76 : decode b_Model_isAtMost 76 = .ok (.lshl, 1) := by decide +kernel
theorem d_Model_isAtMost_77 : decode b_Model_isAtMost 77 = .ok (.lcmp, 1) := by decide +kernel
theorem d_Model_isAtMost_78 : decode b_Model_isAtMost 78 = .ok (.ifCond .lt 24, 3) := by decide +kernel
theorem d_Model_isAtMost_81 : decode b_Model_isAtMost 81 = .ok (.lload 12, 2) := by decide +kernel
theorem d_Model_isAtMost_83 : decode b_Model_isAtMost 83 = .ok (.iload_n 2, 1) := by decide +kernel
theorem d_Model_isAtMost_84 : decode b_Model_isAtMost 84 = .ok (.i2l, 1) := by decide +kernel
theorem d_Model_isAtMost_85 : decode b_Model_isAtMost 85 = .ok (.bipush 28, 2) := by decide +kernel
theorem d_Model_isAtMost_87 : decode b_Model_isAtMost 87 = .ok (.lshl, 1) := by decide +kernel
theorem d_Model_isAtMost_88 : decode b_Model_isAtMost 88 = .ok (.lcmp, 1) := by decide +kernel
theorem d_Model_isAtMost_89 : decode b_Model_isAtMost 89 = .ok (.ifCond .ne 17, 3) := by decide +kernel
theorem d_Model_isAtMost_92 : decode b_Model_isAtMost 92 = .ok (.lload 10, 2) := by decide +kernel
theorem d_Model_isAtMost_94 : decode b_Model_isAtMost 94 = .ok (.lload 8, 2) := by decide +kernel
theorem d_Model_isAtMost_96 : decode b_Model_isAtMost 96 = .ok (.ladd, 1) := by decide +kernel
theorem d_Model_isAtMost_97 : decode b_Model_isAtMost 97 = .ok (.lconst 0, 1) := by decide +kernel
theorem d_Model_isAtMost_98 : decode b_Model_isAtMost 98 = .ok (.lcmp, 1) := by decide +kernel
theorem d_Model_isAtMost_99 : decode b_Model_isAtMost 99 = .ok (.ifCond .ne 7, 3) := by decide +kernel
theorem d_Model_isAtMost_102 : decode b_Model_isAtMost 102 = .ok (.iconst 1, 1) := by decide +kernel
theorem d_Model_isAtMost_103 : decode b_Model_isAtMost 103 = .ok (.goto 4, 3) := by decide +kernel
theorem d_Model_isAtMost_106 : decode b_Model_isAtMost 106 = .ok (.iconst 0, 1) := by decide +kernel
theorem d_Model_isAtMost_107 : decode b_Model_isAtMost 107 = .ok (.ireturn, 1) := by decide +kernel
theorem d_Model_isAtMost_108 : decode b_Model_isAtMost 108 = .ok (.lload 8, 2) := by decide +kernel
theorem d_Model_isAtMost_110 : decode b_Model_isAtMost 110 = .ok (.lload 6, 2) := by decide +kernel
theorem d_Model_isAtMost_112 : decode b_Model_isAtMost 112 = .ok (.lmul, 1) := by decide +kernel
theorem d_Model_isAtMost_113 : decode b_Model_isAtMost 113 = .ok (.lstore 14, 2) := by decide +kernel
theorem d_Model_isAtMost_115 : decode b_Model_isAtMost 115 = .ok (.lload 8, 2) := by decide +kernel
theorem d_Model_isAtMost_117 : decode b_Model_isAtMost 117 = .ok (.lload 4, 2) := by decide +kernel
theorem d_Model_isAtMost_119 : decode b_Model_isAtMost 119 = .ok (.lmul, 1) := by decide +kernel
theorem d_Model_isAtMost_120 : decode b_Model_isAtMost 120 = .ok (.lload 10, 2) := by decide +kernel
theorem d_Model_isAtMost_122 : decode b_Model_isAtMost 122 = .ok (.lload 6, 2) := by decide +kernel
theorem d_Model_isAtMost_124 : decode b_Model_isAtMost 124 = .ok (.lmul, 1) := by decide +kernel
theorem d_Model_isAtMost_125 : decode b_Model_isAtMost 125 = .ok (.ladd, 1) := by decide +kernel
theorem d_Model_isAtMost_126 : decode b_Model_isAtMost 126 = .ok (.lload 14, 2) := by decide +kernel
theorem d_Model_isAtMost_128 : decode b_Model_isAtMost 128 = .ok (.bipush 18, 2) := by decide +kernel
theorem d_Model_isAtMost_130 : decode b_Model_isAtMost 130 = .ok (.lshr, 1) := by decide +kernel
theorem d_Model_isAtMost_131 : decode b_Model_isAtMost 131 = .ok (.ladd, 1) := by decide +kernel
theorem d_Model_isAtMost_132 : decode b_Model_isAtMost 132 = .ok (.lstore 16, 2) := by decide +kernel
theorem d_Model_isAtMost_134 : decode b_Model_isAtMost 134 = .ok (.lload 10, 2) := by decide +kernel
theorem d_Model_isAtMost_136 : decode b_Model_isAtMost 136 = .ok (.lload 4, 2) := by decide +kernel
theorem d_Model_isAtMost_138 : decode b_Model_isAtMost 138 = .ok (.lmul, 1) := by decide +kernel
theorem d_Model_isAtMost_139 : decode b_Model_isAtMost 139 = .ok (.lload 12, 2) := by decide +kernel
theorem d_Model_isAtMost_141 : decode b_Model_isAtMost 141 = .ok (.lload 6, 2) := by decide +kernel
theorem d_Model_isAtMost_143 : decode b_Model_isAtMost 143 = .ok (.lmul, 1) := by decide +kernel
theorem d_Model_isAtMost_144 : decode b_Model_isAtMost 144 = .ok (.ladd, 1) := by decide +kernel
theorem d_Model_isAtMost_145 : decode b_Model_isAtMost 145 = .ok (.lload 16, 2) := by decide +kernel
theorem d_Model_isAtMost_147 : decode b_Model_isAtMost 147 = .ok (.bipush 18, 2) := by decide +kernel
theorem d_Model_isAtMost_149 : decode b_Model_isAtMost 149 = .ok (.lshr, 1) := by decide +kernel
theorem d_Model_isAtMost_150 : decode b_Model_isAtMost 150 = .ok (.ladd, 1) := by decide +kernel
theorem d_Model_isAtMost_151 : decode b_Model_isAtMost 151 = .ok (.lstore 18, 2) := by decide +kernel
theorem d_Model_isAtMost_153 : decode b_Model_isAtMost 153 = .ok (.lload 12, 2) := by decide +kernel
theorem d_Model_isAtMost_155 : decode b_Model_isAtMost 155 = .ok (.lload 4, 2) := by decide +kernel
theorem d_Model_isAtMost_157 : decode b_Model_isAtMost 157 = .ok (.lmul, 1) := by decide +kernel
theorem d_Model_isAtMost_158 : decode b_Model_isAtMost 158 = .ok (.lload 18, 2) := by decide +kernel
theorem d_Model_isAtMost_160 : decode b_Model_isAtMost 160 = .ok (.bipush 18, 2) := by decide +kernel
theorem d_Model_isAtMost_162 : decode b_Model_isAtMost 162 = .ok (.lshr, 1) := by decide +kernel
theorem d_Model_isAtMost_163 : decode b_Model_isAtMost 163 = .ok (.ladd, 1) := by decide +kernel
theorem d_Model_isAtMost_164 : decode b_Model_isAtMost 164 = .ok (.lstore 20, 2) := by decide +kernel
theorem d_Model_isAtMost_166 : decode b_Model_isAtMost 166 = .ok (.lload 14, 2) := by decide +kernel
theorem d_Model_isAtMost_168 : decode b_Model_isAtMost 168 = .ok (.ldc2_w 51, 3) := by decide +kernel
theorem d_Model_isAtMost_171 : decode b_Model_isAtMost 171 = .ok (.land, 1) := by decide +kernel
theorem d_Model_isAtMost_172 : decode b_Model_isAtMost 172 = .ok (.lload 16, 2) := by decide +kernel
theorem d_Model_isAtMost_174 : decode b_Model_isAtMost 174 = .ok (.ldc2_w 51, 3) := by decide +kernel
theorem d_Model_isAtMost_177 : decode b_Model_isAtMost 177 = .ok (.land, 1) := by decide +kernel
theorem d_Model_isAtMost_178 : decode b_Model_isAtMost 178 = .ok (.ladd, 1) := by decide +kernel
theorem d_Model_isAtMost_179 : decode b_Model_isAtMost 179 = .ok (.lload 18, 2) := by decide +kernel
theorem d_Model_isAtMost_181 : decode b_Model_isAtMost 181 = .ok (.ldc2_w 51, 3) := by decide +kernel
theorem d_Model_isAtMost_184 : decode b_Model_isAtMost 184 = .ok (.land, 1) := by decide +kernel
theorem d_Model_isAtMost_185 : decode b_Model_isAtMost 185 = .ok (.ladd, 1) := by decide +kernel
theorem d_Model_isAtMost_186 : decode b_Model_isAtMost 186 = .ok (.lstore 22, 2) := by decide +kernel
theorem d_Model_isAtMost_188 : decode b_Model_isAtMost 188 = .ok (.lload 20, 2) := by decide +kernel
theorem d_Model_isAtMost_190 : decode b_Model_isAtMost 190 = .ok (.iload_n 2, 1) := by decide +kernel
theorem d_Model_isAtMost_191 : decode b_Model_isAtMost 191 = .ok (.i2l, 1) := by decide +kernel
theorem d_Model_isAtMost_192 : decode b_Model_isAtMost 192 = .ok (.bipush 42, 2) := by decide +kernel
theorem d_Model_isAtMost_194 : decode b_Model_isAtMost 194 = .ok (.lshl, 1) := by decide +kernel
theorem d_Model_isAtMost_195 : decode b_Model_isAtMost 195 = .ok (.lcmp, 1) := by decide +kernel
theorem d_Model_isAtMost_196 : decode b_Model_isAtMost 196 = .ok (.ifCond .lt 21, 3) := by decide +kernel
theorem d_Model_isAtMost_199 : decode b_Model_isAtMost 199 = .ok (.lload 20, 2) := by decide +kernel
theorem d_Model_isAtMost_201 : decode b_Model_isAtMost 201 = .ok (.iload_n 2, 1) := by decide +kernel
theorem d_Model_isAtMost_202 : decode b_Model_isAtMost 202 = .ok (.i2l, 1) := by decide +kernel
theorem d_Model_isAtMost_203 : decode b_Model_isAtMost 203 = .ok (.bipush 42, 2) := by decide +kernel
theorem d_Model_isAtMost_205 : decode b_Model_isAtMost 205 = .ok (.lshl, 1) := by decide +kernel
theorem d_Model_isAtMost_206 : decode b_Model_isAtMost 206 = .ok (.lcmp, 1) := by decide +kernel
theorem d_Model_isAtMost_207 : decode b_Model_isAtMost 207 = .ok (.ifCond .ne 14, 3) := by decide +kernel
theorem d_Model_isAtMost_210 : decode b_Model_isAtMost 210 = .ok (.lload 22, 2) := by decide +kernel
theorem d_Model_isAtMost_212 : decode b_Model_isAtMost 212 = .ok (.lconst 0, 1) := by decide +kernel
theorem d_Model_isAtMost_213 : decode b_Model_isAtMost 213 = .ok (.lcmp, 1) := by decide +kernel
theorem d_Model_isAtMost_214 : decode b_Model_isAtMost 214 = .ok (.ifCond .ne 7, 3) := by decide +kernel
theorem d_Model_isAtMost_217 : decode b_Model_isAtMost 217 = .ok (.iconst 1, 1) := by decide +kernel
theorem d_Model_isAtMost_218 : decode b_Model_isAtMost 218 = .ok (.goto 4, 3) := by decide +kernel
theorem d_Model_isAtMost_221 : decode b_Model_isAtMost 221 = .ok (.iconst 0, 1) := by decide +kernel
theorem d_Model_isAtMost_222 : decode b_Model_isAtMost 222 = .ok (.ireturn, 1) := by decide +kernel
theorem d_Model_root_0 : decode b_Model_root 0 = .ok (.lconst 0, 1) := by decide +kernel
theorem d_Model_root_1 : decode b_Model_root 1 = .ok (.lstore_n 2, 1) := by decide +kernel
theorem d_Model_root_2 : decode b_Model_root 2 = .ok (.ldc2_w 55, 3) := by decide +kernel
theorem d_Model_root_5 : decode b_Model_root 5 = .ok (.lstore 4, 2) := by decide +kernel
theorem d_Model_root_7 : decode b_Model_root 7 = .ok (.lload 4, 2) := by decide +kernel
theorem d_Model_root_9 : decode b_Model_root 9 = .ok (.lload_n 2, 1) := by decide +kernel
theorem d_Model_root_10 : decode b_Model_root 10 = .ok (.lsub, 1) := by decide +kernel
theorem d_Model_root_11 : decode b_Model_root 11 = .ok (.lconst 1, 1) := by decide +kernel
theorem d_Model_root_12 : decode b_Model_root 12 = .ok (.lcmp, 1) := by decide +kernel
theorem d_Model_root_13 : decode b_Model_root 13 = .ok (.ifCond .le 36, 3) := by decide +kernel
theorem d_Model_root_16 : decode b_Model_root 16 = .ok (.lload_n 2, 1) := by decide +kernel
theorem d_Model_root_17 : decode b_Model_root 17 = .ok (.lload 4, 2) := by decide +kernel
theorem d_Model_root_19 : decode b_Model_root 19 = .ok (.ladd, 1) := by decide +kernel
theorem d_Model_root_20 : decode b_Model_root 20 = .ok (.ldc2_w 53, 3) := by decide +kernel
theorem d_Model_root_23 : decode b_Model_root 23 = .ok (.ldiv, 1) := by decide +kernel
theorem d_Model_root_24 : decode b_Model_root 24 = .ok (.lstore 6, 2) := by decide +kernel
theorem d_Model_root_26 : decode b_Model_root 26 = .ok (.lload 6, 2) := by decide +kernel
theorem d_Model_root_28 : decode b_Model_root 28 = .ok (.iload_n 0, 1) := by decide +kernel
theorem d_Model_root_29 : decode b_Model_root 29 = .ok (.iload_n 1, 1) := by decide +kernel
theorem d_Model_root_30 : decode b_Model_root 30 = .ok (.invokestatic 57, 3) := by decide +kernel
theorem d_Model_root_33 : decode b_Model_root 33 = .ok (.ifCond .eq 9, 3) := by decide +kernel
theorem d_Model_root_36 : decode b_Model_root 36 = .ok (.lload 6, 2) := by decide +kernel
theorem d_Model_root_38 : decode b_Model_root 38 = .ok (.lstore_n 2, 1) := by decide +kernel
theorem d_Model_root_39 : decode b_Model_root 39 = .ok (.goto 7, 3) := by decide +kernel
theorem d_Model_root_42 : decode b_Model_root 42 = .ok (.lload 6, 2) := by decide +kernel
theorem d_Model_root_44 : decode b_Model_root 44 = .ok (.lstore 4, 2) := by decide +kernel
theorem d_Model_root_46 : decode b_Model_root 46 = .ok (.goto (-39), 3) := by decide +kernel
theorem d_Model_root_49 : decode b_Model_root 49 = .ok (.lload_n 2, 1) := by decide +kernel
theorem d_Model_root_50 : decode b_Model_root 50 = .ok (.l2i, 1) := by decide +kernel
theorem d_Model_root_51 : decode b_Model_root 51 = .ok (.ireturn, 1) := by decide +kernel
theorem d_Model_word_0 : decode b_Model_word 0 = .ok (.iload_n 1, 1) := by decide +kernel
theorem d_Model_word_1 : decode b_Model_word 1 = .ok (.ifCond .ne 22, 3) := by decide +kernel
theorem d_Model_word_4 : decode b_Model_word 4 = .ok (.iload_n 2, 1) := by decide +kernel
theorem d_Model_word_5 : decode b_Model_word 5 = .ok (.ifCond .lt 18, 3) := by decide +kernel
theorem d_Model_word_8 : decode b_Model_word 8 = .ok (.iload_n 2, 1) := by decide +kernel
theorem d_Model_word_9 : decode b_Model_word 9 = .ok (.bipush 64, 2) := by decide +kernel
theorem d_Model_word_11 : decode b_Model_word 11 = .ok (.if_icmp .ge 12, 3) := by decide +kernel
theorem d_Model_word_14 : decode b_Model_word 14 = .ok (.aload_n 0, 1) := by decide +kernel
theorem d_Model_word_15 : decode b_Model_word 15 = .ok (.getfield 7, 3) := by decide +kernel
theorem d_Model_word_18 : decode b_Model_word 18 = .ok (.iload_n 2, 1) := by decide +kernel
theorem d_Model_word_19 : decode b_Model_word 19 = .ok (.iaload, 1) := by decide +kernel
theorem d_Model_word_20 : decode b_Model_word 20 = .ok (.goto 28, 3) := by decide +kernel
theorem d_Model_word_23 : decode b_Model_word 23 = .ok (.iload_n 1, 1) := by decide +kernel
theorem d_Model_word_24 : decode b_Model_word 24 = .ok (.iconst 1, 1) := by decide +kernel
theorem d_Model_word_25 : decode b_Model_word 25 = .ok (.if_icmp .ne 22, 3) := by decide +kernel
theorem d_Model_word_28 : decode b_Model_word 28 = .ok (.iload_n 2, 1) := by decide +kernel
theorem d_Model_word_29 : decode b_Model_word 29 = .ok (.ifCond .lt 18, 3) := by decide +kernel
theorem d_Model_word_32 : decode b_Model_word 32 = .ok (.iload_n 2, 1) := by decide +kernel
theorem d_Model_word_33 : decode b_Model_word 33 = .ok (.bipush 8, 2) := by decide +kernel
theorem d_Model_word_35 : decode b_Model_word 35 = .ok (.if_icmp .ge 12, 3) := by decide +kernel
theorem d_Model_word_38 : decode b_Model_word 38 = .ok (.aload_n 0, 1) := by decide +kernel
theorem d_Model_word_39 : decode b_Model_word 39 = .ok (.getfield 13, 3) := by decide +kernel
theorem d_Model_word_42 : decode b_Model_word 42 = .ok (.iload_n 2, 1) := by decide +kernel
theorem d_Model_word_43 : decode b_Model_word 43 = .ok (.iaload, 1) := by decide +kernel
theorem d_Model_word_44 : decode b_Model_word 44 = .ok (.goto 4, 3) := by decide +kernel
theorem d_Model_word_47 : decode b_Model_word 47 = .ok (.iconst 0, 1) := by decide +kernel
theorem d_Model_word_48 : decode b_Model_word 48 = .ok (.ireturn, 1) := by decide +kernel
theorem d_Model_rot_0 : decode b_Model_rot 0 = .ok (.iload_n 0, 1) := by decide +kernel
theorem d_Model_rot_1 : decode b_Model_rot 1 = .ok (.iload_n 1, 1) := by decide +kernel
theorem d_Model_rot_2 : decode b_Model_rot 2 = .ok (.iushr, 1) := by decide +kernel
theorem d_Model_rot_3 : decode b_Model_rot 3 = .ok (.iload_n 0, 1) := by decide +kernel
theorem d_Model_rot_4 : decode b_Model_rot 4 = .ok (.bipush 32, 2) := by decide +kernel
theorem d_Model_rot_6 : decode b_Model_rot 6 = .ok (.iload_n 1, 1) := by decide +kernel
theorem d_Model_rot_7 : decode b_Model_rot 7 = .ok (.isub, 1) := by decide +kernel
theorem d_Model_rot_8 : decode b_Model_rot 8 = .ok (.ishl, 1) := by decide +kernel
theorem d_Model_rot_9 : decode b_Model_rot 9 = .ok (.ior, 1) := by decide +kernel
theorem d_Model_rot_10 : decode b_Model_rot 10 = .ok (.ireturn, 1) := by decide +kernel
theorem d_Model_lay_0 : decode b_Model_lay 0 = .ok (.aload_n 0, 1) := by decide +kernel
theorem d_Model_lay_1 : decode b_Model_lay 1 = .ok (.getfield 29, 3) := by decide +kernel
theorem d_Model_lay_4 : decode b_Model_lay 4 = .ok (.aload_n 0, 1) := by decide +kernel
theorem d_Model_lay_5 : decode b_Model_lay 5 = .ok (.getfield 61, 3) := by decide +kernel
theorem d_Model_lay_8 : decode b_Model_lay 8 = .ok (.iload_n 1, 1) := by decide +kernel
theorem d_Model_lay_9 : decode b_Model_lay 9 = .ok (.i2b, 1) := by decide +kernel
theorem d_Model_lay_10 : decode b_Model_lay 10 = .ok (.bastore, 1) := by decide +kernel
theorem d_Model_lay_11 : decode b_Model_lay 11 = .ok (.aload_n 0, 1) := by decide +kernel
theorem d_Model_lay_12 : decode b_Model_lay 12 = .ok (.dup, 1) := by decide +kernel
theorem d_Model_lay_13 : decode b_Model_lay 13 = .ok (.getfield 61, 3) := by decide +kernel
theorem d_Model_lay_16 : decode b_Model_lay 16 = .ok (.iconst 1, 1) := by decide +kernel
theorem d_Model_lay_17 : decode b_Model_lay 17 = .ok (.iadd, 1) := by decide +kernel
theorem d_Model_lay_18 : decode b_Model_lay 18 = .ok (.putfield 61, 3) := by decide +kernel
theorem d_Model_lay_21 : decode b_Model_lay 21 = .ok (.return_, 1) := by decide +kernel
theorem d_Model_reckon_0 : decode b_Model_reckon 0 = .ok (.bipush 8, 2) := by decide +kernel
theorem d_Model_reckon_2 : decode b_Model_reckon 2 = .ok (.aload_n 0, 1) := by decide +kernel
theorem d_Model_reckon_3 : decode b_Model_reckon 3 = .ok (.getfield 61, 3) := by decide +kernel
theorem d_Model_reckon_6 : decode b_Model_reckon 6 = .ok (.imul, 1) := by decide +kernel
theorem d_Model_reckon_7 : decode b_Model_reckon 7 = .ok (.istore_n 1, 1) := by decide +kernel
theorem d_Model_reckon_8 : decode b_Model_reckon 8 = .ok (.aload_n 0, 1) := by decide +kernel
theorem d_Model_reckon_9 : decode b_Model_reckon 9 = .ok (.sipush 128, 3) := by decide +kernel
theorem d_Model_reckon_12 : decode b_Model_reckon 12 = .ok (.invokevirtual 65, 3) := by decide +kernel
theorem d_Model_reckon_15 : decode b_Model_reckon 15 = .ok (.aload_n 0, 1) := by decide +kernel
theorem d_Model_reckon_16 : decode b_Model_reckon 16 = .ok (.getfield 61, 3) := by decide +kernel
theorem d_Model_reckon_19 : decode b_Model_reckon 19 = .ok (.bipush 64, 2) := by decide +kernel
theorem d_Model_reckon_21 : decode b_Model_reckon 21 = .ok (.irem, 1) := by decide +kernel
theorem d_Model_reckon_22 : decode b_Model_reckon 22 = .ok (.bipush 56, 2) := by decide +kernel
theorem d_Model_reckon_24 : decode b_Model_reckon 24 = .ok (.if_icmp .eq 11, 3) := by decide +kernel
theorem d_Model_reckon_27 : decode b_Model_reckon 27 = .ok (.aload_n 0, 1) := by decide +kernel
theorem d_Model_reckon_28 : decode b_Model_reckon 28 = .ok (.iconst 0, 1) := by decide +kernel
theorem d_Model_reckon_29 : decode b_Model_reckon 29 = .ok (.invokevirtual 65, 3) := by decide +kernel
theorem d_Model_reckon_32 : decode b_Model_reckon 32 = .ok (.goto (-17), 3) := by decide +kernel
theorem d_Model_reckon_35 : decode b_Model_reckon 35 = .ok (.bipush 7, 2) := by decide +kernel
theorem d_Model_reckon_37 : decode b_Model_reckon 37 = .ok (.istore_n 2, 1) := by decide +kernel
theorem d_Model_reckon_38 : decode b_Model_reckon 38 = .ok (.iload_n 2, 1) := by decide +kernel
theorem d_Model_reckon_39 : decode b_Model_reckon 39 = .ok (.ifCond .lt 28, 3) := by decide +kernel
theorem d_Model_reckon_42 : decode b_Model_reckon 42 = .ok (.aload_n 0, 1) := by decide +kernel
theorem d_Model_reckon_43 : decode b_Model_reckon 43 = .ok (.iload_n 2, 1) := by decide +kernel
theorem d_Model_reckon_44 : decode b_Model_reckon 44 = .ok (.iconst 3, 1) := by decide +kernel
theorem d_Model_reckon_45 : decode b_Model_reckon 45 = .ok (.if_icmp .le 7, 3) := by decide +kernel
theorem d_Model_reckon_48 : decode b_Model_reckon 48 = .ok (.iconst 0, 1) := by decide +kernel
theorem d_Model_reckon_49 : decode b_Model_reckon 49 = .ok (.goto 9, 3) := by decide +kernel
theorem d_Model_reckon_52 : decode b_Model_reckon 52 = .ok (.iload_n 1, 1) := by decide +kernel
theorem d_Model_reckon_53 : decode b_Model_reckon 53 = .ok (.bipush 8, 2) := by decide +kernel
theorem d_Model_reckon_55 : decode b_Model_reckon 55 = .ok (.iload_n 2, 1) := by decide +kernel
theorem d_Model_reckon_56 : decode b_Model_reckon 56 = .ok (.imul, 1) := by decide +kernel
theorem d_Model_reckon_57 : decode b_Model_reckon 57 = .ok (.ishr, 1) := by decide +kernel
theorem d_Model_reckon_58 : decode b_Model_reckon 58 = .ok (.invokevirtual 65, 3) := by decide +kernel
theorem d_Model_reckon_61 : decode b_Model_reckon 61 = .ok (.iinc 2 (-1), 3) := by decide +kernel
theorem d_Model_reckon_64 : decode b_Model_reckon 64 = .ok (.goto (-26), 3) := by decide +kernel
theorem d_Model_reckon_67 : decode b_Model_reckon 67 = .ok (.iconst 0, 1) := by decide +kernel
theorem d_Model_reckon_68 : decode b_Model_reckon 68 = .ok (.istore_n 2, 1) := by decide +kernel
theorem d_Model_reckon_69 : decode b_Model_reckon 69 = .ok (.iload_n 2, 1) := by decide +kernel
theorem d_Model_reckon_70 : decode b_Model_reckon 70 = .ok (.bipush 8, 2) := by decide +kernel
theorem d_Model_reckon_72 : decode b_Model_reckon 72 = .ok (.if_icmp .ge 21, 3) := by decide +kernel
theorem d_Model_reckon_75 : decode b_Model_reckon 75 = .ok (.aload_n 0, 1) := by decide +kernel
theorem d_Model_reckon_76 : decode b_Model_reckon 76 = .ok (.getfield 35, 3) := by decide +kernel
theorem d_Model_reckon_79 : decode b_Model_reckon 79 = .ok (.iload_n 2, 1) := by decide +kernel
theorem d_Model_reckon_80 : decode b_Model_reckon 80 = .ok (.aload_n 0, 1) := by decide +kernel
theorem d_Model_reckon_81 : decode b_Model_reckon 81 = .ok (.getfield 13, 3) := by decide +kernel
theorem d_Model_reckon_84 : decode b_Model_reckon 84 = .ok (.iload_n 2, 1) := by decide +kernel
theorem d_Model_reckon_85 : decode b_Model_reckon 85 = .ok (.iaload, 1) := by decide +kernel
theorem d_Model_reckon_86 : decode b_Model_reckon 86 = .ok (.iastore, 1) := by decide +kernel
theorem d_Model_reckon_87 : decode b_Model_reckon 87 = .ok (.iinc 2 1, 3) := by decide +kernel
theorem d_Model_reckon_90 : decode b_Model_reckon 90 = .ok (.goto (-21), 3) := by decide +kernel
theorem d_Model_reckon_93 : decode b_Model_reckon 93 = .ok (.iconst 0, 1) := by decide +kernel
theorem d_Model_reckon_94 : decode b_Model_reckon 94 = .ok (.istore_n 2, 1) := by decide +kernel
theorem d_Model_reckon_95 : decode b_Model_reckon 95 = .ok (.iload_n 2, 1) := by decide +kernel
theorem d_Model_reckon_96 : decode b_Model_reckon 96 = .ok (.aload_n 0, 1) := by decide +kernel
theorem d_Model_reckon_97 : decode b_Model_reckon 97 = .ok (.getfield 61, 3) := by decide +kernel
theorem d_Model_reckon_100 : decode b_Model_reckon 100 = .ok (.if_icmp .ge 14, 3) := by decide +kernel
theorem d_Model_reckon_103 : decode b_Model_reckon 103 = .ok (.aload_n 0, 1) := by decide +kernel
theorem d_Model_reckon_104 : decode b_Model_reckon 104 = .ok (.iload_n 2, 1) := by decide +kernel
theorem d_Model_reckon_105 : decode b_Model_reckon 105 = .ok (.invokevirtual 69, 3) := by decide +kernel
theorem d_Model_reckon_108 : decode b_Model_reckon 108 = .ok (.iinc 2 64, 3) := by decide +kernel
theorem d_Model_reckon_111 : decode b_Model_reckon 111 = .ok (.goto (-16), 3) := by decide +kernel
theorem d_Model_reckon_114 : decode b_Model_reckon 114 = .ok (.iconst 0, 1) := by decide +kernel
theorem d_Model_reckon_115 : decode b_Model_reckon 115 = .ok (.istore_n 2, 1) := by decide +kernel
theorem d_Model_reckon_116 : decode b_Model_reckon 116 = .ok (.iload_n 2, 1) := by decide +kernel
theorem d_Model_reckon_117 : decode b_Model_reckon 117 = .ok (.bipush 32, 2) := by decide +kernel
theorem d_Model_reckon_119 : decode b_Model_reckon 119 = .ok (.if_icmp .ge 34, 3) := by decide +kernel
theorem d_Model_reckon_122 : decode b_Model_reckon 122 = .ok (.aload_n 0, 1) := by decide +kernel
theorem d_Model_reckon_123 : decode b_Model_reckon 123 = .ok (.getfield 32, 3) := by decide +kernel
theorem d_Model_reckon_126 : decode b_Model_reckon 126 = .ok (.iload_n 2, 1) := by decide +kernel
theorem d_Model_reckon_127 : decode b_Model_reckon 127 = .ok (.aload_n 0, 1) := by decide +kernel
theorem d_Model_reckon_128 : decode b_Model_reckon 128 = .ok (.getfield 35, 3) := by decide +kernel
theorem d_Model_reckon_131 : decode b_Model_reckon 131 = .ok (.iload_n 2, 1) := by decide +kernel
theorem d_Model_reckon_132 : decode b_Model_reckon 132 = .ok (.iconst 4, 1) := by decide +kernel
theorem d_Model_reckon_133 : decode b_Model_reckon 133 = .ok (.idiv, 1) := by decide +kernel
theorem d_Model_reckon_134 : decode b_Model_reckon 134 = .ok (.iaload, 1) := by decide +kernel
theorem d_Model_reckon_135 : decode b_Model_reckon 135 = .ok (.bipush 24, 2) := by decide +kernel
theorem d_Model_reckon_137 : decode b_Model_reckon 137 = .ok (.bipush 8, 2) := by decide +kernel
theorem d_Model_reckon_139 : decode b_Model_reckon 139 = .ok (.iload_n 2, 1) := by decide +kernel
theorem d_Model_reckon_140 : decode b_Model_reckon 140 = .ok (.iconst 4, 1) := by decide +kernel
theorem d_Model_reckon_141 : decode b_Model_reckon 141 = .ok (.irem, 1) := by decide +kernel
theorem d_Model_reckon_142 : decode b_Model_reckon 142 = .ok (.imul, 1) := by decide +kernel
theorem d_Model_reckon_143 : decode b_Model_reckon 143 = .ok (.isub, 1) := by decide +kernel
theorem d_Model_reckon_144 : decode b_Model_reckon 144 = .ok (.ishr, 1) := by decide +kernel
theorem d_Model_reckon_145 : decode b_Model_reckon 145 = .ok (.i2b, 1) := by decide +kernel
theorem d_Model_reckon_146 : decode b_Model_reckon 146 = .ok (.bastore, 1) := by decide +kernel
theorem d_Model_reckon_147 : decode b_Model_reckon 147 = .ok (.iinc 2 1, 3) := by decide +kernel
theorem d_Model_reckon_150 : decode b_Model_reckon 150 = .ok (.goto (-34), 3) := by decide +kernel
theorem d_Model_reckon_153 : decode b_Model_reckon 153 = .ok (.return_, 1) := by decide +kernel
end
section
theorem d_Model_mix_0 : decode b_Model_mix 0 = .ok (.iconst 0, 1) := by decide +kernel
theorem d_Model_mix_1 : decode b_Model_mix 1 = .ok (.istore_n 2, 1) := by decide +kernel
theorem d_Model_mix_2 : decode b_Model_mix 2 = .ok (.iload_n 2, 1) := by decide +kernel
theorem d_Model_mix_3 : decode b_Model_mix 3 = .ok (.bipush 64, 2) := by decide +kernel
theorem d_Model_mix_5 : decode b_Model_mix 5 = .ok (.if_icmp .ge 156, 3) := by decide +kernel
theorem d_Model_mix_8 : decode b_Model_mix 8 = .ok (.iload_n 2, 1) := by decide +kernel
theorem d_Model_mix_9 : decode b_Model_mix 9 = .ok (.bipush 16, 2) := by decide +kernel
theorem d_Model_mix_11 : decode b_Model_mix 11 = .ok (.if_icmp .ge 59, 3) := by decide +kernel
theorem d_Model_mix_14 : decode b_Model_mix 14 = .ok (.aload_n 0, 1) := by decide +kernel
theorem d_Model_mix_15 : decode b_Model_mix 15 = .ok (.getfield 41, 3) := by decide +kernel
theorem d_Model_mix_18 : decode b_Model_mix 18 = .ok (.iload_n 2, 1) := by decide +kernel
theorem d_Model_mix_19 : decode b_Model_mix 19 = .ok (.iconst 0, 1) := by decide +kernel
theorem d_Model_mix_20 : decode b_Model_mix 20 = .ok (.iastore, 1) := by decide +kernel
theorem d_Model_mix_21 : decode b_Model_mix 21 = .ok (.iconst 0, 1) := by decide +kernel
theorem d_Model_mix_22 : decode b_Model_mix 22 = .ok (.istore_n 3, 1) := by decide +kernel
theorem d_Model_mix_23 : decode b_Model_mix 23 = .ok (.iload_n 3, 1) := by decide +kernel
theorem d_Model_mix_24 : decode b_Model_mix 24 = .ok (.iconst 4, 1) := by decide +kernel
theorem d_Model_mix_25 : decode b_Model_mix 25 = .ok (.if_icmp .ge 42, 3) := by decide +kernel
theorem d_Model_mix_28 : decode b_Model_mix 28 = .ok (.aload_n 0, 1) := by decide +kernel
theorem d_Model_mix_29 : decode b_Model_mix 29 = .ok (.getfield 41, 3) := by decide +kernel
theorem d_Model_mix_32 : decode b_Model_mix 32 = .ok (.iload_n 2, 1) := by decide +kernel
theorem d_Model_mix_33 : decode b_Model_mix 33 = .ok (.aload_n 0, 1) := by decide +kernel
theorem d_Model_mix_34 : decode b_Model_mix 34 = .ok (.getfield 41, 3) := by decide +kernel
theorem d_Model_mix_37 : decode b_Model_mix 37 = .ok (.iload_n 2, 1) := by decide +kernel
theorem d_Model_mix_38 : decode b_Model_mix 38 = .ok (.iaload, 1) := by decide +kernel
theorem d_Model_mix_39 : decode b_Model_mix 39 = .ok (.sipush 256, 3) := by decide +kernel
theorem d_Model_mix_42 : decode b_Model_mix 42 = .ok (.imul, 1) := by decide +kernel
theorem d_Model_mix_43 : decode b_Model_mix 43 = .ok (.aload_n 0, 1) := by decide +kernel
theorem d_Model_mix_44 : decode b_Model_mix 44 = .ok (.getfield 29, 3) := by decide +kernel
theorem d_Model_mix_47 : decode b_Model_mix 47 = .ok (.iload_n 1, 1) := by decide +kernel
theorem d_Model_mix_48 : decode b_Model_mix 48 = .ok (.iconst 4, 1) := by decide +kernel
theorem d_Model_mix_49 : decode b_Model_mix 49 = .ok (.iload_n 2, 1) := by decide +kernel
theorem d_Model_mix_50 : decode b_Model_mix 50 = .ok (.imul, 1) := by decide +kernel
theorem d_Model_mix_51 : decode b_Model_mix 51 = .ok (.iadd, 1) := by decide +kernel
theorem d_Model_mix_52 : decode b_Model_mix 52 = .ok (.iload_n 3, 1) := by decide +kernel
theorem d_Model_mix_53 : decode b_Model_mix 53 = .ok (.iadd, 1) := by decide +kernel
theorem d_Model_mix_54 : decode b_Model_mix 54 = .ok (.baload, 1) := by decide +kernel
theorem d_Model_mix_55 : decode b_Model_mix 55 = .ok (.sipush 255, 3) := by decide +kernel
theorem d_Model_mix_58 : decode b_Model_mix 58 = .ok (.iand, 1) := by decide +kernel
theorem d_Model_mix_59 : decode b_Model_mix 59 = .ok (.iadd, 1) := by decide +kernel
theorem d_Model_mix_60 : decode b_Model_mix 60 = .ok (.iastore, 1) := by decide +kernel
theorem d_Model_mix_61 : decode b_Model_mix 61 = .ok (.iinc 3 1, 3) := by decide +kernel
theorem d_Model_mix_64 : decode b_Model_mix 64 = .ok (.goto (-41), 3) := by decide +kernel
theorem d_Model_mix_67 : decode b_Model_mix 67 = .ok (.goto 88, 3) := by decide +kernel
theorem d_Model_mix_70 : decode b_Model_mix 70 = .ok (.aload_n 0, 1) := by decide +kernel
theorem d_Model_mix_71 : decode b_Model_mix 71 = .ok (.getfield 41, 3) := by decide +kernel
theorem d_Model_mix_74 : decode b_Model_mix 74 = .ok (.iload_n 2, 1) := by decide +kernel
theorem d_Model_mix_75 : decode b_Model_mix 75 = .ok (.bipush 15, 2) := by decide +kernel
theorem d_Model_mix_77 : decode b_Model_mix 77 = .ok (.isub, 1) := by decide +kernel
theorem d_Model_mix_78 : decode b_Model_mix 78 = .ok (.iaload, 1) := by decide +kernel
theorem d_Model_mix_79 : decode b_Model_mix 79 = .ok (.istore_n 3, 1) := by decide +kernel
theorem d_Model_mix_80 : decode b_Model_mix 80 = .ok (.aload_n 0, 1) := by decide +kernel
theorem d_Model_mix_81 : decode b_Model_mix 81 = .ok (.getfield 41, 3) := by decide +kernel
theorem d_Model_mix_84 : decode b_Model_mix 84 = .ok (.iload_n 2, 1) := by decide +kernel
theorem d_Model_mix_85 : decode b_Model_mix 85 = .ok (.iconst 2, 1) := by decide +kernel
theorem d_Model_mix_86 : decode b_Model_mix 86 = .ok (.isub, 1) := by decide +kernel
theorem d_Model_mix_87 : decode b_Model_mix 87 = .ok (.iaload, 1) := by decide +kernel
theorem d_Model_mix_88 : decode b_Model_mix 88 = .ok (.istore 4, 2) := by decide +kernel
theorem d_Model_mix_90 : decode b_Model_mix 90 = .ok (.aload_n 0, 1) := by decide +kernel
theorem d_Model_mix_91 : decode b_Model_mix 91 = .ok (.getfield 41, 3) := by decide +kernel
theorem d_Model_mix_94 : decode b_Model_mix 94 = .ok (.iload_n 2, 1) := by decide +kernel
theorem d_Model_mix_95 : decode b_Model_mix 95 = .ok (.iload 4, 2) := by decide +kernel
theorem d_Model_mix_97 : decode b_Model_mix 97 = .ok (.bipush 17, 2) := by decide +kernel
theorem d_Model_mix_99 : decode b_Model_mix 99 = .ok (.invokestatic 72, 3) := by decide +kernel
theorem d_Model_mix_102 : decode b_Model_mix 102 = .ok (.iload 4, 2) := by decide +kernel
theorem d_Model_mix_104 : decode b_Model_mix 104 = .ok (.bipush 19, 2) := by decide +kernel
theorem d_Model_mix_106 : decode b_Model_mix 106 = .ok (.invokestatic 72, 3) := by decide +kernel
theorem d_Model_mix_109 : decode b_Model_mix 109 = .ok (.ixor, 1) := by decide +kernel
theorem d_Model_mix_110 : decode b_Model_mix 110 = .ok (.iload 4, 2) := by decide +kernel
theorem d_Model_mix_112 : decode b_Model_mix 112 = .ok (.bipush 10, 2) := by decide +kernel
theorem d_Model_mix_114 : decode b_Model_mix 114 = .ok (.iushr, 1) := by decide +kernel
theorem d_Model_mix_115 : decode b_Model_mix 115 = .ok (.ixor, 1) := by decide +kernel
theorem d_Model_mix_116 : decode b_Model_mix 116 = .ok (.aload_n 0, 1) := by decide +kernel
theorem d_Model_mix_117 : decode b_Model_mix 117 = .ok (.getfield 41, 3) := by decide +kernel
theorem d_Model_mix_120 : decode b_Model_mix 120 = .ok (.iload_n 2, 1) := by decide +kernel
theorem d_Model_mix_121 : decode b_Model_mix 121 = .ok (.bipush 7, 2) := by decide +kernel
theorem d_Model_mix_123 : decode b_Model_mix 123 = .ok (.isub, 1) := by decide +kernel
theorem d_Model_mix_124 : decode b_Model_mix 124 = .ok (.iaload, 1) := by decide +kernel
theorem d_Model_mix_125 : decode b_Model_mix 125 = .ok (.iadd, 1) := by decide +kernel
theorem d_Model_mix_126 : decode b_Model_mix 126 = .ok (.iload_n 3, 1) := by decide +kernel
theorem d_Model_mix_127 : decode b_Model_mix 127 = .ok (.bipush 7, 2) := by decide +kernel
theorem d_Model_mix_129 : decode b_Model_mix 129 = .ok (.invokestatic 72, 3) := by decide +kernel
theorem d_Model_mix_132 : decode b_Model_mix 132 = .ok (.iload_n 3, 1) := by decide +kernel
theorem d_Model_mix_133 : decode b_Model_mix 133 = .ok (.bipush 18, 2) := by decide +kernel
theorem d_Model_mix_135 : decode b_Model_mix 135 = .ok (.invokestatic 72, 3) := by decide +kernel
theorem d_Model_mix_138 : decode b_Model_mix 138 = .ok (.ixor, 1) := by decide +kernel
theorem d_Model_mix_139 : decode b_Model_mix 139 = .ok (.iload_n 3, 1) := by decide +kernel
theorem d_Model_mix_140 : decode b_Model_mix 140 = .ok (.iconst 3, 1) := by decide +kernel
theorem d_Model_mix_141 : decode b_Model_mix 141 = .ok (.iushr, 1) := by decide +kernel
theorem d_Model_mix_142 : decode b_Model_mix 142 = .ok (.ixor, 1) := by decide +kernel
theorem d_Model_mix_143 : decode b_Model_mix 143 = .ok (.iadd, 1) := by decide +kernel
theorem d_Model_mix_144 : decode b_Model_mix 144 = .ok (.aload_n 0, 1) := by decide +kernel
theorem d_Model_mix_145 : decode b_Model_mix 145 = .ok (.getfield 41, 3) := by decide +kernel
theorem d_Model_mix_148 : decode b_Model_mix 148 = .ok (.iload_n 2, 1) := by decide +kernel
theorem d_Model_mix_149 : decode b_Model_mix 149 = .ok (.bipush 16, 2) := by decide +kernel
theorem d_Model_mix_151 : decode b_Model_mix 151 = .ok (.isub, 1) := by decide +kernel
theorem d_Model_mix_152 : decode b_Model_mix 152 = .ok (.iaload, 1) := by decide +kernel
theorem d_Model_mix_153 : decode b_Model_mix 153 = .ok (.iadd, 1) := by decide +kernel
theorem d_Model_mix_154 : decode b_Model_mix 154 = .ok (.iastore, 1) := by decide +kernel
theorem d_Model_mix_155 : decode b_Model_mix 155 = .ok (.iinc 2 1, 3) := by decide +kernel
theorem d_Model_mix_158 : decode b_Model_mix 158 = .ok (.goto (-156), 3) := by decide +kernel
theorem d_Model_mix_161 : decode b_Model_mix 161 = .ok (.iconst 0, 1) := by decide +kernel
theorem d_Model_mix_162 : decode b_Model_mix 162 = .ok (.istore_n 2, 1) := by decide +kernel
theorem d_Model_mix_163 : decode b_Model_mix 163 = .ok (.iload_n 2, 1) := by decide +kernel
theorem d_Model_mix_164 : decode b_Model_mix 164 = .ok (.bipush 8, 2) := by decide +kernel
theorem d_Model_mix_166 : decode b_Model_mix 166 = .ok (.if_icmp .ge 21, 3) := by decide +kernel
theorem d_Model_mix_169 : decode b_Model_mix 169 = .ok (.aload_n 0, 1) := by decide +kernel
theorem d_Model_mix_170 : decode b_Model_mix 170 = .ok (.getfield 38, 3) := by decide +kernel
theorem d_Model_mix_173 : decode b_Model_mix 173 = .ok (.iload_n 2, 1) := by decide +kernel
theorem d_Model_mix_174 : decode b_Model_mix 174 = .ok (.aload_n 0, 1) := by decide +kernel
theorem d_Model_mix_175 : decode b_Model_mix 175 = .ok (.getfield 35, 3) := by decide +kernel
theorem d_Model_mix_178 : decode b_Model_mix 178 = .ok (.iload_n 2, 1) := by decide +kernel
theorem d_Model_mix_179 : decode b_Model_mix 179 = .ok (.iaload, 1) := by decide +kernel
theorem d_Model_mix_180 : decode b_Model_mix 180 = .ok (.iastore, 1) := by decide +kernel
theorem d_Model_mix_181 : decode b_Model_mix 181 = .ok (.iinc 2 1, 3) := by decide +kernel
theorem d_Model_mix_184 : decode b_Model_mix 184 = .ok (.goto (-21), 3) := by decide +kernel
theorem d_Model_mix_187 : decode b_Model_mix 187 = .ok (.iconst 0, 1) := by decide +kernel
theorem d_Model_mix_188 : decode b_Model_mix 188 = .ok (.istore_n 2, 1) := by decide +kernel
theorem d_Model_mix_189 : decode b_Model_mix 189 = .ok (.iload_n 2, 1) := by decide +kernel
theorem d_Model_mix_190 : decode b_Model_mix 190 = .ok (.bipush 64, 2) := by decide +kernel
theorem d_Model_mix_192 : decode b_Model_mix 192 = .ok (.if_icmp .ge 204, 3) := by decide +kernel
theorem d_Model_mix_195 : decode b_Model_mix 195 = .ok (.aload_n 0, 1) := by decide +kernel
theorem d_Model_mix_196 : decode b_Model_mix 196 = .ok (.getfield 38, 3) := by decide +kernel
theorem d_Model_mix_199 : decode b_Model_mix 199 = .ok (.iconst 4, 1) := by decide +kernel
theorem d_Model_mix_200 : decode b_Model_mix 200 = .ok (.iaload, 1) := by decide +kernel
theorem d_Model_mix_201 : decode b_Model_mix 201 = .ok (.istore_n 3, 1) := by decide +kernel
theorem d_Model_mix_202 : decode b_Model_mix 202 = .ok (.aload_n 0, 1) := by decide +kernel
theorem d_Model_mix_203 : decode b_Model_mix 203 = .ok (.getfield 38, 3) := by decide +kernel
theorem d_Model_mix_206 : decode b_Model_mix 206 = .ok (.iconst 0, 1) := by decide +kernel
theorem d_Model_mix_207 : decode b_Model_mix 207 = .ok (.iaload, 1) := by decide +kernel
theorem d_Model_mix_208 : decode b_Model_mix 208 = .ok (.istore 4, 2) := by decide +kernel
theorem d_Model_mix_210 : decode b_Model_mix 210 = .ok (.aload_n 0, 1) := by decide +kernel
theorem d_Model_mix_211 : decode b_Model_mix 211 = .ok (.getfield 38, 3) := by decide +kernel
theorem d_Model_mix_214 : decode b_Model_mix 214 = .ok (.bipush 7, 2) := by decide +kernel
theorem d_Model_mix_216 : decode b_Model_mix 216 = .ok (.iaload, 1) := by decide +kernel
theorem d_Model_mix_217 : decode b_Model_mix 217 = .ok (.iload_n 3, 1) := by decide +kernel
theorem d_Model_mix_218 : decode b_Model_mix 218 = .ok (.bipush 6, 2) := by decide +kernel
theorem d_Model_mix_220 : decode b_Model_mix 220 = .ok (.invokestatic 72, 3) := by decide +kernel
theorem d_Model_mix_223 : decode b_Model_mix 223 = .ok (.iload_n 3, 1) := by decide +kernel
theorem d_Model_mix_224 : decode b_Model_mix 224 = .ok (.bipush 11, 2) := by decide +kernel
theorem d_Model_mix_226 : decode b_Model_mix 226 = .ok (.invokestatic 72, 3) := by decide +kernel
theorem d_Model_mix_229 : decode b_Model_mix 229 = .ok (.ixor, 1) := by decide +kernel
theorem d_Model_mix_230 : decode b_Model_mix 230 = .ok (.iload_n 3, 1) := by decide +kernel
theorem d_Model_mix_231 : decode b_Model_mix 231 = .ok (.bipush 25, 2) := by decide +kernel
theorem d_Model_mix_233 : decode b_Model_mix 233 = .ok (.invokestatic 72, 3) := by decide +kernel
theorem d_Model_mix_236 : decode b_Model_mix 236 = .ok (.ixor, 1) := by decide +kernel
theorem d_Model_mix_237 : decode b_Model_mix 237 = .ok (.iadd, 1) := by decide +kernel
theorem d_Model_mix_238 : decode b_Model_mix 238 = .ok (.iload_n 3, 1) := by decide +kernel
theorem d_Model_mix_239 : decode b_Model_mix 239 = .ok (.aload_n 0, 1) := by decide +kernel
theorem d_Model_mix_240 : decode b_Model_mix 240 = .ok (.getfield 38, 3) := by decide +kernel
theorem d_Model_mix_243 : decode b_Model_mix 243 = .ok (.iconst 5, 1) := by decide +kernel
theorem d_Model_mix_244 : decode b_Model_mix 244 = .ok (.iaload, 1) := by decide +kernel
theorem d_Model_mix_245 : decode b_Model_mix 245 = .ok (.iand, 1) := by decide +kernel
theorem d_Model_mix_246 : decode b_Model_mix 246 = .ok (.iload_n 3, 1) := by decide +kernel
theorem d_Model_mix_247 : decode b_Model_mix 247 = .ok (.iconst (-1), 1) := by decide +kernel
theorem d_Model_mix_248 : decode b_Model_mix 248 = .ok (.ixor, 1) := by decide +kernel
theorem d_Model_mix_249 : decode b_Model_mix 249 = .ok (.aload_n 0, 1) := by decide +kernel
theorem d_Model_mix_250 : decode b_Model_mix 250 = .ok (.getfield 38, 3) := by decide +kernel
theorem d_Model_mix_253 : decode b_Model_mix 253 = .ok (.bipush 6, 2) := by decide +kernel
theorem d_Model_mix_255 : decode b_Model_mix 255 = .ok (.iaload, 1) := by decide +kernel
theorem d_Model_mix_256 : decode b_Model_mix 256 = .ok (.iand, 1) := by decide +kernel
theorem d_Model_mix_257 : decode b_Model_mix 257 = .ok (.ixor, 1) := by decide +kernel
theorem d_Model_mix_258 : decode b_Model_mix 258 = .ok (.iadd, 1) := by decide +kernel
theorem d_Model_mix_259 : decode b_Model_mix 259 = .ok (.aload_n 0, 1) := by decide +kernel
theorem d_Model_mix_260 : decode b_Model_mix 260 = .ok (.getfield 7, 3) := by decide +kernel
theorem d_Model_mix_263 : decode b_Model_mix 263 = .ok (.iload_n 2, 1) := by decide +kernel
theorem d_Model_mix_264 : decode b_Model_mix 264 = .ok (.iaload, 1) := by decide +kernel
theorem d_Model_mix_265 : decode b_Model_mix 265 = .ok (.iadd, 1) := by decide +kernel
theorem d_Model_mix_266 : decode b_Model_mix 266 = .ok (.aload_n 0, 1) := by decide +kernel
theorem d_Model_mix_267 : decode b_Model_mix 267 = .ok (.getfield 41, 3) := by decide +kernel
theorem d_Model_mix_270 : decode b_Model_mix 270 = .ok (.iload_n 2, 1) := by decide +kernel
theorem d_Model_mix_271 : decode b_Model_mix 271 = .ok (.iaload, 1) := by decide +kernel
theorem d_Model_mix_272 : decode b_Model_mix 272 = .ok (.iadd, 1) := by decide +kernel
theorem d_Model_mix_273 : decode b_Model_mix 273 = .ok (.istore 5, 2) := by decide +kernel
theorem d_Model_mix_275 : decode b_Model_mix 275 = .ok (.iload 4, 2) := by decide +kernel
theorem d_Model_mix_277 : decode b_Model_mix 277 = .ok (.iconst 2, 1) := by decide +kernel
theorem d_Model_mix_278 : decode b_Model_mix 278 = .ok (.invokestatic 72, 3) := by decide +kernel
theorem d_Model_mix_281 : decode b_Model_mix 281 = .ok (.iload 4, 2) := by decide +kernel
theorem d_Model_mix_283 : decode b_Model_mix 283 = .ok (.bipush 13, 2) := by decide +kernel
theorem d_Model_mix_285 : decode b_Model_mix 285 = .ok (.invokestatic 72, 3) := by decide +kernel
theorem d_Model_mix_288 : decode b_Model_mix 288 = .ok (.ixor, 1) := by decide +kernel
theorem d_Model_mix_289 : decode b_Model_mix 289 = .ok (.iload 4, 2) := by decide +kernel
theorem d_Model_mix_291 : decode b_Model_mix 291 = .ok (.bipush 22, 2) := by decide +kernel
theorem d_Model_mix_293 : decode b_Model_mix 293 = .ok (.invokestatic 72, 3) := by decide +kernel
theorem d_Model_mix_296 : decode b_Model_mix 296 = .ok (.ixor, 1) := by decide +kernel
theorem d_Model_mix_297 : decode b_Model_mix 297 = .ok (.iload 4, 2) := by decide +kernel
theorem d_Model_mix_299 : decode b_Model_mix 299 = .ok (.aload_n 0, 1) := by decide +kernel
theorem d_Model_mix_300 : decode b_Model_mix 300 = .ok (.getfield 38, 3) := by decide +kernel
theorem d_Model_mix_303 : decode b_Model_mix 303 = .ok (.iconst 1, 1) := by decide +kernel
theorem d_Model_mix_304 : decode b_Model_mix 304 = .ok (.iaload, 1) := by decide +kernel
theorem d_Model_mix_305 : decode b_Model_mix 305 = .ok (.iand, 1) := by decide +kernel
theorem d_Model_mix_306 : decode b_Model_mix 306 = .ok (.iload 4, 2) := by decide +kernel
theorem d_Model_mix_308 : decode b_Model_mix 308 = .ok (.aload_n 0, 1) := by decide +kernel
theorem d_Model_mix_309 : decode b_Model_mix 309 = .ok (.getfield 38, 3) := by decide +kernel
theorem d_Model_mix_312 : decode b_Model_mix 312 = .ok (.iconst 2, 1) := by decide +kernel
theorem d_Model_mix_313 : decode b_Model_mix 313 = .ok (.iaload, 1) := by decide +kernel
theorem d_Model_mix_314 : decode b_Model_mix 314 = .ok (.iand, 1) := by decide +kernel
theorem d_Model_mix_315 : decode b_Model_mix 315 = .ok (.ixor, 1) := by decide +kernel
theorem d_Model_mix_316 : decode b_Model_mix 316 = .ok (.aload_n 0, 1) := by decide +kernel
theorem d_Model_mix_317 : decode b_Model_mix 317 = .ok (.getfield 38, 3) := by decide +kernel
theorem d_Model_mix_320 : decode b_Model_mix 320 = .ok (.iconst 1, 1) := by decide +kernel
theorem d_Model_mix_321 : decode b_Model_mix 321 = .ok (.iaload, 1) := by decide +kernel
theorem d_Model_mix_322 : decode b_Model_mix 322 = .ok (.aload_n 0, 1) := by decide +kernel
theorem d_Model_mix_323 : decode b_Model_mix 323 = .ok (.getfield 38, 3) := by decide +kernel
theorem d_Model_mix_326 : decode b_Model_mix 326 = .ok (.iconst 2, 1) := by decide +kernel
theorem d_Model_mix_327 : decode b_Model_mix 327 = .ok (.iaload, 1) := by decide +kernel
theorem d_Model_mix_328 : decode b_Model_mix 328 = .ok (.iand, 1) := by decide +kernel
theorem d_Model_mix_329 : decode b_Model_mix 329 = .ok (.ixor, 1) := by decide +kernel
theorem d_Model_mix_330 : decode b_Model_mix 330 = .ok (.iadd, 1) := by decide +kernel
theorem d_Model_mix_331 : decode b_Model_mix 331 = .ok (.istore 6, 2) := by decide +kernel
theorem d_Model_mix_333 : decode b_Model_mix 333 = .ok (.bipush 7, 2) := by decide +kernel
theorem d_Model_mix_335 : decode b_Model_mix 335 = .ok (.istore 7, 2) := by decide +kernel
theorem d_Model_mix_337 : decode b_Model_mix 337 = .ok (.iload 7, 2) := by decide +kernel
theorem d_Model_mix_339 : decode b_Model_mix 339 = .ok (.ifCond .le 25, 3) := by decide +kernel
theorem d_Model_mix_342 : decode b_Model_mix 342 = .ok (.aload_n 0, 1) := by decide +kernel
theorem d_Model_mix_343 : decode b_Model_mix 343 = .ok (.getfield 38, 3) := by decide +kernel
theorem d_Model_mix_346 : decode b_Model_mix 346 = .ok (.iload 7, 2) := by decide +kernel
theorem d_Model_mix_348 : decode b_Model_mix 348 = .ok (.aload_n 0, 1) := by decide +kernel
theorem d_Model_mix_349 : decode b_Model_mix 349 = .ok (.getfield 38, 3) := by decide +kernel
theorem d_Model_mix_352 : decode b_Model_mix 352 = .ok (.iload 7, 2) := by decide +kernel
theorem d_Model_mix_354 : decode b_Model_mix 354 = .ok (.iconst 1, 1) := by decide +kernel
theorem d_Model_mix_355 : decode b_Model_mix 355 = .ok (.isub, 1) := by decide +kernel
theorem d_Model_mix_356 : decode b_Model_mix 356 = .ok (.iaload, 1) := by decide +kernel
theorem d_Model_mix_357 : decode b_Model_mix 357 = .ok (.iastore, 1) := by decide +kernel
theorem d_Model_mix_358 : decode b_Model_mix 358 = .ok (.iinc 7 (-1), 3) := by decide +kernel
theorem d_Model_mix_361 : decode b_Model_mix 361 = .ok (.goto (-24), 3) := by decide +kernel
theorem d_Model_mix_364 : decode b_Model_mix 364 = .ok (.aload_n 0, 1) := by decide +kernel
theorem d_Model_mix_365 : decode b_Model_mix 365 = .ok (.getfield 38, 3) := by decide +kernel
theorem d_Model_mix_368 : decode b_Model_mix 368 = .ok (.iconst 4, 1) := by decide +kernel
theorem d_Model_mix_369 : decode b_Model_mix 369 = .ok (.aload_n 0, 1) := by decide +kernel
theorem d_Model_mix_370 : decode b_Model_mix 370 = .ok (.getfield 38, 3) := by decide +kernel
theorem d_Model_mix_373 : decode b_Model_mix 373 = .ok (.iconst 4, 1) := by decide +kernel
theorem d_Model_mix_374 : decode b_Model_mix 374 = .ok (.iaload, 1) := by decide +kernel
theorem d_Model_mix_375 : decode b_Model_mix 375 = .ok (.iload 5, 2) := by decide +kernel
theorem d_Model_mix_377 : decode b_Model_mix 377 = .ok (.iadd, 1) := by decide +kernel
theorem d_Model_mix_378 : decode b_Model_mix 378 = .ok (.iastore, 1) := by decide +kernel
theorem d_Model_mix_379 : decode b_Model_mix 379 = .ok (.aload_n 0, 1) := by decide +kernel
theorem d_Model_mix_380 : decode b_Model_mix 380 = .ok (.getfield 38, 3) := by decide +kernel
theorem d_Model_mix_383 : decode b_Model_mix 383 = .ok (.iconst 0, 1) := by decide +kernel
theorem d_Model_mix_384 : decode b_Model_mix 384 = .ok (.iload 5, 2) := by decide +kernel
theorem d_Model_mix_386 : decode b_Model_mix 386 = .ok (.iload 6, 2) := by decide +kernel
theorem d_Model_mix_388 : decode b_Model_mix 388 = .ok (.iadd, 1) := by decide +kernel
theorem d_Model_mix_389 : decode b_Model_mix 389 = .ok (.iastore, 1) := by decide +kernel
theorem d_Model_mix_390 : decode b_Model_mix 390 = .ok (.iinc 2 1, 3) := by decide +kernel
theorem d_Model_mix_393 : decode b_Model_mix 393 = .ok (.goto (-204), 3) := by decide +kernel
theorem d_Model_mix_396 : decode b_Model_mix 396 = .ok (.iconst 0, 1) := by decide +kernel
theorem d_Model_mix_397 : decode b_Model_mix 397 = .ok (.istore_n 2, 1) := by decide +kernel
theorem d_Model_mix_398 : decode b_Model_mix 398 = .ok (.iload_n 2, 1) := by decide +kernel
theorem d_Model_mix_399 : decode b_Model_mix 399 = .ok (.bipush 8, 2) := by decide +kernel
theorem d_Model_mix_401 : decode b_Model_mix 401 = .ok (.if_icmp .ge 28, 3) := by decide +kernel
theorem d_Model_mix_404 : decode b_Model_mix 404 = .ok (.aload_n 0, 1) := by decide +kernel
theorem d_Model_mix_405 : decode b_Model_mix 405 = .ok (.getfield 35, 3) := by decide +kernel
theorem d_Model_mix_408 : decode b_Model_mix 408 = .ok (.iload_n 2, 1) := by decide +kernel
theorem d_Model_mix_409 : decode b_Model_mix 409 = .ok (.aload_n 0, 1) := by decide +kernel
theorem d_Model_mix_410 : decode b_Model_mix 410 = .ok (.getfield 35, 3) := by decide +kernel
theorem d_Model_mix_413 : decode b_Model_mix 413 = .ok (.iload_n 2, 1) := by decide +kernel
theorem d_Model_mix_414 : decode b_Model_mix 414 = .ok (.iaload, 1) := by decide +kernel
theorem d_Model_mix_415 : decode b_Model_mix 415 = .ok (.aload_n 0, 1) := by decide +kernel
theorem d_Model_mix_416 : decode b_Model_mix 416 = .ok (.getfield 38, 3) := by decide +kernel
theorem d_Model_mix_419 : decode b_Model_mix 419 = .ok (.iload_n 2, 1) := by decide +kernel
theorem d_Model_mix_420 : decode b_Model_mix 420 = .ok (.iaload, 1) := by decide +kernel
theorem d_Model_mix_421 : decode b_Model_mix 421 = .ok (.iadd, 1) := by decide +kernel
theorem d_Model_mix_422 : decode b_Model_mix 422 = .ok (.iastore, 1) := by decide +kernel
theorem d_Model_mix_423 : decode b_Model_mix 423 = .ok (.iinc 2 1, 3) := by decide +kernel
theorem d_Model_mix_426 : decode b_Model_mix 426 = .ok (.goto (-28), 3) := by decide +kernel
theorem d_Model_mix_429 : decode b_Model_mix 429 = .ok (.return_, 1) := by decide +kernel
theorem d_Model_markOf_0 : decode b_Model_markOf 0 = .ok (.aload_n 0, 1) := by decide +kernel
theorem d_Model_markOf_1 : decode b_Model_markOf 1 = .ok (.getfield 76, 3) := by decide +kernel
theorem d_Model_markOf_4 : decode b_Model_markOf 4 = .ok (.bipush 64, 2) := by decide +kernel
theorem d_Model_markOf_6 : decode b_Model_markOf 6 = .ok (.if_icmp .le 15, 3) := by decide +kernel
theorem d_Model_markOf_9 : decode b_Model_markOf 9 = .ok (.aload_n 0, 1) := by decide +kernel
theorem d_Model_markOf_10 : decode b_Model_markOf 10 = .ok (.aload_n 0, 1) := by decide +kernel
theorem d_Model_markOf_11 : decode b_Model_markOf 11 = .ok (.getfield 16, 3) := by decide +kernel
theorem d_Model_markOf_14 : decode b_Model_markOf 14 = .ok (.aload_n 0, 1) := by decide +kernel
theorem d_Model_markOf_15 : decode b_Model_markOf 15 = .ok (.getfield 76, 3) := by decide +kernel
theorem d_Model_markOf_18 : decode b_Model_markOf 18 = .ok (.invokevirtual 79, 3) := by decide +kernel
theorem d_Model_markOf_21 : decode b_Model_markOf 21 = .ok (.iconst 0, 1) := by decide +kernel
theorem d_Model_markOf_22 : decode b_Model_markOf 22 = .ok (.istore_n 3, 1) := by decide +kernel
theorem d_Model_markOf_23 : decode b_Model_markOf 23 = .ok (.iload_n 3, 1) := by decide +kernel
theorem d_Model_markOf_24 : decode b_Model_markOf 24 = .ok (.bipush 64, 2) := by decide +kernel
theorem d_Model_markOf_26 : decode b_Model_markOf 26 = .ok (.if_icmp .ge 61, 3) := by decide +kernel
theorem d_Model_markOf_29 : decode b_Model_markOf 29 = .ok (.aload_n 0, 1) := by decide +kernel
theorem d_Model_markOf_30 : decode b_Model_markOf 30 = .ok (.getfield 44, 3) := by decide +kernel
theorem d_Model_markOf_33 : decode b_Model_markOf 33 = .ok (.iload_n 3, 1) := by decide +kernel
theorem d_Model_markOf_34 : decode b_Model_markOf 34 = .ok (.aload_n 0, 1) := by decide +kernel
theorem d_Model_markOf_35 : decode b_Model_markOf 35 = .ok (.getfield 76, 3) := by decide +kernel
theorem d_Model_markOf_38 : decode b_Model_markOf 38 = .ok (.bipush 64, 2) := by decide +kernel
theorem d_Model_markOf_40 : decode b_Model_markOf 40 = .ok (.if_icmp .le 22, 3) := by decide +kernel
theorem d_Model_markOf_43 : decode b_Model_markOf 43 = .ok (.iload_n 3, 1) := by decide +kernel
theorem d_Model_markOf_44 : decode b_Model_markOf 44 = .ok (.bipush 32, 2) := by decide +kernel
theorem d_Model_markOf_46 : decode b_Model_markOf 46 = .ok (.if_icmp .ge 12, 3) := by decide +kernel
theorem d_Model_markOf_49 : decode b_Model_markOf 49 = .ok (.aload_n 0, 1) := by decide +kernel
theorem d_Model_markOf_50 : decode b_Model_markOf 50 = .ok (.getfield 32, 3) := by decide +kernel
theorem d_Model_markOf_53 : decode b_Model_markOf 53 = .ok (.iload_n 3, 1) := by decide +kernel
theorem d_Model_markOf_54 : decode b_Model_markOf 54 = .ok (.baload, 1) := by decide +kernel
theorem d_Model_markOf_55 : decode b_Model_markOf 55 = .ok (.goto 25, 3) := by decide +kernel
theorem d_Model_markOf_58 : decode b_Model_markOf 58 = .ok (.iconst 0, 1) := by decide +kernel
theorem d_Model_markOf_59 : decode b_Model_markOf 59 = .ok (.goto 21, 3) := by decide +kernel
theorem d_Model_markOf_62 : decode b_Model_markOf 62 = .ok (.iload_n 3, 1) := by decide +kernel
theorem d_Model_markOf_63 : decode b_Model_markOf 63 = .ok (.aload_n 0, 1) := by decide +kernel
theorem d_Model_markOf_64 : decode b_Model_markOf 64 = .ok (.getfield 76, 3) := by decide +kernel
theorem d_Model_markOf_67 : decode b_Model_markOf 67 = .ok (.if_icmp .ge 12, 3) := by decide +kernel
theorem d_Model_markOf_70 : decode b_Model_markOf 70 = .ok (.aload_n 0, 1) := by decide +kernel
theorem d_Model_markOf_71 : decode b_Model_markOf 71 = .ok (.getfield 16, 3) := by decide +kernel
theorem d_Model_markOf_74 : decode b_Model_markOf 74 = .ok (.iload_n 3, 1) := by decide +kernel
theorem d_Model_markOf_75 : decode b_Model_markOf 75 = .ok (.baload, 1) := by decide +kernel
theorem d_Model_markOf_76 : decode b_Model_markOf 76 = .ok (.goto 4, 3) := by decide +kernel
theorem d_Model_markOf_79 : decode b_Model_markOf 79 = .ok (.iconst 0, 1) := by decide +kernel
theorem d_Model_markOf_80 : decode b_Model_markOf 80 = .ok (.bastore, 1) := by decide +kernel
theorem d_Model_markOf_81 : decode b_Model_markOf 81 = .ok (.iinc 3 1, 3) := by decide +kernel
theorem d_Model_markOf_84 : decode b_Model_markOf 84 = .ok (.goto (-61), 3) := by decide +kernel
theorem d_Model_markOf_87 : decode b_Model_markOf 87 = .ok (.aload_n 0, 1) := by decide +kernel
theorem d_Model_markOf_88 : decode b_Model_markOf 88 = .ok (.iconst 0, 1) := by decide +kernel
theorem d_Model_markOf_89 : decode b_Model_markOf 89 = .ok (.putfield 61, 3) := by decide +kernel
theorem d_Model_markOf_92 : decode b_Model_markOf 92 = .ok (.iconst 0, 1) := by decide +kernel
theorem d_Model_markOf_93 : decode b_Model_markOf 93 = .ok (.istore_n 3, 1) := by decide +kernel
theorem d_Model_markOf_94 : decode b_Model_markOf 94 = .ok (.iload_n 3, 1) := by decide +kernel
theorem d_Model_markOf_95 : decode b_Model_markOf 95 = .ok (.bipush 64, 2) := by decide +kernel
theorem d_Model_markOf_97 : decode b_Model_markOf 97 = .ok (.if_icmp .ge 22, 3) := by decide +kernel
theorem d_Model_markOf_100 : decode b_Model_markOf 100 = .ok (.aload_n 0, 1) := by decide +kernel
theorem d_Model_markOf_101 : decode b_Model_markOf 101 = .ok (.aload_n 0, 1) := by decide +kernel
theorem d_Model_markOf_102 : decode b_Model_markOf 102 = .ok (.getfield 44, 3) := by decide +kernel
theorem d_Model_markOf_105 : decode b_Model_markOf 105 = .ok (.iload_n 3, 1) := by decide +kernel
theorem d_Model_markOf_106 : decode b_Model_markOf 106 = .ok (.baload, 1) := by decide +kernel
theorem d_Model_markOf_107 : decode b_Model_markOf 107 = .ok (.bipush 54, 2) := by decide +kernel
theorem d_Model_markOf_109 : decode b_Model_markOf 109 = .ok (.ixor, 1) := by decide +kernel
theorem d_Model_markOf_110 : decode b_Model_markOf 110 = .ok (.invokevirtual 65, 3) := by decide +kernel
theorem d_Model_markOf_113 : decode b_Model_markOf 113 = .ok (.iinc 3 1, 3) := by decide +kernel
theorem d_Model_markOf_116 : decode b_Model_markOf 116 = .ok (.goto (-22), 3) := by decide +kernel
theorem d_Model_markOf_119 : decode b_Model_markOf 119 = .ok (.iconst 0, 1) := by decide +kernel
theorem d_Model_markOf_120 : decode b_Model_markOf 120 = .ok (.istore_n 3, 1) := by decide +kernel
theorem d_Model_markOf_121 : decode b_Model_markOf 121 = .ok (.iload_n 3, 1) := by decide +kernel
theorem d_Model_markOf_122 : decode b_Model_markOf 122 = .ok (.iload_n 2, 1) := by decide +kernel
theorem d_Model_markOf_123 : decode b_Model_markOf 123 = .ok (.if_icmp .ge 16, 3) := by decide +kernel
theorem d_Model_markOf_126 : decode b_Model_markOf 126 = .ok (.aload_n 0, 1) := by decide +kernel
theorem d_Model_markOf_127 : decode b_Model_markOf 127 = .ok (.aload_n 1, 1) := by decide +kernel
theorem d_Model_markOf_128 : decode b_Model_markOf 128 = .ok (.iload_n 3, 1) := by decide +kernel
theorem d_Model_markOf_129 : decode b_Model_markOf 129 = .ok (.baload, 1) := by decide +kernel
theorem d_Model_markOf_130 : decode b_Model_markOf 130 = .ok (.invokevirtual 65, 3) := by decide +kernel
theorem d_Model_markOf_133 : decode b_Model_markOf 133 = .ok (.iinc 3 1, 3) := by decide +kernel
theorem d_Model_markOf_136 : decode b_Model_markOf 136 = .ok (.goto (-15), 3) := by decide +kernel
theorem d_Model_markOf_139 : decode b_Model_markOf 139 = .ok (.aload_n 0, 1) := by decide +kernel
theorem d_Model_markOf_140 : decode b_Model_markOf 140 = .ok (.invokevirtual 83, 3) := by decide +kernel
theorem d_Model_markOf_143 : decode b_Model_markOf 143 = .ok (.aload_n 0, 1) := by decide +kernel
theorem d_Model_markOf_144 : decode b_Model_markOf 144 = .ok (.iconst 0, 1) := by decide +kernel
theorem d_Model_markOf_145 : decode b_Model_markOf 145 = .ok (.putfield 61, 3) := by decide +kernel
theorem d_Model_markOf_148 : decode b_Model_markOf 148 = .ok (.iconst 0, 1) := by decide +kernel
theorem d_Model_markOf_149 : decode b_Model_markOf 149 = .ok (.istore_n 3, 1) := by decide +kernel
theorem d_Model_markOf_150 : decode b_Model_markOf 150 = .ok (.iload_n 3, 1) := by decide +kernel
theorem d_Model_markOf_151 : decode b_Model_markOf 151 = .ok (.bipush 64, 2) := by decide +kernel
theorem d_Model_markOf_153 : decode b_Model_markOf 153 = .ok (.if_icmp .ge 22, 3) := by decide +kernel
theorem d_Model_markOf_156 : decode b_Model_markOf 156 = .ok (.aload_n 0, 1) := by decide +kernel
theorem d_Model_markOf_157 : decode b_Model_markOf 157 = .ok (.aload_n 0, 1) := by decide +kernel
theorem d_Model_markOf_158 : decode b_Model_markOf 158 = .ok (.getfield 44, 3) := by decide +kernel
theorem d_Model_markOf_161 : decode b_Model_markOf 161 = .ok (.iload_n 3, 1) := by decide +kernel
theorem d_Model_markOf_162 : decode b_Model_markOf 162 = .ok (.baload, 1) := by decide +kernel
theorem d_Model_markOf_163 : decode b_Model_markOf 163 = .ok (.bipush 92, 2) := by decide +kernel
theorem d_Model_markOf_165 : decode b_Model_markOf 165 = .ok (.ixor, 1) := by decide +kernel
theorem d_Model_markOf_166 : decode b_Model_markOf 166 = .ok (.invokevirtual 65, 3) := by decide +kernel
theorem d_Model_markOf_169 : decode b_Model_markOf 169 = .ok (.iinc 3 1, 3) := by decide +kernel
theorem d_Model_markOf_172 : decode b_Model_markOf 172 = .ok (.goto (-22), 3) := by decide +kernel
theorem d_Model_markOf_175 : decode b_Model_markOf 175 = .ok (.iconst 0, 1) := by decide +kernel
theorem d_Model_markOf_176 : decode b_Model_markOf 176 = .ok (.istore_n 3, 1) := by decide +kernel
theorem d_Model_markOf_177 : decode b_Model_markOf 177 = .ok (.iload_n 3, 1) := by decide +kernel
theorem d_Model_markOf_178 : decode b_Model_markOf 178 = .ok (.bipush 32, 2) := by decide +kernel
theorem d_Model_markOf_180 : decode b_Model_markOf 180 = .ok (.if_icmp .ge 19, 3) := by decide +kernel
theorem d_Model_markOf_183 : decode b_Model_markOf 183 = .ok (.aload_n 0, 1) := by decide +kernel
theorem d_Model_markOf_184 : decode b_Model_markOf 184 = .ok (.aload_n 0, 1) := by decide +kernel
theorem d_Model_markOf_185 : decode b_Model_markOf 185 = .ok (.getfield 32, 3) := by decide +kernel
theorem d_Model_markOf_188 : decode b_Model_markOf 188 = .ok (.iload_n 3, 1) := by decide +kernel
theorem d_Model_markOf_189 : decode b_Model_markOf 189 = .ok (.baload, 1) := by decide +kernel
theorem d_Model_markOf_190 : decode b_Model_markOf 190 = .ok (.invokevirtual 65, 3) := by decide +kernel
theorem d_Model_markOf_193 : decode b_Model_markOf 193 = .ok (.iinc 3 1, 3) := by decide +kernel
theorem d_Model_markOf_196 : decode b_Model_markOf 196 = .ok (.goto (-19), 3) := by decide +kernel
theorem d_Model_markOf_199 : decode b_Model_markOf 199 = .ok (.aload_n 0, 1) := by decide +kernel
theorem d_Model_markOf_200 : decode b_Model_markOf 200 = .ok (.invokevirtual 83, 3) := by decide +kernel
theorem d_Model_markOf_203 : decode b_Model_markOf 203 = .ok (.return_, 1) := by decide +kernel
theorem d_Model_sumOf_0 : decode b_Model_sumOf 0 = .ok (.aload_n 0, 1) := by decide +kernel
theorem d_Model_sumOf_1 : decode b_Model_sumOf 1 = .ok (.iconst 0, 1) := by decide +kernel
theorem d_Model_sumOf_2 : decode b_Model_sumOf 2 = .ok (.putfield 61, 3) := by decide +kernel
theorem d_Model_sumOf_5 : decode b_Model_sumOf 5 = .ok (.iconst 0, 1) := by decide +kernel
theorem d_Model_sumOf_6 : decode b_Model_sumOf 6 = .ok (.istore_n 3, 1) := by decide +kernel
theorem d_Model_sumOf_7 : decode b_Model_sumOf 7 = .ok (.iload_n 3, 1) := by decide +kernel
theorem d_Model_sumOf_8 : decode b_Model_sumOf 8 = .ok (.iload_n 2, 1) := by decide +kernel
theorem d_Model_sumOf_9 : decode b_Model_sumOf 9 = .ok (.if_icmp .ge 16, 3) := by decide +kernel
theorem d_Model_sumOf_12 : decode b_Model_sumOf 12 = .ok (.aload_n 0, 1) := by decide +kernel
theorem d_Model_sumOf_13 : decode b_Model_sumOf 13 = .ok (.aload_n 1, 1) := by decide +kernel
theorem d_Model_sumOf_14 : decode b_Model_sumOf 14 = .ok (.iload_n 3, 1) := by decide +kernel
theorem d_Model_sumOf_15 : decode b_Model_sumOf 15 = .ok (.baload, 1) := by decide +kernel
theorem d_Model_sumOf_16 : decode b_Model_sumOf 16 = .ok (.invokevirtual 65, 3) := by decide +kernel
theorem d_Model_sumOf_19 : decode b_Model_sumOf 19 = .ok (.iinc 3 1, 3) := by decide +kernel
theorem d_Model_sumOf_22 : decode b_Model_sumOf 22 = .ok (.goto (-15), 3) := by decide +kernel
theorem d_Model_sumOf_25 : decode b_Model_sumOf 25 = .ok (.aload_n 0, 1) := by decide +kernel
theorem d_Model_sumOf_26 : decode b_Model_sumOf 26 = .ok (.invokevirtual 83, 3) := by decide +kernel
theorem d_Model_sumOf_29 : decode b_Model_sumOf 29 = .ok (.return_, 1) := by decide +kernel
end
section
theorem d_Model_takes_0 : decode b_Model_takes 0 = .ok (.aload_n 0, 1) := by decide +kernel
theorem d_Model_takes_1 : decode b_Model_takes 1 = .ok (.getfield 86, 3) := by decide +kernel
theorem d_Model_takes_4 : decode b_Model_takes 4 = .ok (.ifCond .ne 19, 3) := by decide +kernel
theorem d_Model_takes_7 : decode b_Model_takes 7 = .ok (.aload_n 0, 1) := by decide +kernel
theorem d_Model_takes_8 : decode b_Model_takes 8 = .ok (.getfield 76, 3) := by decide +kernel
theorem d_Model_takes_11 : decode b_Model_takes 11 = .ok (.iload_n 1, 1) := by decide +kernel
theorem d_Model_takes_12 : decode b_Model_takes 12 = .ok (.iadd, 1) := by decide +kernel
theorem d_Model_takes_13 : decode b_Model_takes 13 = .ok (.sipush 150, 3) := by decide +kernel
theorem d_Model_takes_16 : decode b_Model_takes 16 = .ok (.if_icmp .gt 7, 3) := by decide +kernel
theorem d_Model_takes_19 : decode b_Model_takes 19 = .ok (.iconst 1, 1) := by decide +kernel
theorem d_Model_takes_20 : decode b_Model_takes 20 = .ok (.goto 4, 3) := by decide +kernel
theorem d_Model_takes_23 : decode b_Model_takes 23 = .ok (.iconst 0, 1) := by decide +kernel
theorem d_Model_takes_24 : decode b_Model_takes 24 = .ok (.ireturn, 1) := by decide +kernel
theorem d_Model_password_0 : decode b_Model_password 0 = .ok (.iload_n 1, 1) := by decide +kernel
theorem d_Model_password_1 : decode b_Model_password 1 = .ok (.ifCond .lt 18, 3) := by decide +kernel
theorem d_Model_password_4 : decode b_Model_password 4 = .ok (.iload_n 1, 1) := by decide +kernel
theorem d_Model_password_5 : decode b_Model_password 5 = .ok (.sipush 255, 3) := by decide +kernel
theorem d_Model_password_8 : decode b_Model_password 8 = .ok (.if_icmp .gt 11, 3) := by decide +kernel
theorem d_Model_password_11 : decode b_Model_password 11 = .ok (.aload_n 0, 1) := by decide +kernel
theorem d_Model_password_12 : decode b_Model_password 12 = .ok (.iconst 1, 1) := by decide +kernel
theorem d_Model_password_13 : decode b_Model_password 13 = .ok (.invokevirtual 90, 3) := by decide +kernel
theorem d_Model_password_16 : decode b_Model_password 16 = .ok (.ifCond .ne 5, 3) := by decide +kernel
theorem d_Model_password_19 : decode b_Model_password 19 = .ok (.iconst 0, 1) := by decide +kernel
theorem d_Model_password_20 : decode b_Model_password 20 = .ok (.ireturn, 1) := by decide +kernel
theorem d_Model_password_21 : decode b_Model_password 21 = .ok (.aload_n 0, 1) := by decide +kernel
theorem d_Model_password_22 : decode b_Model_password 22 = .ok (.getfield 16, 3) := by decide +kernel
theorem d_Model_password_25 : decode b_Model_password 25 = .ok (.aload_n 0, 1) := by decide +kernel
theorem d_Model_password_26 : decode b_Model_password 26 = .ok (.getfield 76, 3) := by decide +kernel
theorem d_Model_password_29 : decode b_Model_password 29 = .ok (.iload_n 1, 1) := by decide +kernel
theorem d_Model_password_30 : decode b_Model_password 30 = .ok (.i2b, 1) := by decide +kernel
theorem d_Model_password_31 : decode b_Model_password 31 = .ok (.bastore, 1) := by decide +kernel
theorem d_Model_password_32 : decode b_Model_password 32 = .ok (.aload_n 0, 1) := by decide +kernel
theorem d_Model_password_33 : decode b_Model_password 33 = .ok (.dup, 1) := by decide +kernel
theorem d_Model_password_34 : decode b_Model_password 34 = .ok (.getfield 76, 3) := by decide +kernel
theorem d_Model_password_37 : decode b_Model_password 37 = .ok (.iconst 1, 1) := by decide +kernel
theorem d_Model_password_38 : decode b_Model_password 38 = .ok (.iadd, 1) := by decide +kernel
theorem d_Model_password_39 : decode b_Model_password 39 = .ok (.putfield 76, 3) := by decide +kernel
theorem d_Model_password_42 : decode b_Model_password 42 = .ok (.iconst 1, 1) := by decide +kernel
theorem d_Model_password_43 : decode b_Model_password 43 = .ok (.ireturn, 1) := by decide +kernel
theorem d_Model_four_0 : decode b_Model_four 0 = .ok (.aload_n 0, 1) := by decide +kernel
theorem d_Model_four_1 : decode b_Model_four 1 = .ok (.iconst 4, 1) := by decide +kernel
theorem d_Model_four_2 : decode b_Model_four 2 = .ok (.invokevirtual 90, 3) := by decide +kernel
theorem d_Model_four_5 : decode b_Model_four 5 = .ok (.ifCond .ne 5, 3) := by decide +kernel
theorem d_Model_four_8 : decode b_Model_four 8 = .ok (.iconst 0, 1) := by decide +kernel
theorem d_Model_four_9 : decode b_Model_four 9 = .ok (.ireturn, 1) := by decide +kernel
theorem d_Model_four_10 : decode b_Model_four 10 = .ok (.iconst 3, 1) := by decide +kernel
theorem d_Model_four_11 : decode b_Model_four 11 = .ok (.istore_n 2, 1) := by decide +kernel
theorem d_Model_four_12 : decode b_Model_four 12 = .ok (.iload_n 2, 1) := by decide +kernel
theorem d_Model_four_13 : decode b_Model_four 13 = .ok (.ifCond .lt 35, 3) := by decide +kernel
theorem d_Model_four_16 : decode b_Model_four 16 = .ok (.aload_n 0, 1) := by decide +kernel
theorem d_Model_four_17 : decode b_Model_four 17 = .ok (.getfield 16, 3) := by decide +kernel
theorem d_Model_four_20 : decode b_Model_four 20 = .ok (.aload_n 0, 1) := by decide +kernel
theorem d_Model_four_21 : decode b_Model_four 21 = .ok (.getfield 76, 3) := by decide +kernel
theorem d_Model_four_24 : decode b_Model_four 24 = .ok (.iload_n 1, 1) := by decide +kernel
theorem d_Model_four_25 : decode b_Model_four 25 = .ok (.bipush 8, 2) := by decide +kernel
theorem d_Model_four_27 : decode b_Model_four 27 = .ok (.iload_n 2, 1) := by decide +kernel
theorem d_Model_four_28 : decode b_Model_four 28 = .ok (.imul, 1) := by decide +kernel
theorem d_Model_four_29 : decode b_Model_four 29 = .ok (.ishr, 1) := by decide +kernel
theorem d_Model_four_30 : decode b_Model_four 30 = .ok (.i2b, 1) := by decide +kernel
theorem d_Model_four_31 : decode b_Model_four 31 = .ok (.bastore, 1) := by decide +kernel
theorem d_Model_four_32 : decode b_Model_four 32 = .ok (.aload_n 0, 1) := by decide +kernel
theorem d_Model_four_33 : decode b_Model_four 33 = .ok (.dup, 1) := by decide +kernel
theorem d_Model_four_34 : decode b_Model_four 34 = .ok (.getfield 76, 3) := by decide +kernel
theorem d_Model_four_37 : decode b_Model_four 37 = .ok (.iconst 1, 1) := by decide +kernel
theorem d_Model_four_38 : decode b_Model_four 38 = .ok (.iadd, 1) := by decide +kernel
theorem d_Model_four_39 : decode b_Model_four 39 = .ok (.putfield 76, 3) := by decide +kernel
theorem d_Model_four_42 : decode b_Model_four 42 = .ok (.iinc 2 (-1), 3) := by decide +kernel
theorem d_Model_four_45 : decode b_Model_four 45 = .ok (.goto (-33), 3) := by decide +kernel
theorem d_Model_four_48 : decode b_Model_four 48 = .ok (.iconst 1, 1) := by decide +kernel
theorem d_Model_four_49 : decode b_Model_four 49 = .ok (.ireturn, 1) := by decide +kernel
theorem d_Model_salt_0 : decode b_Model_salt 0 = .ok (.iload_n 1, 1) := by decide +kernel
theorem d_Model_salt_1 : decode b_Model_salt 1 = .ok (.ifCond .lt 26, 3) := by decide +kernel
theorem d_Model_salt_4 : decode b_Model_salt 4 = .ok (.iload_n 1, 1) := by decide +kernel
theorem d_Model_salt_5 : decode b_Model_salt 5 = .ok (.sipush 255, 3) := by decide +kernel
theorem d_Model_salt_8 : decode b_Model_salt 8 = .ok (.if_icmp .gt 19, 3) := by decide +kernel
theorem d_Model_salt_11 : decode b_Model_salt 11 = .ok (.aload_n 0, 1) := by decide +kernel
theorem d_Model_salt_12 : decode b_Model_salt 12 = .ok (.getfield 86, 3) := by decide +kernel
theorem d_Model_salt_15 : decode b_Model_salt 15 = .ok (.ifCond .ne 12, 3) := by decide +kernel
theorem d_Model_salt_18 : decode b_Model_salt 18 = .ok (.aload_n 0, 1) := by decide +kernel
theorem d_Model_salt_19 : decode b_Model_salt 19 = .ok (.getfield 94, 3) := by decide +kernel
theorem d_Model_salt_22 : decode b_Model_salt 22 = .ok (.bipush 80, 2) := by decide +kernel
theorem d_Model_salt_24 : decode b_Model_salt 24 = .ok (.if_icmp .ne 5, 3) := by decide +kernel
theorem d_Model_salt_27 : decode b_Model_salt 27 = .ok (.iconst 0, 1) := by decide +kernel
theorem d_Model_salt_28 : decode b_Model_salt 28 = .ok (.ireturn, 1) := by decide +kernel
theorem d_Model_salt_29 : decode b_Model_salt 29 = .ok (.aload_n 0, 1) := by decide +kernel
theorem d_Model_salt_30 : decode b_Model_salt 30 = .ok (.getfield 20, 3) := by decide +kernel
theorem d_Model_salt_33 : decode b_Model_salt 33 = .ok (.aload_n 0, 1) := by decide +kernel
theorem d_Model_salt_34 : decode b_Model_salt 34 = .ok (.getfield 94, 3) := by decide +kernel
theorem d_Model_salt_37 : decode b_Model_salt 37 = .ok (.iload_n 1, 1) := by decide +kernel
theorem d_Model_salt_38 : decode b_Model_salt 38 = .ok (.i2b, 1) := by decide +kernel
theorem d_Model_salt_39 : decode b_Model_salt 39 = .ok (.bastore, 1) := by decide +kernel
theorem d_Model_salt_40 : decode b_Model_salt 40 = .ok (.aload_n 0, 1) := by decide +kernel
theorem d_Model_salt_41 : decode b_Model_salt 41 = .ok (.dup, 1) := by decide +kernel
theorem d_Model_salt_42 : decode b_Model_salt 42 = .ok (.getfield 94, 3) := by decide +kernel
theorem d_Model_salt_45 : decode b_Model_salt 45 = .ok (.iconst 1, 1) := by decide +kernel
theorem d_Model_salt_46 : decode b_Model_salt 46 = .ok (.iadd, 1) := by decide +kernel
theorem d_Model_salt_47 : decode b_Model_salt 47 = .ok (.putfield 94, 3) := by decide +kernel
theorem d_Model_salt_50 : decode b_Model_salt 50 = .ok (.iconst 1, 1) := by decide +kernel
theorem d_Model_salt_51 : decode b_Model_salt 51 = .ok (.ireturn, 1) := by decide +kernel
theorem d_Model_partCount_0 : decode b_Model_partCount 0 = .ok (.aload_n 0, 1) := by decide +kernel
theorem d_Model_partCount_1 : decode b_Model_partCount 1 = .ok (.getfield 97, 3) := by decide +kernel
theorem d_Model_partCount_4 : decode b_Model_partCount 4 = .ok (.bipush 32, 2) := by decide +kernel
theorem d_Model_partCount_6 : decode b_Model_partCount 6 = .ok (.iadd, 1) := by decide +kernel
theorem d_Model_partCount_7 : decode b_Model_partCount 7 = .ok (.iconst 1, 1) := by decide +kernel
theorem d_Model_partCount_8 : decode b_Model_partCount 8 = .ok (.isub, 1) := by decide +kernel
theorem d_Model_partCount_9 : decode b_Model_partCount 9 = .ok (.bipush 32, 2) := by decide +kernel
theorem d_Model_partCount_11 : decode b_Model_partCount 11 = .ok (.idiv, 1) := by decide +kernel
theorem d_Model_partCount_12 : decode b_Model_partCount 12 = .ok (.ireturn, 1) := by decide +kernel
theorem d_Model_start_0 : decode b_Model_start 0 = .ok (.aload_n 0, 1) := by decide +kernel
theorem d_Model_start_1 : decode b_Model_start 1 = .ok (.getfield 86, 3) := by decide +kernel
theorem d_Model_start_4 : decode b_Model_start 4 = .ok (.ifCond .ne 26, 3) := by decide +kernel
theorem d_Model_start_7 : decode b_Model_start 7 = .ok (.iload_n 1, 1) := by decide +kernel
theorem d_Model_start_8 : decode b_Model_start 8 = .ok (.iconst 1, 1) := by decide +kernel
theorem d_Model_start_9 : decode b_Model_start 9 = .ok (.if_icmp .lt 21, 3) := by decide +kernel
theorem d_Model_start_12 : decode b_Model_start 12 = .ok (.iload_n 1, 1) := by decide +kernel
theorem d_Model_start_13 : decode b_Model_start 13 = .ok (.sipush 1000, 3) := by decide +kernel
theorem d_Model_start_16 : decode b_Model_start 16 = .ok (.if_icmp .gt 14, 3) := by decide +kernel
theorem d_Model_start_19 : decode b_Model_start 19 = .ok (.iload_n 2, 1) := by decide +kernel
theorem d_Model_start_20 : decode b_Model_start 20 = .ok (.iconst 1, 1) := by decide +kernel
theorem d_Model_start_21 : decode b_Model_start 21 = .ok (.if_icmp .lt 9, 3) := by decide +kernel
theorem d_Model_start_24 : decode b_Model_start 24 = .ok (.iload_n 2, 1) := by decide +kernel
theorem d_Model_start_25 : decode b_Model_start 25 = .ok (.bipush 100, 2) := by decide +kernel
theorem d_Model_start_27 : decode b_Model_start 27 = .ok (.if_icmp .le 5, 3) := by decide +kernel
theorem d_Model_start_30 : decode b_Model_start 30 = .ok (.iconst (-1), 1) := by decide +kernel
theorem d_Model_start_31 : decode b_Model_start 31 = .ok (.ireturn, 1) := by decide +kernel
theorem d_Model_start_32 : decode b_Model_start 32 = .ok (.aload_n 0, 1) := by decide +kernel
theorem d_Model_start_33 : decode b_Model_start 33 = .ok (.iconst 1, 1) := by decide +kernel
theorem d_Model_start_34 : decode b_Model_start 34 = .ok (.putfield 86, 3) := by decide +kernel
theorem d_Model_start_37 : decode b_Model_start 37 = .ok (.aload_n 0, 1) := by decide +kernel
theorem d_Model_start_38 : decode b_Model_start 38 = .ok (.iload_n 1, 1) := by decide +kernel
theorem d_Model_start_39 : decode b_Model_start 39 = .ok (.putfield 100, 3) := by decide +kernel
theorem d_Model_start_42 : decode b_Model_start 42 = .ok (.aload_n 0, 1) := by decide +kernel
theorem d_Model_start_43 : decode b_Model_start 43 = .ok (.iload_n 2, 1) := by decide +kernel
theorem d_Model_start_44 : decode b_Model_start 44 = .ok (.putfield 97, 3) := by decide +kernel
theorem d_Model_start_47 : decode b_Model_start 47 = .ok (.aload_n 0, 1) := by decide +kernel
theorem d_Model_start_48 : decode b_Model_start 48 = .ok (.iconst 0, 1) := by decide +kernel
theorem d_Model_start_49 : decode b_Model_start 49 = .ok (.putfield 103, 3) := by decide +kernel
theorem d_Model_start_52 : decode b_Model_start 52 = .ok (.iconst 0, 1) := by decide +kernel
theorem d_Model_start_53 : decode b_Model_start 53 = .ok (.istore_n 3, 1) := by decide +kernel
theorem d_Model_start_54 : decode b_Model_start 54 = .ok (.iload_n 3, 1) := by decide +kernel
theorem d_Model_start_55 : decode b_Model_start 55 = .ok (.sipush 128, 3) := by decide +kernel
theorem d_Model_start_58 : decode b_Model_start 58 = .ok (.if_icmp .ge 16, 3) := by decide +kernel
theorem d_Model_start_61 : decode b_Model_start 61 = .ok (.aload_n 0, 1) := by decide +kernel
theorem d_Model_start_62 : decode b_Model_start 62 = .ok (.getfield 26, 3) := by decide +kernel
theorem d_Model_start_65 : decode b_Model_start 65 = .ok (.iload_n 3, 1) := by decide +kernel
theorem d_Model_start_66 : decode b_Model_start 66 = .ok (.iconst 0, 1) := by decide +kernel
theorem d_Model_start_67 : decode b_Model_start 67 = .ok (.bastore, 1) := by decide +kernel
theorem d_Model_start_68 : decode b_Model_start 68 = .ok (.iinc 3 1, 3) := by decide +kernel
theorem d_Model_start_71 : decode b_Model_start 71 = .ok (.goto (-17), 3) := by decide +kernel
theorem d_Model_start_74 : decode b_Model_start 74 = .ok (.aload_n 0, 1) := by decide +kernel
theorem d_Model_start_75 : decode b_Model_start 75 = .ok (.invokevirtual 106, 3) := by decide +kernel
theorem d_Model_start_78 : decode b_Model_start 78 = .ok (.aload_n 0, 1) := by decide +kernel
theorem d_Model_start_79 : decode b_Model_start 79 = .ok (.getfield 100, 3) := by decide +kernel
theorem d_Model_start_82 : decode b_Model_start 82 = .ok (.imul, 1) := by decide +kernel
theorem d_Model_start_83 : decode b_Model_start 83 = .ok (.ireturn, 1) := by decide +kernel
theorem d_Model_left_0 : decode b_Model_left 0 = .ok (.aload_n 0, 1) := by decide +kernel
theorem d_Model_left_1 : decode b_Model_left 1 = .ok (.getfield 86, 3) := by decide +kernel
theorem d_Model_left_4 : decode b_Model_left 4 = .ok (.ifCond .eq 20, 3) := by decide +kernel
theorem d_Model_left_7 : decode b_Model_left 7 = .ok (.aload_n 0, 1) := by decide +kernel
theorem d_Model_left_8 : decode b_Model_left 8 = .ok (.invokevirtual 106, 3) := by decide +kernel
theorem d_Model_left_11 : decode b_Model_left 11 = .ok (.aload_n 0, 1) := by decide +kernel
theorem d_Model_left_12 : decode b_Model_left 12 = .ok (.getfield 100, 3) := by decide +kernel
theorem d_Model_left_15 : decode b_Model_left 15 = .ok (.imul, 1) := by decide +kernel
theorem d_Model_left_16 : decode b_Model_left 16 = .ok (.aload_n 0, 1) := by decide +kernel
theorem d_Model_left_17 : decode b_Model_left 17 = .ok (.getfield 103, 3) := by decide +kernel
theorem d_Model_left_20 : decode b_Model_left 20 = .ok (.isub, 1) := by decide +kernel
theorem d_Model_left_21 : decode b_Model_left 21 = .ok (.goto 4, 3) := by decide +kernel
theorem d_Model_left_24 : decode b_Model_left 24 = .ok (.iconst (-1), 1) := by decide +kernel
theorem d_Model_left_25 : decode b_Model_left 25 = .ok (.ireturn, 1) := by decide +kernel
theorem d_Model_step_0 : decode b_Model_step 0 = .ok (.aload_n 0, 1) := by decide +kernel
theorem d_Model_step_1 : decode b_Model_step 1 = .ok (.getfield 86, 3) := by decide +kernel
theorem d_Model_step_4 : decode b_Model_step 4 = .ok (.ifCond .eq 10, 3) := by decide +kernel
theorem d_Model_step_7 : decode b_Model_step 7 = .ok (.aload_n 0, 1) := by decide +kernel
theorem d_Model_step_8 : decode b_Model_step 8 = .ok (.invokevirtual 110, 3) := by decide +kernel
theorem d_Model_step_11 : decode b_Model_step 11 = .ok (.ifCond .ne 5, 3) := by decide +kernel
theorem d_Model_step_14 : decode b_Model_step 14 = .ok (.iconst (-1), 1) := by decide +kernel
theorem d_Model_step_15 : decode b_Model_step 15 = .ok (.ireturn, 1) := by decide +kernel
theorem d_Model_step_16 : decode b_Model_step 16 = .ok (.aload_n 0, 1) := by decide +kernel
theorem d_Model_step_17 : decode b_Model_step 17 = .ok (.getfield 103, 3) := by decide +kernel
theorem d_Model_step_20 : decode b_Model_step 20 = .ok (.aload_n 0, 1) := by decide +kernel
theorem d_Model_step_21 : decode b_Model_step 21 = .ok (.getfield 100, 3) := by decide +kernel
theorem d_Model_step_24 : decode b_Model_step 24 = .ok (.idiv, 1) := by decide +kernel
theorem d_Model_step_25 : decode b_Model_step 25 = .ok (.istore_n 1, 1) := by decide +kernel
theorem d_Model_step_26 : decode b_Model_step 26 = .ok (.aload_n 0, 1) := by decide +kernel
theorem d_Model_step_27 : decode b_Model_step 27 = .ok (.getfield 103, 3) := by decide +kernel
theorem d_Model_step_30 : decode b_Model_step 30 = .ok (.aload_n 0, 1) := by decide +kernel
theorem d_Model_step_31 : decode b_Model_step 31 = .ok (.getfield 100, 3) := by decide +kernel
theorem d_Model_step_34 : decode b_Model_step 34 = .ok (.irem, 1) := by decide +kernel
theorem d_Model_step_35 : decode b_Model_step 35 = .ok (.ifCond .ne 56, 3) := by decide +kernel
theorem d_Model_step_38 : decode b_Model_step 38 = .ok (.iconst 0, 1) := by decide +kernel
theorem d_Model_step_39 : decode b_Model_step 39 = .ok (.istore_n 2, 1) := by decide +kernel
theorem d_Model_step_40 : decode b_Model_step 40 = .ok (.iload_n 2, 1) := by decide +kernel
theorem d_Model_step_41 : decode b_Model_step 41 = .ok (.iconst 4, 1) := by decide +kernel
theorem d_Model_step_42 : decode b_Model_step 42 = .ok (.if_icmp .ge 32, 3) := by decide +kernel
theorem d_Model_step_45 : decode b_Model_step 45 = .ok (.aload_n 0, 1) := by decide +kernel
theorem d_Model_step_46 : decode b_Model_step 46 = .ok (.getfield 20, 3) := by decide +kernel
theorem d_Model_step_49 : decode b_Model_step 49 = .ok (.aload_n 0, 1) := by decide +kernel
theorem d_Model_step_50 : decode b_Model_step 50 = .ok (.getfield 94, 3) := by decide +kernel
theorem d_Model_step_53 : decode b_Model_step 53 = .ok (.iload_n 2, 1) := by decide +kernel
theorem d_Model_step_54 : decode b_Model_step 54 = .ok (.iadd, 1) := by decide +kernel
theorem d_Model_step_55 : decode b_Model_step 55 = .ok (.iload_n 1, 1) := by decide +kernel
theorem d_Model_step_56 : decode b_Model_step 56 = .ok (.iconst 1, 1) := by decide +kernel
theorem d_Model_step_57 : decode b_Model_step 57 = .ok (.iadd, 1) := by decide +kernel
theorem d_Model_step_58 : decode b_Model_step 58 = .ok (.bipush 24, 2) := by decide +kernel
theorem d_Model_step_60 : decode b_Model_step 60 = .ok (.bipush 8, 2) := by decide +kernel
theorem d_Model_step_62 : decode b_Model_step 62 = .ok (.iload_n 2, 1) := by decide +kernel
theorem d_Model_step_63 : decode b_Model_step 63 = .ok (.imul, 1) := by decide +kernel
theorem d_Model_step_64 : decode b_Model_step 64 = .ok (.isub, 1) := by decide +kernel
theorem d_Model_step_65 : decode b_Model_step 65 = .ok (.ishr, 1) := by decide +kernel
theorem d_Model_step_66 : decode b_Model_step 66 = .ok (.i2b, 1) := by decide +kernel
theorem d_Model_step_67 : decode b_Model_step 67 = .ok (.bastore, 1) := by decide +kernel
theorem d_Model_step_68 : decode b_Model_step 68 = .ok (.iinc 2 1, 3) := by decide +kernel
theorem d_Model_step_71 : decode b_Model_step 71 = .ok (.goto (-31), 3) := by decide +kernel
theorem d_Model_step_74 : decode b_Model_step 74 = .ok (.aload_n 0, 1) := by decide +kernel
theorem d_Model_step_75 : decode b_Model_step 75 = .ok (.aload_n 0, 1) := by decide +kernel
theorem d_Model_step_76 : decode b_Model_step 76 = .ok (.getfield 20, 3) := by decide +kernel
theorem d_Model_step_79 : decode b_Model_step 79 = .ok (.aload_n 0, 1) := by decide +kernel
theorem d_Model_step_80 : decode b_Model_step 80 = .ok (.getfield 94, 3) := by decide +kernel
theorem d_Model_step_83 : decode b_Model_step 83 = .ok (.iconst 4, 1) := by decide +kernel
theorem d_Model_step_84 : decode b_Model_step 84 = .ok (.iadd, 1) := by decide +kernel
theorem d_Model_step_85 : decode b_Model_step 85 = .ok (.invokevirtual 113, 3) := by decide +kernel
theorem d_Model_step_88 : decode b_Model_step 88 = .ok (.goto 13, 3) := by decide +kernel
theorem d_Model_step_91 : decode b_Model_step 91 = .ok (.aload_n 0, 1) := by decide +kernel
theorem d_Model_step_92 : decode b_Model_step 92 = .ok (.aload_n 0, 1) := by decide +kernel
theorem d_Model_step_93 : decode b_Model_step 93 = .ok (.getfield 23, 3) := by decide +kernel
theorem d_Model_step_96 : decode b_Model_step 96 = .ok (.bipush 32, 2) := by decide +kernel
theorem d_Model_step_98 : decode b_Model_step 98 = .ok (.invokevirtual 113, 3) := by decide +kernel
theorem d_Model_step_101 : decode b_Model_step 101 = .ok (.iconst 0, 1) := by decide +kernel
theorem d_Model_step_102 : decode b_Model_step 102 = .ok (.istore_n 2, 1) := by decide +kernel
theorem d_Model_step_103 : decode b_Model_step 103 = .ok (.iload_n 2, 1) := by decide +kernel
theorem d_Model_step_104 : decode b_Model_step 104 = .ok (.bipush 32, 2) := by decide +kernel
theorem d_Model_step_106 : decode b_Model_step 106 = .ok (.if_icmp .ge 51, 3) := by decide +kernel
theorem d_Model_step_109 : decode b_Model_step 109 = .ok (.aload_n 0, 1) := by decide +kernel
theorem d_Model_step_110 : decode b_Model_step 110 = .ok (.getfield 23, 3) := by decide +kernel
theorem d_Model_step_113 : decode b_Model_step 113 = .ok (.iload_n 2, 1) := by decide +kernel
theorem d_Model_step_114 : decode b_Model_step 114 = .ok (.aload_n 0, 1) := by decide +kernel
theorem d_Model_step_115 : decode b_Model_step 115 = .ok (.getfield 32, 3) := by decide +kernel
theorem d_Model_step_118 : decode b_Model_step 118 = .ok (.iload_n 2, 1) := by decide +kernel
theorem d_Model_step_119 : decode b_Model_step 119 = .ok (.baload, 1) := by decide +kernel
theorem d_Model_step_120 : decode b_Model_step 120 = .ok (.bastore, 1) := by decide +kernel
theorem d_Model_step_121 : decode b_Model_step 121 = .ok (.aload_n 0, 1) := by decide +kernel
theorem d_Model_step_122 : decode b_Model_step 122 = .ok (.getfield 26, 3) := by decide +kernel
theorem d_Model_step_125 : decode b_Model_step 125 = .ok (.bipush 32, 2) := by decide +kernel
theorem d_Model_step_127 : decode b_Model_step 127 = .ok (.iload_n 1, 1) := by decide +kernel
theorem d_Model_step_128 : decode b_Model_step 128 = .ok (.imul, 1) := by decide +kernel
theorem d_Model_step_129 : decode b_Model_step 129 = .ok (.iload_n 2, 1) := by decide +kernel
theorem d_Model_step_130 : decode b_Model_step 130 = .ok (.iadd, 1) := by decide +kernel
theorem d_Model_step_131 : decode b_Model_step 131 = .ok (.aload_n 0, 1) := by decide +kernel
theorem d_Model_step_132 : decode b_Model_step 132 = .ok (.getfield 26, 3) := by decide +kernel
theorem d_Model_step_135 : decode b_Model_step 135 = .ok (.bipush 32, 2) := by decide +kernel
theorem d_Model_step_137 : decode b_Model_step 137 = .ok (.iload_n 1, 1) := by decide +kernel
theorem d_Model_step_138 : decode b_Model_step 138 = .ok (.imul, 1) := by decide +kernel
theorem d_Model_step_139 : decode b_Model_step 139 = .ok (.iload_n 2, 1) := by decide +kernel
theorem d_Model_step_140 : decode b_Model_step 140 = .ok (.iadd, 1) := by decide +kernel
theorem d_Model_step_141 : decode b_Model_step 141 = .ok (.baload, 1) := by decide +kernel
theorem d_Model_step_142 : decode b_Model_step 142 = .ok (.aload_n 0, 1) := by decide +kernel
theorem d_Model_step_143 : decode b_Model_step 143 = .ok (.getfield 32, 3) := by decide +kernel
theorem d_Model_step_146 : decode b_Model_step 146 = .ok (.iload_n 2, 1) := by decide +kernel
theorem d_Model_step_147 : decode b_Model_step 147 = .ok (.baload, 1) := by decide +kernel
theorem d_Model_step_148 : decode b_Model_step 148 = .ok (.ixor, 1) := by decide +kernel
theorem d_Model_step_149 : decode b_Model_step 149 = .ok (.i2b, 1) := by decide +kernel
theorem d_Model_step_150 : decode b_Model_step 150 = .ok (.bastore, 1) := by decide +kernel
theorem d_Model_step_151 : decode b_Model_step 151 = .ok (.iinc 2 1, 3) := by decide +kernel
theorem d_Model_step_154 : decode b_Model_step 154 = .ok (.goto (-51), 3) := by decide +kernel
theorem d_Model_step_157 : decode b_Model_step 157 = .ok (.aload_n 0, 1) := by decide +kernel
theorem d_Model_step_158 : decode b_Model_step 158 = .ok (.dup, 1) := by decide +kernel
theorem d_Model_step_159 : decode b_Model_step 159 = .ok (.getfield 103, 3) := by decide +kernel
theorem d_Model_step_162 : decode b_Model_step 162 = .ok (.iconst 1, 1) := by decide +kernel
theorem d_Model_step_163 : decode b_Model_step 163 = .ok (.iadd, 1) := by decide +kernel
theorem d_Model_step_164 : decode b_Model_step 164 = .ok (.putfield 103, 3) := by decide +kernel
theorem d_Model_step_167 : decode b_Model_step 167 = .ok (.aload_n 0, 1) := by decide +kernel
theorem d_Model_step_168 : decode b_Model_step 168 = .ok (.invokevirtual 110, 3) := by decide +kernel
theorem d_Model_step_171 : decode b_Model_step 171 = .ok (.ireturn, 1) := by decide +kernel
theorem d_Model_run_0 : decode b_Model_run 0 = .ok (.aload_n 0, 1) := by decide +kernel
theorem d_Model_run_1 : decode b_Model_run 1 = .ok (.getfield 86, 3) := by decide +kernel
theorem d_Model_run_4 : decode b_Model_run 4 = .ok (.ifCond .eq 7, 3) := by decide +kernel
theorem d_Model_run_7 : decode b_Model_run 7 = .ok (.iload_n 1, 1) := by decide +kernel
theorem d_Model_run_8 : decode b_Model_run 8 = .ok (.ifCond .ge 5, 3) := by decide +kernel
theorem d_Model_run_11 : decode b_Model_run 11 = .ok (.iconst (-1), 1) := by decide +kernel
theorem d_Model_run_12 : decode b_Model_run 12 = .ok (.ireturn, 1) := by decide +kernel
theorem d_Model_run_13 : decode b_Model_run 13 = .ok (.iconst 0, 1) := by decide +kernel
theorem d_Model_run_14 : decode b_Model_run 14 = .ok (.istore_n 2, 1) := by decide +kernel
theorem d_Model_run_15 : decode b_Model_run 15 = .ok (.iload_n 2, 1) := by decide +kernel
theorem d_Model_run_16 : decode b_Model_run 16 = .ok (.iload_n 1, 1) := by decide +kernel
theorem d_Model_run_17 : decode b_Model_run 17 = .ok (.if_icmp .ge 16, 3) := by decide +kernel
theorem d_Model_run_20 : decode b_Model_run 20 = .ok (.aload_n 0, 1) := by decide +kernel
theorem d_Model_run_21 : decode b_Model_run 21 = .ok (.invokevirtual 116, 3) := by decide +kernel
theorem d_Model_run_24 : decode b_Model_run 24 = .ok (.ifCond .lt 9, 3) := by decide +kernel
theorem d_Model_run_27 : decode b_Model_run 27 = .ok (.iinc 2 1, 3) := by decide +kernel
theorem d_Model_run_30 : decode b_Model_run 30 = .ok (.goto (-15), 3) := by decide +kernel
theorem d_Model_run_33 : decode b_Model_run 33 = .ok (.iload_n 2, 1) := by decide +kernel
theorem d_Model_run_34 : decode b_Model_run 34 = .ok (.ireturn, 1) := by decide +kernel
theorem d_Model_key_0 : decode b_Model_key 0 = .ok (.aload_n 0, 1) := by decide +kernel
theorem d_Model_key_1 : decode b_Model_key 1 = .ok (.getfield 86, 3) := by decide +kernel
theorem d_Model_key_4 : decode b_Model_key 4 = .ok (.ifCond .eq 37, 3) := by decide +kernel
theorem d_Model_key_7 : decode b_Model_key 7 = .ok (.iload_n 1, 1) := by decide +kernel
theorem d_Model_key_8 : decode b_Model_key 8 = .ok (.ifCond .lt 33, 3) := by decide +kernel
theorem d_Model_key_11 : decode b_Model_key 11 = .ok (.iload_n 1, 1) := by decide +kernel
theorem d_Model_key_12 : decode b_Model_key 12 = .ok (.aload_n 0, 1) := by decide +kernel
theorem d_Model_key_13 : decode b_Model_key 13 = .ok (.getfield 97, 3) := by decide +kernel
theorem d_Model_key_16 : decode b_Model_key 16 = .ok (.if_icmp .ge 25, 3) := by decide +kernel
theorem d_Model_key_19 : decode b_Model_key 19 = .ok (.aload_n 0, 1) := by decide +kernel
theorem d_Model_key_20 : decode b_Model_key 20 = .ok (.getfield 103, 3) := by decide +kernel
theorem d_Model_key_23 : decode b_Model_key 23 = .ok (.iload_n 1, 1) := by decide +kernel
theorem d_Model_key_24 : decode b_Model_key 24 = .ok (.bipush 32, 2) := by decide +kernel
theorem d_Model_key_26 : decode b_Model_key 26 = .ok (.idiv, 1) := by decide +kernel
theorem d_Model_key_27 : decode b_Model_key 27 = .ok (.iconst 1, 1) := by decide +kernel
theorem d_Model_key_28 : decode b_Model_key 28 = .ok (.iadd, 1) := by decide +kernel
theorem d_Model_key_29 : decode b_Model_key 29 = .ok (.aload_n 0, 1) := by decide +kernel
theorem d_Model_key_30 : decode b_Model_key 30 = .ok (.getfield 100, 3) := by decide +kernel
theorem d_Model_key_33 : decode b_Model_key 33 = .ok (.imul, 1) := by decide +kernel
theorem d_Model_key_34 : decode b_Model_key 34 = .ok (.if_icmp .lt 7, 3) := by decide +kernel
theorem d_Model_key_37 : decode b_Model_key 37 = .ok (.iconst 1, 1) := by decide +kernel
theorem d_Model_key_38 : decode b_Model_key 38 = .ok (.goto 4, 3) := by decide +kernel
theorem d_Model_key_41 : decode b_Model_key 41 = .ok (.iconst 0, 1) := by decide +kernel
theorem d_Model_key_42 : decode b_Model_key 42 = .ok (.istore_n 2, 1) := by decide +kernel
theorem d_Model_key_43 : decode b_Model_key 43 = .ok (.iload_n 2, 1) := by decide +kernel
theorem d_Model_key_44 : decode b_Model_key 44 = .ok (.ifCond .eq 16, 3) := by decide +kernel
theorem d_Model_key_47 : decode b_Model_key 47 = .ok (.aload_n 0, 1) := by decide +kernel
theorem d_Model_key_48 : decode b_Model_key 48 = .ok (.getfield 26, 3) := by decide +kernel
theorem d_Model_key_51 : decode b_Model_key 51 = .ok (.iload_n 1, 1) := by decide +kernel
theorem d_Model_key_52 : decode b_Model_key 52 = .ok (.baload, 1) := by decide +kernel
theorem d_Model_key_53 : decode b_Model_key 53 = .ok (.sipush 255, 3) := by decide +kernel
theorem d_Model_key_56 : decode b_Model_key 56 = .ok (.iand, 1) := by decide +kernel
theorem d_Model_key_57 : decode b_Model_key 57 = .ok (.goto 4, 3) := by decide +kernel
theorem d_Model_key_60 : decode b_Model_key 60 = .ok (.iconst (-1), 1) := by decide +kernel
theorem d_Model_key_61 : decode b_Model_key 61 = .ok (.ireturn, 1) := by decide +kernel
theorem d_Model_reset_0 : decode b_Model_reset 0 = .ok (.aload_n 0, 1) := by decide +kernel
theorem d_Model_reset_1 : decode b_Model_reset 1 = .ok (.iconst 0, 1) := by decide +kernel
theorem d_Model_reset_2 : decode b_Model_reset 2 = .ok (.putfield 76, 3) := by decide +kernel
theorem d_Model_reset_5 : decode b_Model_reset 5 = .ok (.aload_n 0, 1) := by decide +kernel
theorem d_Model_reset_6 : decode b_Model_reset 6 = .ok (.iconst 0, 1) := by decide +kernel
theorem d_Model_reset_7 : decode b_Model_reset 7 = .ok (.putfield 94, 3) := by decide +kernel
theorem d_Model_reset_10 : decode b_Model_reset 10 = .ok (.aload_n 0, 1) := by decide +kernel
theorem d_Model_reset_11 : decode b_Model_reset 11 = .ok (.iconst 0, 1) := by decide +kernel
theorem d_Model_reset_12 : decode b_Model_reset 12 = .ok (.putfield 86, 3) := by decide +kernel
theorem d_Model_reset_15 : decode b_Model_reset 15 = .ok (.return_, 1) := by decide +kernel
theorem d_Model_many_0 : decode b_Model_many 0 = .ok (.iload_n 1, 1) := by decide +kernel
theorem d_Model_many_1 : decode b_Model_many 1 = .ok (.ifCond .ne 10, 3) := by decide +kernel
theorem d_Model_many_4 : decode b_Model_many 4 = .ok (.aload_n 0, 1) := by decide +kernel
theorem d_Model_many_5 : decode b_Model_many 5 = .ok (.getfield 76, 3) := by decide +kernel
theorem d_Model_many_8 : decode b_Model_many 8 = .ok (.goto 39, 3) := by decide +kernel
theorem d_Model_many_11 : decode b_Model_many 11 = .ok (.iload_n 1, 1) := by decide +kernel
theorem d_Model_many_12 : decode b_Model_many 12 = .ok (.iconst 1, 1) := by decide +kernel
theorem d_Model_many_13 : decode b_Model_many 13 = .ok (.if_icmp .ne 10, 3) := by decide +kernel
theorem d_Model_many_16 : decode b_Model_many 16 = .ok (.aload_n 0, 1) := by decide +kernel
theorem d_Model_many_17 : decode b_Model_many 17 = .ok (.getfield 94, 3) := by decide +kernel
theorem d_Model_many_20 : decode b_Model_many 20 = .ok (.goto 27, 3) := by decide +kernel
theorem d_Model_many_23 : decode b_Model_many 23 = .ok (.iload_n 1, 1) := by decide +kernel
theorem d_Model_many_24 : decode b_Model_many 24 = .ok (.iconst 2, 1) := by decide +kernel
theorem d_Model_many_25 : decode b_Model_many 25 = .ok (.if_icmp .ne 21, 3) := by decide +kernel
theorem d_Model_many_28 : decode b_Model_many 28 = .ok (.aload_n 0, 1) := by decide +kernel
theorem d_Model_many_29 : decode b_Model_many 29 = .ok (.getfield 86, 3) := by decide +kernel
theorem d_Model_many_32 : decode b_Model_many 32 = .ok (.ifCond .eq 10, 3) := by decide +kernel
theorem d_Model_many_35 : decode b_Model_many 35 = .ok (.aload_n 0, 1) := by decide +kernel
theorem d_Model_many_36 : decode b_Model_many 36 = .ok (.getfield 97, 3) := by decide +kernel
theorem d_Model_many_39 : decode b_Model_many 39 = .ok (.goto 8, 3) := by decide +kernel
theorem d_Model_many_42 : decode b_Model_many 42 = .ok (.iconst 0, 1) := by decide +kernel
theorem d_Model_many_43 : decode b_Model_many 43 = .ok (.goto 4, 3) := by decide +kernel
theorem d_Model_many_46 : decode b_Model_many 46 = .ok (.iconst (-1), 1) := by decide +kernel
theorem d_Model_many_47 : decode b_Model_many 47 = .ok (.ireturn, 1) := by decide +kernel
theorem d_Model_sum_0 : decode b_Model_sum 0 = .ok (.iload_n 1, 1) := by decide +kernel
theorem d_Model_sum_1 : decode b_Model_sum 1 = .ok (.ifCond .lt 9, 3) := by decide +kernel
theorem d_Model_sum_4 : decode b_Model_sum 4 = .ok (.iload_n 1, 1) := by decide +kernel
theorem d_Model_sum_5 : decode b_Model_sum 5 = .ok (.bipush 32, 2) := by decide +kernel
theorem d_Model_sum_7 : decode b_Model_sum 7 = .ok (.if_icmp .lt 5, 3) := by decide +kernel
theorem d_Model_sum_10 : decode b_Model_sum 10 = .ok (.iconst (-1), 1) := by decide +kernel
theorem d_Model_sum_11 : decode b_Model_sum 11 = .ok (.ireturn, 1) := by decide +kernel
theorem d_Model_sum_12 : decode b_Model_sum 12 = .ok (.aload_n 0, 1) := by decide +kernel
theorem d_Model_sum_13 : decode b_Model_sum 13 = .ok (.aload_n 0, 1) := by decide +kernel
theorem d_Model_sum_14 : decode b_Model_sum 14 = .ok (.getfield 16, 3) := by decide +kernel
theorem d_Model_sum_17 : decode b_Model_sum 17 = .ok (.aload_n 0, 1) := by decide +kernel
theorem d_Model_sum_18 : decode b_Model_sum 18 = .ok (.getfield 76, 3) := by decide +kernel
theorem d_Model_sum_21 : decode b_Model_sum 21 = .ok (.invokevirtual 79, 3) := by decide +kernel
theorem d_Model_sum_24 : decode b_Model_sum 24 = .ok (.aload_n 0, 1) := by decide +kernel
theorem d_Model_sum_25 : decode b_Model_sum 25 = .ok (.getfield 32, 3) := by decide +kernel
theorem d_Model_sum_28 : decode b_Model_sum 28 = .ok (.iload_n 1, 1) := by decide +kernel
theorem d_Model_sum_29 : decode b_Model_sum 29 = .ok (.baload, 1) := by decide +kernel
theorem d_Model_sum_30 : decode b_Model_sum 30 = .ok (.sipush 255, 3) := by decide +kernel
theorem d_Model_sum_33 : decode b_Model_sum 33 = .ok (.iand, 1) := by decide +kernel
theorem d_Model_sum_34 : decode b_Model_sum 34 = .ok (.ireturn, 1) := by decide +kernel
theorem d_Model_mark_0 : decode b_Model_mark 0 = .ok (.iload_n 1, 1) := by decide +kernel
theorem d_Model_mark_1 : decode b_Model_mark 1 = .ok (.ifCond .lt 9, 3) := by decide +kernel
theorem d_Model_mark_4 : decode b_Model_mark 4 = .ok (.iload_n 1, 1) := by decide +kernel
theorem d_Model_mark_5 : decode b_Model_mark 5 = .ok (.bipush 32, 2) := by decide +kernel
theorem d_Model_mark_7 : decode b_Model_mark 7 = .ok (.if_icmp .lt 5, 3) := by decide +kernel
theorem d_Model_mark_10 : decode b_Model_mark 10 = .ok (.iconst (-1), 1) := by decide +kernel
theorem d_Model_mark_11 : decode b_Model_mark 11 = .ok (.ireturn, 1) := by decide +kernel
theorem d_Model_mark_12 : decode b_Model_mark 12 = .ok (.aload_n 0, 1) := by decide +kernel
theorem d_Model_mark_13 : decode b_Model_mark 13 = .ok (.aload_n 0, 1) := by decide +kernel
theorem d_Model_mark_14 : decode b_Model_mark 14 = .ok (.getfield 20, 3) := by decide +kernel
theorem d_Model_mark_17 : decode b_Model_mark 17 = .ok (.aload_n 0, 1) := by decide +kernel
theorem d_Model_mark_18 : decode b_Model_mark 18 = .ok (.getfield 94, 3) := by decide +kernel
theorem d_Model_mark_21 : decode b_Model_mark 21 = .ok (.invokevirtual 113, 3) := by decide +kernel
theorem d_Model_mark_24 : decode b_Model_mark 24 = .ok (.aload_n 0, 1) := by decide +kernel
theorem d_Model_mark_25 : decode b_Model_mark 25 = .ok (.getfield 32, 3) := by decide +kernel
theorem d_Model_mark_28 : decode b_Model_mark 28 = .ok (.iload_n 1, 1) := by decide +kernel
theorem d_Model_mark_29 : decode b_Model_mark 29 = .ok (.baload, 1) := by decide +kernel
theorem d_Model_mark_30 : decode b_Model_mark 30 = .ok (.sipush 255, 3) := by decide +kernel
theorem d_Model_mark_33 : decode b_Model_mark 33 = .ok (.iand, 1) := by decide +kernel
theorem d_Model_mark_34 : decode b_Model_mark 34 = .ok (.ireturn, 1) := by decide +kernel
end
section
theorem d_Law_law_0 : decode code 0 = .ok (.new 7, 3) := by decide +kernel
theorem d_Law_law_3 : decode code 3 = .ok (.dup, 1) := by decide +kernel
theorem d_Law_law_4 : decode code 4 = .ok (.invokespecial 9, 3) := by decide +kernel
theorem d_Law_law_7 : decode code 7 = .ok (.astore_n 1, 1) := by decide +kernel
theorem d_Law_law_8 : decode code 8 = .ok (.new 10, 3) := by decide +kernel
theorem d_Law_law_11 : decode code 11 = .ok (.dup, 1) := by decide +kernel
theorem d_Law_law_12 : decode code 12 = .ok (.invokespecial 12, 3) := by decide +kernel
theorem d_Law_law_15 : decode code 15 = .ok (.astore_n 2, 1) := by decide +kernel
theorem d_Law_law_16 : decode code 16 = .ok (.iconst 0, 1) := by decide +kernel
theorem d_Law_law_17 : decode code 17 = .ok (.istore_n 3, 1) := by decide +kernel
theorem d_Law_law_18 : decode code 18 = .ok (.iload_n 3, 1) := by decide +kernel
theorem d_Law_law_19 : decode code 19 = .ok (.aload_n 0, 1) := by decide +kernel
theorem d_Law_law_20 : decode code 20 = .ok (.arraylength, 1) := by decide +kernel
theorem d_Law_law_21 : decode code 21 = .ok (.iconst 3, 1) := by decide +kernel
theorem d_Law_law_22 : decode code 22 = .ok (.isub, 1) := by decide +kernel
theorem d_Law_law_23 : decode code 23 = .ok (.if_icmp .gt 370, 3) := by decide +kernel
theorem d_Law_law_26 : decode code 26 = .ok (.aload_n 0, 1) := by decide +kernel
theorem d_Law_law_27 : decode code 27 = .ok (.iload_n 3, 1) := by decide +kernel
theorem d_Law_law_28 : decode code 28 = .ok (.iaload, 1) := by decide +kernel
theorem d_Law_law_29 : decode code 29 = .ok (.bipush 15, 2) := by decide +kernel
theorem d_Law_law_31 : decode code 31 = .ok (.iand, 1) := by decide +kernel
theorem d_Law_law_32 : decode code 32 = .ok (.tableswitch 355 0 12 #[68, 91, 114, 137, 170, 183, 206, 219, 242, 253, 276, 299, 322], 68) := by decide +kernel
theorem d_Law_law_100 : decode code 100 = .ok (.aload_n 1, 1) := by decide +kernel
theorem d_Law_law_101 : decode code 101 = .ok (.aload_n 0, 1) := by decide +kernel
theorem d_Law_law_102 : decode code 102 = .ok (.iload_n 3, 1) := by decide +kernel
theorem d_Law_law_103 : decode code 103 = .ok (.iconst 1, 1) := by decide +kernel
theorem d_Law_law_104 : decode code 104 = .ok (.iadd, 1) := by decide +kernel
theorem d_Law_law_105 : decode code 105 = .ok (.iaload, 1) := by decide +kernel
theorem d_Law_law_106 : decode code 106 = .ok (.invokevirtual 13, 3) := by decide +kernel
theorem d_Law_law_109 : decode code 109 = .ok (.aload_n 2, 1) := by decide +kernel
theorem d_Law_law_110 : decode code 110 = .ok (.aload_n 0, 1) := by decide +kernel
theorem d_Law_law_111 : decode code 111 = .ok (.iload_n 3, 1) := by decide +kernel
theorem d_Law_law_112 : decode code 112 = .ok (.iconst 1, 1) := by decide +kernel
theorem d_Law_law_113 : decode code 113 = .ok (.iadd, 1) := by decide +kernel
theorem d_Law_law_114 : decode code 114 = .ok (.iaload, 1) := by decide +kernel
theorem d_Law_law_115 : decode code 115 = .ok (.invokevirtual 17, 3) := by decide +kernel
theorem d_Law_law_118 : decode code 118 = .ok (.if_icmp .eq 269, 3) := by decide +kernel
theorem d_Law_law_121 : decode code 121 = .ok (.iconst 0, 1) := by decide +kernel
theorem d_Law_law_122 : decode code 122 = .ok (.ireturn, 1) := by decide +kernel
theorem d_Law_law_123 : decode code 123 = .ok (.aload_n 1, 1) := by decide +kernel
theorem d_Law_law_124 : decode code 124 = .ok (.aload_n 0, 1) := by decide +kernel
theorem d_Law_law_125 : decode code 125 = .ok (.iload_n 3, 1) := by decide +kernel
theorem d_Law_law_126 : decode code 126 = .ok (.iconst 1, 1) := by decide +kernel
theorem d_Law_law_127 : decode code 127 = .ok (.iadd, 1) := by decide +kernel
theorem d_Law_law_128 : decode code 128 = .ok (.iaload, 1) := by decide +kernel
theorem d_Law_law_129 : decode code 129 = .ok (.invokevirtual 18, 3) := by decide +kernel
theorem d_Law_law_132 : decode code 132 = .ok (.aload_n 2, 1) := by decide +kernel
theorem d_Law_law_133 : decode code 133 = .ok (.aload_n 0, 1) := by decide +kernel
theorem d_Law_law_134 : decode code 134 = .ok (.iload_n 3, 1) := by decide +kernel
theorem d_Law_law_135 : decode code 135 = .ok (.iconst 1, 1) := by decide +kernel
theorem d_Law_law_136 : decode code 136 = .ok (.iadd, 1) := by decide +kernel
theorem d_Law_law_137 : decode code 137 = .ok (.iaload, 1) := by decide +kernel
theorem d_Law_law_138 : decode code 138 = .ok (.invokevirtual 21, 3) := by decide +kernel
theorem d_Law_law_141 : decode code 141 = .ok (.if_icmp .eq 246, 3) := by decide +kernel
theorem d_Law_law_144 : decode code 144 = .ok (.iconst 0, 1) := by decide +kernel
theorem d_Law_law_145 : decode code 145 = .ok (.ireturn, 1) := by decide +kernel
theorem d_Law_law_146 : decode code 146 = .ok (.aload_n 1, 1) := by decide +kernel
theorem d_Law_law_147 : decode code 147 = .ok (.aload_n 0, 1) := by decide +kernel
theorem d_Law_law_148 : decode code 148 = .ok (.iload_n 3, 1) := by decide +kernel
theorem d_Law_law_149 : decode code 149 = .ok (.iconst 1, 1) := by decide +kernel
theorem d_Law_law_150 : decode code 150 = .ok (.iadd, 1) := by decide +kernel
theorem d_Law_law_151 : decode code 151 = .ok (.iaload, 1) := by decide +kernel
theorem d_Law_law_152 : decode code 152 = .ok (.invokevirtual 22, 3) := by decide +kernel
theorem d_Law_law_155 : decode code 155 = .ok (.aload_n 2, 1) := by decide +kernel
theorem d_Law_law_156 : decode code 156 = .ok (.aload_n 0, 1) := by decide +kernel
theorem d_Law_law_157 : decode code 157 = .ok (.iload_n 3, 1) := by decide +kernel
theorem d_Law_law_158 : decode code 158 = .ok (.iconst 1, 1) := by decide +kernel
theorem d_Law_law_159 : decode code 159 = .ok (.iadd, 1) := by decide +kernel
theorem d_Law_law_160 : decode code 160 = .ok (.iaload, 1) := by decide +kernel
theorem d_Law_law_161 : decode code 161 = .ok (.invokevirtual 25, 3) := by decide +kernel
theorem d_Law_law_164 : decode code 164 = .ok (.if_icmp .eq 223, 3) := by decide +kernel
theorem d_Law_law_167 : decode code 167 = .ok (.iconst 0, 1) := by decide +kernel
theorem d_Law_law_168 : decode code 168 = .ok (.ireturn, 1) := by decide +kernel
theorem d_Law_law_169 : decode code 169 = .ok (.aload_n 1, 1) := by decide +kernel
theorem d_Law_law_170 : decode code 170 = .ok (.aload_n 0, 1) := by decide +kernel
theorem d_Law_law_171 : decode code 171 = .ok (.iload_n 3, 1) := by decide +kernel
theorem d_Law_law_172 : decode code 172 = .ok (.iconst 1, 1) := by decide +kernel
theorem d_Law_law_173 : decode code 173 = .ok (.iadd, 1) := by decide +kernel
theorem d_Law_law_174 : decode code 174 = .ok (.iaload, 1) := by decide +kernel
theorem d_Law_law_175 : decode code 175 = .ok (.aload_n 0, 1) := by decide +kernel
theorem d_Law_law_176 : decode code 176 = .ok (.iload_n 3, 1) := by decide +kernel
theorem d_Law_law_177 : decode code 177 = .ok (.iconst 2, 1) := by decide +kernel
theorem d_Law_law_178 : decode code 178 = .ok (.iadd, 1) := by decide +kernel
theorem d_Law_law_179 : decode code 179 = .ok (.iaload, 1) := by decide +kernel
theorem d_Law_law_180 : decode code 180 = .ok (.invokevirtual 26, 3) := by decide +kernel
theorem d_Law_law_183 : decode code 183 = .ok (.aload_n 2, 1) := by decide +kernel
theorem d_Law_law_184 : decode code 184 = .ok (.aload_n 0, 1) := by decide +kernel
theorem d_Law_law_185 : decode code 185 = .ok (.iload_n 3, 1) := by decide +kernel
theorem d_Law_law_186 : decode code 186 = .ok (.iconst 1, 1) := by decide +kernel
theorem d_Law_law_187 : decode code 187 = .ok (.iadd, 1) := by decide +kernel
theorem d_Law_law_188 : decode code 188 = .ok (.iaload, 1) := by decide +kernel
theorem d_Law_law_189 : decode code 189 = .ok (.aload_n 0, 1) := by decide +kernel
theorem d_Law_law_190 : decode code 190 = .ok (.iload_n 3, 1) := by decide +kernel
theorem d_Law_law_191 : decode code 191 = .ok (.iconst 2, 1) := by decide +kernel
theorem d_Law_law_192 : decode code 192 = .ok (.iadd, 1) := by decide +kernel
theorem d_Law_law_193 : decode code 193 = .ok (.iaload, 1) := by decide +kernel
theorem d_Law_law_194 : decode code 194 = .ok (.invokevirtual 30, 3) := by decide +kernel
theorem d_Law_law_197 : decode code 197 = .ok (.if_icmp .eq 190, 3) := by decide +kernel
theorem d_Law_law_200 : decode code 200 = .ok (.iconst 0, 1) := by decide +kernel
theorem d_Law_law_201 : decode code 201 = .ok (.ireturn, 1) := by decide +kernel
theorem d_Law_law_202 : decode code 202 = .ok (.aload_n 1, 1) := by decide +kernel
theorem d_Law_law_203 : decode code 203 = .ok (.invokevirtual 31, 3) := by decide +kernel
theorem d_Law_law_206 : decode code 206 = .ok (.aload_n 2, 1) := by decide +kernel
theorem d_Law_law_207 : decode code 207 = .ok (.invokevirtual 35, 3) := by decide +kernel
theorem d_Law_law_210 : decode code 210 = .ok (.if_icmp .eq 177, 3) := by decide +kernel
theorem d_Law_law_213 : decode code 213 = .ok (.iconst 0, 1) := by decide +kernel
theorem d_Law_law_214 : decode code 214 = .ok (.ireturn, 1) := by decide +kernel
theorem d_Law_law_215 : decode code 215 = .ok (.aload_n 1, 1) := by decide +kernel
theorem d_Law_law_216 : decode code 216 = .ok (.aload_n 0, 1) := by decide +kernel
theorem d_Law_law_217 : decode code 217 = .ok (.iload_n 3, 1) := by decide +kernel
theorem d_Law_law_218 : decode code 218 = .ok (.iconst 1, 1) := by decide +kernel
theorem d_Law_law_219 : decode code 219 = .ok (.iadd, 1) := by decide +kernel
theorem d_Law_law_220 : decode code 220 = .ok (.iaload, 1) := by decide +kernel
theorem d_Law_law_221 : decode code 221 = .ok (.invokevirtual 36, 3) := by decide +kernel
theorem d_Law_law_224 : decode code 224 = .ok (.aload_n 2, 1) := by decide +kernel
theorem d_Law_law_225 : decode code 225 = .ok (.aload_n 0, 1) := by decide +kernel
theorem d_Law_law_226 : decode code 226 = .ok (.iload_n 3, 1) := by decide +kernel
theorem d_Law_law_227 : decode code 227 = .ok (.iconst 1, 1) := by decide +kernel
theorem d_Law_law_228 : decode code 228 = .ok (.iadd, 1) := by decide +kernel
theorem d_Law_law_229 : decode code 229 = .ok (.iaload, 1) := by decide +kernel
theorem d_Law_law_230 : decode code 230 = .ok (.invokevirtual 40, 3) := by decide +kernel
theorem d_Law_law_233 : decode code 233 = .ok (.if_icmp .eq 154, 3) := by decide +kernel
theorem d_Law_law_236 : decode code 236 = .ok (.iconst 0, 1) := by decide +kernel
theorem d_Law_law_237 : decode code 237 = .ok (.ireturn, 1) := by decide +kernel
theorem d_Law_law_238 : decode code 238 = .ok (.aload_n 1, 1) := by decide +kernel
theorem d_Law_law_239 : decode code 239 = .ok (.invokevirtual 41, 3) := by decide +kernel
theorem d_Law_law_242 : decode code 242 = .ok (.aload_n 2, 1) := by decide +kernel
theorem d_Law_law_243 : decode code 243 = .ok (.invokevirtual 44, 3) := by decide +kernel
theorem d_Law_law_246 : decode code 246 = .ok (.if_icmp .eq 141, 3) := by decide +kernel
theorem d_Law_law_249 : decode code 249 = .ok (.iconst 0, 1) := by decide +kernel
theorem d_Law_law_250 : decode code 250 = .ok (.ireturn, 1) := by decide +kernel
theorem d_Law_law_251 : decode code 251 = .ok (.aload_n 1, 1) := by decide +kernel
theorem d_Law_law_252 : decode code 252 = .ok (.aload_n 0, 1) := by decide +kernel
theorem d_Law_law_253 : decode code 253 = .ok (.iload_n 3, 1) := by decide +kernel
theorem d_Law_law_254 : decode code 254 = .ok (.iconst 1, 1) := by decide +kernel
theorem d_Law_law_255 : decode code 255 = .ok (.iadd, 1) := by decide +kernel
theorem d_Law_law_256 : decode code 256 = .ok (.iaload, 1) := by decide +kernel
theorem d_Law_law_257 : decode code 257 = .ok (.invokevirtual 45, 3) := by decide +kernel
theorem d_Law_law_260 : decode code 260 = .ok (.aload_n 2, 1) := by decide +kernel
theorem d_Law_law_261 : decode code 261 = .ok (.aload_n 0, 1) := by decide +kernel
theorem d_Law_law_262 : decode code 262 = .ok (.iload_n 3, 1) := by decide +kernel
theorem d_Law_law_263 : decode code 263 = .ok (.iconst 1, 1) := by decide +kernel
theorem d_Law_law_264 : decode code 264 = .ok (.iadd, 1) := by decide +kernel
theorem d_Law_law_265 : decode code 265 = .ok (.iaload, 1) := by decide +kernel
theorem d_Law_law_266 : decode code 266 = .ok (.invokevirtual 48, 3) := by decide +kernel
theorem d_Law_law_269 : decode code 269 = .ok (.if_icmp .eq 118, 3) := by decide +kernel
theorem d_Law_law_272 : decode code 272 = .ok (.iconst 0, 1) := by decide +kernel
theorem d_Law_law_273 : decode code 273 = .ok (.ireturn, 1) := by decide +kernel
theorem d_Law_law_274 : decode code 274 = .ok (.aload_n 1, 1) := by decide +kernel
theorem d_Law_law_275 : decode code 275 = .ok (.invokevirtual 49, 3) := by decide +kernel
theorem d_Law_law_278 : decode code 278 = .ok (.aload_n 2, 1) := by decide +kernel
theorem d_Law_law_279 : decode code 279 = .ok (.invokevirtual 52, 3) := by decide +kernel
theorem d_Law_law_282 : decode code 282 = .ok (.goto 105, 3) := by decide +kernel
theorem d_Law_law_285 : decode code 285 = .ok (.aload_n 1, 1) := by decide +kernel
theorem d_Law_law_286 : decode code 286 = .ok (.aload_n 0, 1) := by decide +kernel
theorem d_Law_law_287 : decode code 287 = .ok (.iload_n 3, 1) := by decide +kernel
theorem d_Law_law_288 : decode code 288 = .ok (.iconst 1, 1) := by decide +kernel
theorem d_Law_law_289 : decode code 289 = .ok (.iadd, 1) := by decide +kernel
theorem d_Law_law_290 : decode code 290 = .ok (.iaload, 1) := by decide +kernel
theorem d_Law_law_291 : decode code 291 = .ok (.invokevirtual 53, 3) := by decide +kernel
theorem d_Law_law_294 : decode code 294 = .ok (.aload_n 2, 1) := by decide +kernel
theorem d_Law_law_295 : decode code 295 = .ok (.aload_n 0, 1) := by decide +kernel
theorem d_Law_law_296 : decode code 296 = .ok (.iload_n 3, 1) := by decide +kernel
theorem d_Law_law_297 : decode code 297 = .ok (.iconst 1, 1) := by decide +kernel
theorem d_Law_law_298 : decode code 298 = .ok (.iadd, 1) := by decide +kernel
theorem d_Law_law_299 : decode code 299 = .ok (.iaload, 1) := by decide +kernel
theorem d_Law_law_300 : decode code 300 = .ok (.invokevirtual 56, 3) := by decide +kernel
theorem d_Law_law_303 : decode code 303 = .ok (.if_icmp .eq 84, 3) := by decide +kernel
theorem d_Law_law_306 : decode code 306 = .ok (.iconst 0, 1) := by decide +kernel
theorem d_Law_law_307 : decode code 307 = .ok (.ireturn, 1) := by decide +kernel
theorem d_Law_law_308 : decode code 308 = .ok (.aload_n 1, 1) := by decide +kernel
theorem d_Law_law_309 : decode code 309 = .ok (.aload_n 0, 1) := by decide +kernel
theorem d_Law_law_310 : decode code 310 = .ok (.iload_n 3, 1) := by decide +kernel
theorem d_Law_law_311 : decode code 311 = .ok (.iconst 1, 1) := by decide +kernel
theorem d_Law_law_312 : decode code 312 = .ok (.iadd, 1) := by decide +kernel
theorem d_Law_law_313 : decode code 313 = .ok (.iaload, 1) := by decide +kernel
theorem d_Law_law_314 : decode code 314 = .ok (.invokevirtual 57, 3) := by decide +kernel
theorem d_Law_law_317 : decode code 317 = .ok (.aload_n 2, 1) := by decide +kernel
theorem d_Law_law_318 : decode code 318 = .ok (.aload_n 0, 1) := by decide +kernel
theorem d_Law_law_319 : decode code 319 = .ok (.iload_n 3, 1) := by decide +kernel
theorem d_Law_law_320 : decode code 320 = .ok (.iconst 1, 1) := by decide +kernel
theorem d_Law_law_321 : decode code 321 = .ok (.iadd, 1) := by decide +kernel
theorem d_Law_law_322 : decode code 322 = .ok (.iaload, 1) := by decide +kernel
theorem d_Law_law_323 : decode code 323 = .ok (.invokevirtual 60, 3) := by decide +kernel
theorem d_Law_law_326 : decode code 326 = .ok (.if_icmp .eq 61, 3) := by decide +kernel
theorem d_Law_law_329 : decode code 329 = .ok (.iconst 0, 1) := by decide +kernel
theorem d_Law_law_330 : decode code 330 = .ok (.ireturn, 1) := by decide +kernel
theorem d_Law_law_331 : decode code 331 = .ok (.aload_n 1, 1) := by decide +kernel
theorem d_Law_law_332 : decode code 332 = .ok (.aload_n 0, 1) := by decide +kernel
theorem d_Law_law_333 : decode code 333 = .ok (.iload_n 3, 1) := by decide +kernel
theorem d_Law_law_334 : decode code 334 = .ok (.iconst 1, 1) := by decide +kernel
theorem d_Law_law_335 : decode code 335 = .ok (.iadd, 1) := by decide +kernel
theorem d_Law_law_336 : decode code 336 = .ok (.iaload, 1) := by decide +kernel
theorem d_Law_law_337 : decode code 337 = .ok (.invokevirtual 61, 3) := by decide +kernel
theorem d_Law_law_340 : decode code 340 = .ok (.aload_n 2, 1) := by decide +kernel
theorem d_Law_law_341 : decode code 341 = .ok (.aload_n 0, 1) := by decide +kernel
theorem d_Law_law_342 : decode code 342 = .ok (.iload_n 3, 1) := by decide +kernel
theorem d_Law_law_343 : decode code 343 = .ok (.iconst 1, 1) := by decide +kernel
theorem d_Law_law_344 : decode code 344 = .ok (.iadd, 1) := by decide +kernel
theorem d_Law_law_345 : decode code 345 = .ok (.iaload, 1) := by decide +kernel
theorem d_Law_law_346 : decode code 346 = .ok (.invokevirtual 64, 3) := by decide +kernel
theorem d_Law_law_349 : decode code 349 = .ok (.if_icmp .eq 38, 3) := by decide +kernel
theorem d_Law_law_352 : decode code 352 = .ok (.iconst 0, 1) := by decide +kernel
theorem d_Law_law_353 : decode code 353 = .ok (.ireturn, 1) := by decide +kernel
theorem d_Law_law_354 : decode code 354 = .ok (.aload_n 1, 1) := by decide +kernel
theorem d_Law_law_355 : decode code 355 = .ok (.aload_n 0, 1) := by decide +kernel
theorem d_Law_law_356 : decode code 356 = .ok (.iload_n 3, 1) := by decide +kernel
theorem d_Law_law_357 : decode code 357 = .ok (.iconst 1, 1) := by decide +kernel
theorem d_Law_law_358 : decode code 358 = .ok (.iadd, 1) := by decide +kernel
theorem d_Law_law_359 : decode code 359 = .ok (.iaload, 1) := by decide +kernel
theorem d_Law_law_360 : decode code 360 = .ok (.aload_n 0, 1) := by decide +kernel
theorem d_Law_law_361 : decode code 361 = .ok (.iload_n 3, 1) := by decide +kernel
theorem d_Law_law_362 : decode code 362 = .ok (.iconst 2, 1) := by decide +kernel
theorem d_Law_law_363 : decode code 363 = .ok (.iadd, 1) := by decide +kernel
theorem d_Law_law_364 : decode code 364 = .ok (.iaload, 1) := by decide +kernel
theorem d_Law_law_365 : decode code 365 = .ok (.invokevirtual 65, 3) := by decide +kernel
theorem d_Law_law_368 : decode code 368 = .ok (.aload_n 2, 1) := by decide +kernel
theorem d_Law_law_369 : decode code 369 = .ok (.aload_n 0, 1) := by decide +kernel
theorem d_Law_law_370 : decode code 370 = .ok (.iload_n 3, 1) := by decide +kernel
theorem d_Law_law_371 : decode code 371 = .ok (.iconst 1, 1) := by decide +kernel
theorem d_Law_law_372 : decode code 372 = .ok (.iadd, 1) := by decide +kernel
theorem d_Law_law_373 : decode code 373 = .ok (.iaload, 1) := by decide +kernel
theorem d_Law_law_374 : decode code 374 = .ok (.aload_n 0, 1) := by decide +kernel
theorem d_Law_law_375 : decode code 375 = .ok (.iload_n 3, 1) := by decide +kernel
theorem d_Law_law_376 : decode code 376 = .ok (.iconst 2, 1) := by decide +kernel
theorem d_Law_law_377 : decode code 377 = .ok (.iadd, 1) := by decide +kernel
theorem d_Law_law_378 : decode code 378 = .ok (.iaload, 1) := by decide +kernel
theorem d_Law_law_379 : decode code 379 = .ok (.invokevirtual 68, 3) := by decide +kernel
theorem d_Law_law_382 : decode code 382 = .ok (.if_icmp .eq 5, 3) := by decide +kernel
theorem d_Law_law_385 : decode code 385 = .ok (.iconst 0, 1) := by decide +kernel
theorem d_Law_law_386 : decode code 386 = .ok (.ireturn, 1) := by decide +kernel
theorem d_Law_law_387 : decode code 387 = .ok (.iinc 3 3, 3) := by decide +kernel
theorem d_Law_law_390 : decode code 390 = .ok (.goto (-372), 3) := by decide +kernel
theorem d_Law_law_393 : decode code 393 = .ok (.iconst 1, 1) := by decide +kernel
theorem d_Law_law_394 : decode code 394 = .ok (.ireturn, 1) := by decide +kernel
end
section
/-! ===== Int32 by its bits: bt x i ===== -/
def bt (x : Int32) (i : Nat) : Bool := x.toBitVec.getLsbD i
theorem b_ext {x y : Int32} (h : ∀ i, i < 32 → bt x i = bt y i) : x = y := Int32.toBitVec_inj.mp (BitVec.eq_of_getLsbD_eq (fun i hi => h i hi))
theorem b_or (x y : Int32) (i : Nat) : bt (x ||| y) i = (bt x i || bt y i) := by unfold bt; rw [Int32.toBitVec_or, BitVec.getLsbD_or]
theorem b_and (x y : Int32) (i : Nat) : bt (x &&& y) i = (bt x i && bt y i) := by unfold bt; rw [Int32.toBitVec_and, BitVec.getLsbD_and]
theorem b_xor (x y : Int32) (i : Nat) : bt (x ^^^ y) i = (bt x i ^^ bt y i) := by unfold bt; rw [Int32.toBitVec_xor, BitVec.getLsbD_xor]
theorem b_big {x : Int32} {i : Nat} (h : 32 ≤ i) : bt x i = false := BitVec.getLsbD_of_ge _ _ h
theorem b_255 (i : Nat) : bt 255 i = decide (i < 8) := by
  rcases Nat.lt_or_ge i 32 with h | h
  · exact (by decide +kernel : ∀ i, i < 32 → bt 255 i = decide (i < 8)) i h
  · rw [b_big h, decide_eq_false (by omega)]
theorem b_65535 (i : Nat) : bt 65535 i = decide (i < 16) := by
  rcases Nat.lt_or_ge i 32 with h | h
  · exact (by decide +kernel : ∀ i, i < 32 → bt 65535 i = decide (i < 16)) i h
  · rw [b_big h, decide_eq_false (by omega)]
theorem b_m1 : ∀ i, i < 32 → bt (-1) i = true := by decide +kernel
theorem b_0 (i : Nat) : bt 0 i = false := BitVec.getLsbD_zero
theorem s_l : ∀ n, n < 32 → ((nI n &&& 31).toBitVec.smod 32).toNat = n := by decide +kernel
theorem s_u : ∀ n, n < 32 → (((nI n).toUInt32 &&& Int32.toUInt32 31).toBitVec % 32).toNat = n := by decide +kernel
theorem b_shl (n : Nat) (hn : n < 32) (x : Int32) {i : Nat} (hi : i < 32) : bt (x <<< (nI n &&& 31)) i = (decide (n ≤ i) && bt x (i - n)) := by
  unfold bt
  rw [Int32.toBitVec_shiftLeft]
  show (x.toBitVec <<< ((nI n &&& 31).toBitVec.smod 32).toNat).getLsbD i = _
  rw [s_l n hn, BitVec.getLsbD_shiftLeft]
  rcases Nat.lt_or_ge i n with h | h
  · simp [h, Nat.not_le.mpr h]
  · simp [hi, h, Nat.not_lt.mpr h]
theorem b_ushr (n : Nat) (hn : n < 32) (x : Int32) (i : Nat) : bt ((x.toUInt32 >>> ((nI n).toUInt32 &&& Int32.toUInt32 31)).toInt32) i = bt x (n + i) := by
  show (x.toUInt32 >>> ((nI n).toUInt32 &&& Int32.toUInt32 31)).toBitVec.getLsbD i = x.toUInt32.toBitVec.getLsbD (n + i)
  rw [UInt32.toBitVec_shiftRight]
  show (x.toUInt32.toBitVec >>> (((nI n).toUInt32 &&& Int32.toUInt32 31).toBitVec % 32).toNat).getLsbD i = _
  rw [s_u n hn, BitVec.getLsbD_ushiftRight]
theorem b_sshr (n : Nat) (hn : n < 32) (x : Int32) {i : Nat} (hi : i < 32) : bt (x >>> (nI n &&& 31)) i = if n + i < 32 then bt x (n + i) else bt x 31 := by
  unfold bt
  rw [Int32.toBitVec_shiftRight]
  show (x.toBitVec.sshiftRight ((nI n &&& 31).toBitVec.smod 32).toNat).getLsbD i = _
  rw [s_l n hn, BitVec.getLsbD_sshiftRight, BitVec.msb_eq_getLsbD_last]
  simp [hi]
theorem b_shl8 (x : Int32) {i : Nat} (hi : i < 32) : bt (x <<< ((8 : Int32) &&& 31)) i = (decide (8 ≤ i) && bt x (i - 8)) := b_shl 8 (by omega) x hi
theorem b_shl16 (x : Int32) {i : Nat} (hi : i < 32) : bt (x <<< ((16 : Int32) &&& 31)) i = (decide (16 ≤ i) && bt x (i - 16)) := b_shl 16 (by omega) x hi
theorem b_shl24 (x : Int32) {i : Nat} (hi : i < 32) : bt (x <<< ((24 : Int32) &&& 31)) i = (decide (24 ≤ i) && bt x (i - 24)) := b_shl 24 (by omega) x hi
theorem b_sshr8 (x : Int32) {i : Nat} (hi : i < 32) : bt (x >>> ((8 : Int32) &&& 31)) i = if 8 + i < 32 then bt x (8 + i) else bt x 31 := b_sshr 8 (by omega) x hi
/-! ===== a byte read unsigned ===== -/
theorem bp_b (x : Int32) : x.toInt8.toInt32 &&& 255 = x &&& 255 := by
  apply Int32.toBitVec_inj.mp
  rw [Int32.toBitVec_and, Int32.toBitVec_and, Int8.toBitVec_toInt32, Int32.toBitVec_toInt8]
  apply BitVec.eq_of_getLsbD_eq
  intro i hi
  rw [BitVec.getLsbD_and, BitVec.getLsbD_and]
  have hm : ∀ i < 32, 8 ≤ i → (255 : Int32).toBitVec.getLsbD i = false := by decide
  rcases Nat.lt_or_ge i 8 with z | z
  · rw [BitVec.getLsbD_signExtend, BitVec.getLsbD_signExtend, if_pos z, if_pos hi]
    simp only [z, hi, decide_true, Bool.true_and]
  · rw [hm i hi z]; simp
/-- x >>> n -/
def xu (x n : Int32) : Int32 := (x.toUInt32 >>> (n.toUInt32 &&& Int32.toUInt32 31)).toInt32
/-- x turned n places down -/
def xr (x n : Int32) : Int32 := xu x n ||| (x <<< (-n &&& 31))
theorem xu_bt (n : Nat) (hn : n < 32) (x : Int32) (i : Nat) : bt (xu x (nI n)) i = bt x (n + i) := b_ushr n hn x i
/-- a byte: 0 .. 255 -/
def kr (x : Int32) : Prop := x &&& 255 = x
theorem kr_bt {x : Int32} (h : kr x) {i : Nat} (hi : 8 ≤ i) : bt x i = false := by
  have h' : x &&& 255 = x := h
  have e : bt (x &&& 255) i = bt x i := by rw [h']
  rw [b_and, b_255, decide_eq_false (by omega), Bool.and_false] at e
  exact e.symm
theorem kr_of {x : Int32} (h : ∀ i, 8 ≤ i → i < 32 → bt x i = false) : kr x := by
  apply b_ext
  intro i hi
  rw [b_and, b_255]
  rcases Nat.lt_or_ge i 8 with z | z
  · rw [decide_eq_true z, Bool.and_true]
  · rw [h i z hi, Bool.false_and]
theorem kr_and (x : Int32) : kr (x &&& 255) := kr_of fun i h _ => by rw [b_and, b_255, decide_eq_false (by omega), Bool.and_false]
theorem kr_xor {x y : Int32} (hx : kr x) (hy : kr y) : kr (x ^^^ y) := kr_of fun i h _ => by rw [b_xor, kr_bt hx h, kr_bt hy h]; rfl
theorem kr_xor_and (x y : Int32) : (x ^^^ y) &&& 255 = (x &&& 255) ^^^ (y &&& 255) := by
  apply b_ext
  intro i _
  simp only [b_and, b_xor]
  cases bt x i <;> cases bt y i <;> cases bt 255 i <;> rfl
theorem kr_nI : ∀ k, k < 256 → nI k &&& 255 = nI k := by decide +kernel
theorem kr_small {x : Int32} (h1 : ¬ x < 0) (h2 : ¬ 255 < x) : kr x := by
  obtain ⟨j, hj, rfl⟩ := nI_of2 (M := 255) (n := 255) (by decide) h1 (Int32.not_lt.mp h2)
  exact kr_nI j (by omega)
theorem kr_zero : kr 0 := by unfold kr; decide
theorem kr_128 : kr 128 := by unfold kr; decide
theorem km_push (x b : Int32) (h : kr b) : x <<< ((8 : Int32) &&& 31) ||| b = x * 256 + b := by
  apply Int32.toBitVec_inj.mp
  rw [Int32.toBitVec_or, Int32.toBitVec_add, Int32.toBitVec_mul]
  have e1 : (x <<< ((8 : Int32) &&& 31)).toBitVec = x.toBitVec <<< 8 := by
    rw [Int32.toBitVec_shiftLeft]
    show x.toBitVec <<< (((8 : Int32) &&& 31).toBitVec.smod 32).toNat = _
    rw [show (((8 : Int32) &&& 31).toBitVec.smod 32).toNat = 8 by decide +kernel]
  have e2 : x.toBitVec * (256 : Int32).toBitVec = x.toBitVec <<< 8 := by
    rw [show (256 : Int32).toBitVec = BitVec.twoPow 32 8 by decide +kernel, BitVec.mul_twoPow_eq_shiftLeft]
  rw [e1, e2]
  symm
  apply BitVec.add_eq_or_of_and_eq_zero
  apply BitVec.eq_of_getLsbD_eq
  intro i hi
  rw [BitVec.getLsbD_and, BitVec.getLsbD_shiftLeft, BitVec.getLsbD_zero]
  rcases Nat.lt_or_ge i 8 with z | z
  · simp [z]
  · rw [show b.toBitVec.getLsbD i = false from kr_bt h z, Bool.and_false]
/-- byte i of a word, the highest first -/
def km_by (x : Int32) : Nat → Int32
  | 0 => xu x 24
  | 1 => xu x 16 &&& 255
  | 2 => xu x 8 &&& 255
  | _ => x &&& 255
theorem km_by_kr (x : Int32) (i : Nat) : kr (km_by x i) := by
  unfold km_by
  split
  · exact kr_of fun i h _ => by
      show bt (xu x (nI 24)) i = false
      rw [xu_bt 24 (by omega)]
      exact b_big (by omega)
  · exact kr_and _
  · exact kr_and _
  · exact kr_and _
theorem km_by_nar (x : Int32) (i : Nat) (hi : i < 4) : (x >>> (nI (24 - 8 * i) &&& 31)).toInt8.toInt32 &&& 255 = km_by x i := by
  rw [bp_b]
  apply b_ext
  intro j hj
  rw [b_and, b_255, b_sshr _ (by omega) x hj]
  have hc : i = 0 ∨ i = 1 ∨ i = 2 ∨ i = 3 := by omega
  rcases hc with rfl | rfl | rfl | rfl
  · show _ = bt (xu x (nI 24)) j
    rw [xu_bt 24 (by omega)]
    rcases Nat.lt_or_ge j 8 with z | z
    · rw [if_pos (by omega), decide_eq_true z, Bool.and_true]
    · rw [decide_eq_false (by omega), Bool.and_false, b_big (by omega)]
  · show _ = bt (xu x (nI 16) &&& 255) j
    rw [b_and, xu_bt 16 (by omega), b_255]
    rcases Nat.lt_or_ge j 8 with z | z
    · rw [if_pos (by omega)]
    · rw [decide_eq_false (by omega), Bool.and_false, Bool.and_false]
  · show _ = bt (xu x (nI 8) &&& 255) j
    rw [b_and, xu_bt 8 (by omega), b_255]
    rcases Nat.lt_or_ge j 8 with z | z
    · rw [if_pos (by omega)]
    · rw [decide_eq_false (by omega), Bool.and_false, Bool.and_false]
  · show _ = bt (x &&& 255) j
    rw [b_and, b_255]
    rcases Nat.lt_or_ge j 8 with z | z
    · rw [if_pos (by omega)]
      show (bt x (0 + j) && _) = _
      rw [Nat.zero_add]
    · rw [decide_eq_false (by omega), Bool.and_false, Bool.and_false]
end
section
/-! the sum, the mark and the key's turns, as functions -/
def kK : Nat → Int32 := fun i => ([1116352408, 1899447441, -1245643825, -373957723, 961987163, 1508970993, -1841331548, -1424204075, -670586216, 310598401, 607225278, 1426881987, 1925078388, -2132889090, -1680079193, -1046744716, -459576895, -272742522, 264347078, 604807628, 770255983, 1249150122, 1555081692, 1996064986, -1740746414, -1473132947, -1341970488, -1084653625, -958395405, -710438585, 113926993, 338241895, 666307205, 773529912, 1294757372, 1396182291, 1695183700, 1986661051, -2117940946, -1838011259, -1564481375, -1474664885, -1035236496, -949202525, -778901479, -694614492, -200395387, 275423344, 430227734, 506948616, 659060556, 883997877, 958139571, 1322822218, 1537002063, 1747873779, 1955562222, 2024104815, -2067236844, -1933114872, -1866530822, -1538233109, -1090935817, -965641998] : List Int32).getD i 0
def kH : Nat → Int32 := fun i => ([1779033703, -1150833019, 1013904242, -1521486534, 1359893119, -1694144372, 528734635, 1541459225] : List Int32).getD i 0
def km_z0 (x : Int32) : Int32 := xr x 7 ^^^ xr x 18 ^^^ xu x 3
def km_z1 (x : Int32) : Int32 := xr x 17 ^^^ xr x 19 ^^^ xu x 10
def km_y0 (x : Int32) : Int32 := xr x 2 ^^^ xr x 13 ^^^ xr x 22
def km_y1 (x : Int32) : Int32 := xr x 6 ^^^ xr x 11 ^^^ xr x 25
/-- the words of a block, k of the 48 further ones laid -/
def km_w (b : Nat → Int32) : Nat → Nat → Int32
  | 0 => b
  | k + 1 => upd (km_w b k) (16 + k) (km_z1 (km_w b k (14 + k)) + km_w b k (9 + k) + km_z0 (km_w b k (1 + k)) + km_w b k k)
def km_W (b : Nat → Int32) : Nat → Int32 := km_w b 48
theorem km_w_stay (b : Nat → Int32) (k d j : Nat) (h : j < 16 + k) : km_w b (k + d) j = km_w b k j := by
  induction d with
  | zero => rfl
  | succ d ih =>
    rw [← ih]
    show upd (km_w b (k + d)) (16 + (k + d)) _ j = _
    exact pk_un (by omega)
theorem km_W_at (b : Nat → Int32) {k j : Nat} (h : j < 16 + k) (hk : k ≤ 48) : km_W b j = km_w b k j := by
  have e := km_w_stay b k (48 - k) j h
  rw [Nat.add_sub_cancel' hk] at e
  exact e
theorem km_W_lo (b : Nat → Int32) {j : Nat} (h : j < 16) : km_W b j = b j := km_W_at (k := 0) b (by omega) (by omega)
theorem km_W_hi (b : Nat → Int32) {t : Nat} (h1 : 16 ≤ t) (h2 : t < 64) : km_W b t = km_z1 (km_W b (t - 2)) + km_W b (t - 7) + km_z0 (km_W b (t - 15)) + km_W b (t - 16) := by
  obtain ⟨k, rfl⟩ : ∃ k, t = 16 + k := ⟨t - 16, by omega⟩
  rw [show 16 + k - 2 = 14 + k by omega, show 16 + k - 7 = 9 + k by omega, show 16 + k - 15 = 1 + k by omega, show 16 + k - 16 = k by omega]
  rw [km_W_at (k := k + 1) (j := 16 + k) b (by omega) (by omega), km_W_at (k := k) (j := 14 + k) b (by omega) (by omega), km_W_at (k := k) (j := 9 + k) b (by omega) (by omega), km_W_at (k := k) (j := 1 + k) b (by omega) (by omega), km_W_at (k := k) (j := k) b (by omega) (by omega)]
  show upd _ (16 + k) _ (16 + k) = _
  exact pk_us
theorem km_W_congr {b b' : Nat → Int32} (h : ∀ j, j < 16 → b j = b' j) : ∀ t, t < 64 → km_W b t = km_W b' t := by
  intro t
  induction t using Nat.strongRecOn with
  | _ t ih =>
    intro ht
    rcases Nat.lt_or_ge t 16 with z | z
    · rw [km_W_lo b z, km_W_lo b' z, h t z]
    · rw [km_W_hi b z ht, km_W_hi b' z ht, ih (t - 2) (by omega) (by omega), ih (t - 7) (by omega) (by omega), ih (t - 15) (by omega) (by omega), ih (t - 16) (by omega) (by omega)]
/-- a round: the eight words a .. h are s 0 .. s 7 -/
def km_u (k w : Int32) (s : Nat → Int32) : Int32 := s 7 + km_y1 (s 4) + (s 4 &&& s 5 ^^^ (s 4 ^^^ (-1)) &&& s 6) + k + w
def km_v (s : Nat → Int32) : Int32 := km_y0 (s 0) + (s 0 &&& s 1 ^^^ s 0 &&& s 2 ^^^ s 1 &&& s 2)
def km_rd (k w : Int32) (s : Nat → Int32) : Nat → Int32
  | 0 => km_u k w s + km_v s
  | 1 => s 0
  | 2 => s 1
  | 3 => s 2
  | 4 => s 3 + km_u k w s
  | 5 => s 4
  | 6 => s 5
  | _ => s 6
def km_r (w s : Nat → Int32) : Nat → Nat → Int32
  | 0 => s
  | t + 1 => km_rd (kK t) (w t) (km_r w s t)
theorem km_r_congr {w w' : Nat → Int32} (s : Nat → Int32) : ∀ n, (∀ t, t < n → w t = w' t) → km_r w s n = km_r w' s n := by
  intro n
  induction n with
  | zero => intro _; rfl
  | succ n ih =>
    intro h
    show km_rd (kK n) (w n) (km_r w s n) = km_rd (kK n) (w' n) (km_r w' s n)
    rw [ih (fun t ht => h t (by omega)), h n (by omega)]
theorem km_rd_congr {s s' : Nat → Int32} (k w : Int32) (h : ∀ j, j < 8 → s j = s' j) : km_rd k w s = km_rd k w s' := by
  have h0 := h 0 (by omega)
  have h1 := h 1 (by omega)
  have h2 := h 2 (by omega)
  have h3 := h 3 (by omega)
  have h4 := h 4 (by omega)
  have h5 := h 5 (by omega)
  have h6 := h 6 (by omega)
  have h7 := h 7 (by omega)
  have eu : km_u k w s = km_u k w s' := by unfold km_u; rw [h4, h5, h6, h7]
  have ev : km_v s = km_v s' := by unfold km_v; rw [h0, h1, h2]
  funext j
  unfold km_rd
  split
  · rw [eu, ev]
  · exact h0
  · exact h1
  · exact h2
  · rw [eu, h3]
  · exact h4
  · exact h5
  · exact h6
theorem km_r_congr8 {s s' : Nat → Int32} (w : Nat → Int32) (h : ∀ j, j < 8 → s j = s' j) : ∀ n j, j < 8 → km_r w s n j = km_r w s' n j := by
  intro n
  induction n with
  | zero => exact h
  | succ n ih =>
    intro j hj
    show km_rd (kK n) (w n) (km_r w s n) j = km_rd (kK n) (w n) (km_r w s' n) j
    rw [km_rd_congr (kK n) (w n) ih]
/-- the eight words behind a block of sixteen words b -/
def km_c (b s : Nat → Int32) : Nat → Int32 := fun j => s j + km_r (km_W b) s 64 j
theorem km_c_congr {b b' : Nat → Int32} (s : Nat → Int32) (h : ∀ j, j < 16 → b j = b' j) : km_c b s = km_c b' s := by
  unfold km_c
  rw [km_r_congr s 64 (km_W_congr h)]
theorem km_c_congr8 {s s' : Nat → Int32} (b : Nat → Int32) (h : ∀ j, j < 8 → s j = s' j) : ∀ j, j < 8 → km_c b s j = km_c b s' j := by
  intro j hj
  show s j + _ = s' j + _
  rw [h j hj, km_r_congr8 (km_W b) h 64 j hj]
/-- i bytes from a on, as a number, the highest first -/
def km_p (m : Nat → Int32) (a : Nat) : Nat → Int32
  | 0 => 0
  | i + 1 => km_p m a i * 256 + m (a + i)
theorem km_p_congr {m m' : Nat → Int32} {a : Nat} : ∀ i, (∀ j, j < i → m (a + j) = m' (a + j)) → km_p m a i = km_p m' a i := by
  intro i
  induction i with
  | zero => intro _; rfl
  | succ i ih =>
    intro h
    show km_p m a i * 256 + m (a + i) = km_p m' a i * 256 + m' (a + i)
    rw [ih (fun j hj => h j (by omega)), h i (by omega)]
/-- the words of block q -/
def km_b (m : Nat → Int32) (q : Nat) : Nat → Int32 := fun j => km_p m (64 * q + 4 * j) 4
/-- the eight words behind q blocks of the bytes m -/
def km_h (m : Nat → Int32) : Nat → Nat → Int32
  | 0 => kH
  | q + 1 => km_c (km_b m q) (km_h m q)
theorem km_h_congr {m m' : Nat → Int32} : ∀ q, (∀ j, j < 64 * q → m j = m' j) → km_h m q = km_h m' q := by
  intro q
  induction q with
  | zero => intro _; rfl
  | succ q ih =>
    intro h
    show km_c (km_b m q) (km_h m q) = km_c (km_b m' q) (km_h m' q)
    rw [ih (fun j hj => h j (by omega))]
    exact km_c_congr _ (fun j hj => km_p_congr 4 (fun i hi => h _ (by omega)))
/-- how many blocks n bytes make -/
def km_q (n : Nat) : Nat := (n + 72) / 64
def km_len (n : Nat) : Nat → Int32 := fun i => if i < 6 then 0 else if i = 6 then nI (8 * n / 256) else nI (8 * n % 256)
/-- the row b of n bytes, and what comes behind it -/
def km_pad (b : Nat → Int32) (n : Nat) : Nat → Int32 := fun j => if j < n then b j else if j = n then 128 else if j + 8 < 64 * km_q n then 0 else km_len n (j + 8 - 64 * km_q n)
theorem km_pad_congr {b b' : Nat → Int32} {n : Nat} (h : ∀ j, j < n → b j = b' j) : km_pad b n = km_pad b' n := by
  funext j
  unfold km_pad
  rcases Nat.lt_or_ge j n with z | z
  · rw [if_pos z, if_pos z, h j z]
  · rw [if_neg (show ¬ j < n by omega), if_neg (show ¬ j < n by omega)]
theorem km_len_kr {n : Nat} (h : n < 8192) (i : Nat) : kr (km_len n i) := by
  unfold km_len
  split
  · exact kr_zero
  · split
    · exact kr_nI _ (by omega)
    · exact kr_nI _ (by omega)
theorem km_pad_kr {b : Nat → Int32} {n : Nat} (hn : n < 8192) (h : ∀ j, j < n → kr (b j)) (j : Nat) : kr (km_pad b n j) := by
  unfold km_pad
  split
  · exact h j (by omega)
  · split
    · exact kr_128
    · split
      · exact kr_zero
      · exact km_len_kr hn _
/-- the sum of the row b of n bytes -/
def km_s (b : Nat → Int32) (n : Nat) : Nat → Int32 := fun j => km_by (km_h (km_pad b n) (km_q n) (j / 4)) (j % 4)
theorem km_s_congr {b b' : Nat → Int32} {n : Nat} (h : ∀ j, j < n → b j = b' j) : km_s b n = km_s b' n := by
  unfold km_s
  rw [km_pad_congr h]
theorem km_s_kr (b : Nat → Int32) (n j : Nat) : kr (km_s b n j) := km_by_kr _ _
/-- the key's block -/
def km_kb (p : Nat → Int32) (np : Nat) : Nat → Int32 := fun j => if 64 < np then (if j < 32 then km_s p np j else 0) else if j < np then p j else 0
theorem km_kb_congr {p p' : Nat → Int32} {np : Nat} (h : ∀ j, j < np → p j = p' j) : km_kb p np = km_kb p' np := by
  funext j
  unfold km_kb
  rw [km_s_congr h]
  rcases Nat.lt_or_ge j np with z | z
  · rw [h j z]
  · rw [if_neg (by omega : ¬ j < np)]
    rw [if_neg (by omega : ¬ j < np)]
theorem km_kb_kr {p : Nat → Int32} {np : Nat} (h : ∀ j, j < np → kr (p j)) (j : Nat) : kr (km_kb p np j) := by
  unfold km_kb
  split
  · split
    · exact km_s_kr _ _ _
    · exact kr_zero
  · split
    · exact h j (by omega)
    · exact kr_zero
def km_kx (p : Nat → Int32) (np : Nat) (c : Int32) : Nat → Int32 := fun j => km_kb p np j ^^^ c
def km_cat (a : Nat → Int32) (k : Nat) (b : Nat → Int32) : Nat → Int32 := fun j => if j < k then a j else b (j - k)
theorem km_cat_congr {a b b' : Nat → Int32} {k n : Nat} (h : ∀ j, j < n → b j = b' j) : ∀ j, j < k + n → km_cat a k b j = km_cat a k b' j := by
  intro j hj
  unfold km_cat
  rcases Nat.lt_or_ge j k with z | z
  · rw [if_pos z, if_pos z]
  · rw [if_neg (by omega), if_neg (by omega), h (j - k) (by omega)]
theorem km_cat_lo {a b : Nat → Int32} {k j : Nat} (h : j < k) : km_cat a k b j = a j := if_pos h
theorem km_cat_hi {a b : Nat → Int32} {k : Nat} (j : Nat) : km_cat a k b (k + j) = b j := by
  unfold km_cat
  rw [if_neg (by omega), Nat.add_sub_cancel_left]
/-- the inner sum, and the mark, of the row x of nx bytes under the key p of np bytes -/
def km_in (p : Nat → Int32) (np : Nat) (x : Nat → Int32) (nx : Nat) : Nat → Int32 := km_s (km_cat (km_kx p np 54) 64 x) (64 + nx)
def km_mk (p : Nat → Int32) (np : Nat) (x : Nat → Int32) (nx : Nat) : Nat → Int32 := km_s (km_cat (km_kx p np 92) 64 (km_in p np x nx)) 96
theorem km_mk_congr {p p' x x' : Nat → Int32} {np nx : Nat} (hp : ∀ j, j < np → p j = p' j) (hx : ∀ j, j < nx → x j = x' j) : km_mk p np x nx = km_mk p' np x' nx := by
  unfold km_mk km_in km_kx
  rw [km_kb_congr hp, km_s_congr (km_cat_congr (k := 64) hx)]
theorem km_mk_kr (p : Nat → Int32) (np : Nat) (x : Nat → Int32) (nx j : Nat) : kr (km_mk p np x nx j) := km_s_kr _ _ _
/-- U of turn d + 1 of all turns (d counts from 0; c turns a part) -/
def km_U (p : Nat → Int32) (np : Nat) (s : Nat → Int32) (ns c : Nat) : Nat → Nat → Int32
  | 0 => fun _ => 0
  | d + 1 => if d % c = 0 then km_mk p np (km_cat s ns (km_by (nI (d / c + 1)))) (ns + 4) else km_mk p np (km_U p np s ns c d) 32
/-- the parts behind d turns -/
def km_K (p : Nat → Int32) (np : Nat) (s : Nat → Int32) (ns c : Nat) : Nat → Nat → Int32
  | 0 => fun _ => 0
  | d + 1 => fun j => if j / 32 = d / c then km_K p np s ns c d j ^^^ km_U p np s ns c (d + 1) (j % 32) else km_K p np s ns c d j
theorem km_U_kr (p : Nat → Int32) (np : Nat) (s : Nat → Int32) (ns c d j : Nat) : kr (km_U p np s ns c d j) := by
  cases d with
  | zero => exact kr_zero
  | succ d =>
    unfold km_U
    split
    · exact km_mk_kr _ _ _ _ _
    · exact km_mk_kr _ _ _ _ _
theorem km_K_kr (p : Nat → Int32) (np : Nat) (s : Nat → Int32) (ns c d j : Nat) : kr (km_K p np s ns c d j) := by
  induction d with
  | zero => exact kr_zero
  | succ d ih =>
    show kr (if j / 32 = d / c then km_K p np s ns c d j ^^^ km_U p np s ns c (d + 1) (j % 32) else km_K p np s ns c d j)
    split
    · exact kr_xor ih (km_U_kr _ _ _ _ _ _ _)
    · exact ih
/-! a sum under way: n bytes of the message m are taken -/
def km_2 : Nat → Int32
  | 0 => 1
  | i + 1 => km_2 i * 256
def km_ok (m : Nat → Int32) (n : Nat) (w : Nat → Int32) : Prop := ∀ j, j < 16 → 4 * j ≤ n % 64 → ∃ x : Int32, w j = x * km_2 (min 4 (n % 64 - 4 * j)) + km_p m (64 * (n / 64) + 4 * j) (min 4 (n % 64 - 4 * j))
theorem km_ok_start (m : Nat → Int32) {n : Nat} (w : Nat → Int32) (h : n % 64 = 0) : km_ok m n w := by
  intro j _ h2
  rw [h] at h2 ⊢
  refine ⟨w j, ?_⟩
  rw [show min 4 (0 - 4 * j) = 0 by omega]
  show w j = w j * 1 + 0
  rw [Int32.mul_one, Int32.add_zero]
/-- the word under way, with one byte more -/
theorem km_ok_push {m : Nat → Int32} {n : Nat} {w : Nat → Int32} (h : km_ok m n w) (hm : kr (m n)) : ∀ j, j < 16 → 4 * j ≤ n % 64 + 1 → ∃ x : Int32, upd w (n % 64 / 4) (w (n % 64 / 4) <<< ((8 : Int32) &&& 31) ||| m n) j = x * km_2 (min 4 (n % 64 + 1 - 4 * j)) + km_p m (64 * (n / 64) + 4 * j) (min 4 (n % 64 + 1 - 4 * j)) := by
  intro j hj h4
  by_cases hc : j = n % 64 / 4
  · subst hc
    rw [pk_us, km_push _ _ hm]
    obtain ⟨x, hx⟩ := h (n % 64 / 4) hj (by omega)
    refine ⟨x, ?_⟩
    have e1 : min 4 (n % 64 - 4 * (n % 64 / 4)) = n % 64 % 4 := by omega
    have e2 : min 4 (n % 64 + 1 - 4 * (n % 64 / 4)) = n % 64 % 4 + 1 := by omega
    rw [e1] at hx
    rw [e2, hx]
    show _ = x * (km_2 (n % 64 % 4) * 256) + (km_p m (64 * (n / 64) + 4 * (n % 64 / 4)) (n % 64 % 4) * 256 + m (64 * (n / 64) + 4 * (n % 64 / 4) + n % 64 % 4))
    rw [show 64 * (n / 64) + 4 * (n % 64 / 4) + n % 64 % 4 = n by omega]
    generalize km_p m _ _ = a
    generalize km_2 _ = b
    rw [Int32.add_mul, Int32.mul_assoc, Int32.add_assoc]
  · rw [pk_un hc]
    rcases Nat.lt_or_ge (n % 64) (4 * j) with z | z
    · refine ⟨w j, ?_⟩
      rw [show min 4 (n % 64 + 1 - 4 * j) = 0 by omega]
      show w j = w j * 1 + 0
      rw [Int32.mul_one, Int32.add_zero]
    · obtain ⟨x, hx⟩ := h j hj z
      refine ⟨x, ?_⟩
      rw [show min 4 (n % 64 + 1 - 4 * j) = 4 by omega]
      rw [show min 4 (n % 64 - 4 * j) = 4 by omega] at hx
      exact hx
theorem km_ok_next {m : Nat → Int32} {n : Nat} {w : Nat → Int32} (h : km_ok m n w) (hm : kr (m n)) (hn : n % 64 < 63) : km_ok m (n + 1) (upd w (n % 64 / 4) (w (n % 64 / 4) <<< ((8 : Int32) &&& 31) ||| m n)) := by
  intro j hj h4
  have e1 : (n + 1) % 64 = n % 64 + 1 := by omega
  have e2 : (n + 1) / 64 = n / 64 := by omega
  rw [e1] at h4
  rw [e1, e2]
  exact km_ok_push h hm j hj h4
theorem km_ok_full {m : Nat → Int32} {n : Nat} {w : Nat → Int32} (h : km_ok m n w) (hm : kr (m n)) (hn : n % 64 = 63) : ∀ j, j < 16 → upd w (n % 64 / 4) (w (n % 64 / 4) <<< ((8 : Int32) &&& 31) ||| m n) j = km_b m (n / 64) j := by
  intro j hj
  obtain ⟨x, hx⟩ := km_ok_push h hm j hj (by omega)
  rw [show min 4 (n % 64 + 1 - 4 * j) = 4 by omega, show km_2 4 = 0 by decide, Int32.mul_zero, Int32.zero_add] at hx
  exact hx
/-- a block is full: the eight words behind it -/
theorem km_ok_block {m : Nat → Int32} {n : Nat} {w : Nat → Int32} (h : km_ok m n w) (hm : kr (m n)) (hn : n % 64 = 63) : (fun j => km_h m (n / 64) j + km_r (km_W (upd w (n % 64 / 4) (w (n % 64 / 4) <<< ((8 : Int32) &&& 31) ||| m n))) (km_h m (n / 64)) 64 j) = km_h m ((n + 1) / 64) := by
  have e : (n + 1) / 64 = n / 64 + 1 := by omega
  rw [e]
  exact km_c_congr _ (km_ok_full h hm hn)
end
section
/-! what the walks want of the functions -/
/-- a word's four bytes from a on -/
def km_put (f : Nat → Int32) (a : Nat) (x : Int32) : Nat → Int32 := fun j => if a ≤ j ∧ j < a + 4 then km_by x (j - a) else f j
theorem km_put_in {f : Nat → Int32} {a : Nat} {x : Int32} {i : Nat} (h : i < 4) : km_put f a x (a + i) = km_by x i := by
  unfold km_put
  rw [if_pos (by omega), Nat.add_sub_cancel_left]
theorem km_put_out {f : Nat → Int32} {a : Nat} {x : Int32} {j : Nat} (h : j < a ∨ a + 4 ≤ j) : km_put f a x j = f j := by
  unfold km_put
  rw [if_neg (by omega)]
theorem km_put_eq (f : Nat → Int32) (a : Nat) (x : Int32) (j : Nat) : upd (upd (upd (upd f a (xu x 24)) (a + 1) (xu x 16 &&& 255)) (a + 2) (xu x 8 &&& 255)) (a + 3) (x &&& 255) j = km_put f a x j := by
  by_cases h3 : j = a + 3
  · subst h3; rw [pk_us, km_put_in (by omega)]; rfl
  · rw [pk_un h3]
    by_cases h2 : j = a + 2
    · subst h2; rw [pk_us, km_put_in (by omega)]; rfl
    · rw [pk_un h2]
      by_cases h1 : j = a + 1
      · subst h1; rw [pk_us, km_put_in (by omega)]; rfl
      · rw [pk_un h1]
        by_cases h0 : j = a
        · subst h0; rw [pk_us]; exact (km_put_in (i := 0) (by omega)).symm
        · rw [pk_un h0, km_put_out (by omega)]
/-- n words laid into g, four bytes each -/
def km_fin (st g : Nat → Int32) (n : Nat) : Nat → Int32 := fun j => if j < 4 * n then km_by (st (j / 4)) (j % 4) else g j
theorem km_fin_0 (st g : Nat → Int32) (j : Nat) : g j = km_fin st g 0 j := by
  unfold km_fin
  rw [if_neg (by omega)]
theorem km_fin_next (st g : Nat → Int32) (n j : Nat) : km_put (km_fin st g n) (n * 4) (st n) j = km_fin st g (n + 1) j := by
  unfold km_put km_fin
  by_cases h : n * 4 ≤ j ∧ j < n * 4 + 4
  · rw [if_pos h, if_pos (by omega), show j / 4 = n by omega, show j % 4 = j - n * 4 by omega]
  · rw [if_neg h]
    by_cases h2 : j < 4 * n
    · rw [if_pos h2, if_pos (by omega)]
    · rw [if_neg h2, if_neg (by omega)]
/-- a row with the sum of b in its first 32 places -/
def km_sum (b : Nat → Int32) (n : Nat) (g : Nat → Int32) : Nat → Int32 := km_fin (km_h (km_pad b n) (km_q n)) g 8
theorem km_sum_lo (b : Nat → Int32) (n : Nat) (g : Nat → Int32) {j : Nat} (h : j < 32) : km_sum b n g j = km_s b n j := if_pos (by omega)
theorem km_sum_hi (b : Nat → Int32) (n : Nat) (g : Nat → Int32) {j : Nat} (h : 32 ≤ j) : km_sum b n g j = g j := if_neg (by omega)
theorem km_q_lt (n : Nat) : n + 9 ≤ 64 * km_q n := by unfold km_q; omega
theorem km_q_le (n : Nat) : 64 * km_q n ≤ n + 72 := by unfold km_q; omega
theorem km_pad_in (b : Nat → Int32) {n j : Nat} (h : j < n) : km_pad b n j = b j := if_pos h
theorem km_pad_at (b : Nat → Int32) (n : Nat) : km_pad b n n = 128 := by
  unfold km_pad
  rw [if_neg (by omega), if_pos rfl]
theorem km_pad_z (b : Nat → Int32) {n j : Nat} (h1 : n < j) (h2 : j + 8 < 64 * km_q n) : km_pad b n j = 0 := by
  unfold km_pad
  rw [if_neg (by omega), if_neg (by omega), if_pos h2]
theorem km_pad_l (b : Nat → Int32) (n : Nat) {j i : Nat} (h : j + 8 = 64 * km_q n + i) : km_pad b n j = km_len n i := by
  have := km_q_lt n
  unfold km_pad
  rw [if_neg (by omega), if_neg (by omega), if_neg (by omega), show j + 8 - 64 * km_q n = i by omega]
theorem km_zeros : ∀ n, n < 256 → ((55 : Int32) - nI n) &&& 63 = nI (64 * km_q n - 9 - n) := by decide +kernel
theorem km_bits : ∀ n, n < 256 → ∀ i, i < 8 → ((((8 : Int64) * (nI n).toInt64).toUInt64 >>> ((nI (56 - 8 * i)).toInt64.toUInt64 &&& Int64.toUInt64 63)).toInt64.toInt32 &&& 255) = km_len n i := by decide +kernel
/-- states behind one block of a message that begins with a -/
theorem km_h_cat (a b : Nat → Int32) (n : Nat) : km_h (km_pad (km_cat a 64 b) (64 + n)) 1 = km_h a 1 := by
  apply km_h_congr
  intro j hj
  rw [km_pad_in _ (by omega), km_cat_lo (by omega)]
theorem km_cat_kr {a b : Nat → Int32} {k n : Nat} (ha : ∀ j, j < k → kr (a j)) (hb : ∀ j, j < n → kr (b j)) : ∀ j, j < k + n → kr (km_cat a k b j) := by
  intro j hj
  unfold km_cat
  split
  · exact ha j (by omega)
  · exact hb _ (by omega)
theorem km_kx_kr {p : Nat → Int32} {np : Nat} (h : ∀ j, j < np → kr (p j)) {c : Int32} (hc : kr c) (j : Nat) : kr (km_kx p np c j) := kr_xor (km_kb_kr h j) hc
theorem kr_54 : kr 54 := by unfold kr; decide
theorem kr_92 : kr 92 := by unfold kr; decide
end
section
/-! the fixed words, by their roots -/
def km_am (r : Int64) (p cube : Int32) : Bool :=
  let x := r >>> ((18 : Int32).toInt64 &&& 63)
  let y := r &&& 262143
  let u0 := y * y
  let t0 := 2 * x * y + u0 >>> ((18 : Int32).toInt64 &&& 63)
  let u := u0 &&& 262143
  let s := x * x + t0 >>> ((18 : Int32).toInt64 &&& 63)
  let t := t0 &&& 262143
  if cube = 0 then
    decide (s < p.toInt64 <<< ((28 : Int32).toInt64 &&& 63)) || (decide (s = p.toInt64 <<< ((28 : Int32).toInt64 &&& 63)) && decide (t + u = 0))
  else
    let d0 := u * y
    let d1 := u * x + t * y + d0 >>> ((18 : Int32).toInt64 &&& 63)
    let d2 := t * x + s * y + d1 >>> ((18 : Int32).toInt64 &&& 63)
    let d3 := s * x + d2 >>> ((18 : Int32).toInt64 &&& 63)
    let low := (d0 &&& 262143) + (d1 &&& 262143) + (d2 &&& 262143)
    decide (d3 < p.toInt64 <<< ((42 : Int32).toInt64 &&& 63)) || (decide (d3 = p.toInt64 <<< ((42 : Int32).toInt64 &&& 63)) && decide (low = 0))
/-- k halvings -/
def km_ro (p cube : Int32) : Nat → Nat
  | 0 => 0
  | k + 1 => if km_am (lN (km_ro p cube k + 2 ^ (35 - k))) p cube = true then km_ro p cube k + 2 ^ (35 - k) else km_ro p cube k
/-- no divisor below k -/
def km_nd (p : Nat) : Nat → Bool
  | 0 => true
  | k + 1 => km_nd p k && (decide (k < 2) || decide (p % k ≠ 0))
/-- primes below p -/
def km_np : Nat → Nat
  | 0 => 0
  | p + 1 => km_np p + (if 2 ≤ p ∧ km_nd p p = true then 1 else 0)
end
section
/-! an object's state, and what each call answers and does to it -/
/-- password and its size, salt and its size, turns of each part, bytes wanted (0: no key started), turns done -/
abbrev kA : Type := (Nat → Int32) × Nat × (Nat → Int32) × Nat × Nat × Nat × Nat
/-- turns of all parts -/
def kt_all (c w : Nat) : Nat := (w + 31) / 32 * c
def kA_ok (a : kA) : Prop := match a with
  | (p, np, s, ns, c, w, d) => np ≤ 150 ∧ ns ≤ 80 ∧ (∀ j, j < np → kr (p j)) ∧ (∀ j, j < ns → kr (s j)) ∧ w ≤ 100 ∧ c ≤ 1000 ∧ (w = 0 → c = 0 ∧ d = 0) ∧ (0 < w → 0 < c) ∧ d ≤ kt_all c w
def ka_password (b : Int32) (a : kA) : Int32 × kA := match a with
  | (p, np, s, ns, c, w, d) => if ¬ b < 0 ∧ ¬ 255 < b ∧ w = 0 ∧ np < 150 then (1, (upd p np b, np + 1, s, ns, c, w, d)) else (0, (p, np, s, ns, c, w, d))
def ka_four (x : Int32) (a : kA) : Int32 × kA := match a with
  | (p, np, s, ns, c, w, d) => if w = 0 ∧ np + 4 ≤ 150 then (1, (km_put p np x, np + 4, s, ns, c, w, d)) else (0, (p, np, s, ns, c, w, d))
def ka_salt (b : Int32) (a : kA) : Int32 × kA := match a with
  | (p, np, s, ns, c, w, d) => if ¬ b < 0 ∧ ¬ 255 < b ∧ w = 0 ∧ ns < 80 then (1, (p, np, upd s ns b, ns + 1, c, w, d)) else (0, (p, np, s, ns, c, w, d))
def ka_start (t b : Int32) (a : kA) : Int32 × kA := match a with
  | (p, np, s, ns, c, w, d) => if w = 0 ∧ ¬ t < 1 ∧ ¬ 1000 < t ∧ ¬ b < 1 ∧ ¬ 100 < b then (nI (kt_all t.toNatClampNeg b.toNatClampNeg), (p, np, s, ns, t.toNatClampNeg, b.toNatClampNeg, 0)) else (-1, (p, np, s, ns, c, w, d))
def ka_step (a : kA) : Int32 × kA := match a with
  | (p, np, s, ns, c, w, d) => if d < kt_all c w then (nI (kt_all c w - (d + 1)), (p, np, s, ns, c, w, d + 1)) else (-1, (p, np, s, ns, c, w, d))
def ka_run (most : Int32) (a : kA) : Int32 × kA := match a with
  | (p, np, s, ns, c, w, d) => if 0 < w ∧ ¬ most < 0 then (nI (min most.toNatClampNeg (kt_all c w - d)), (p, np, s, ns, c, w, d + min most.toNatClampNeg (kt_all c w - d))) else (-1, (p, np, s, ns, c, w, d))
def ka_left (a : kA) : Int32 × kA := match a with
  | (p, np, s, ns, c, w, d) => (if 0 < w then nI (kt_all c w - d) else -1, (p, np, s, ns, c, w, d))
def ka_key (i : Int32) (a : kA) : Int32 × kA := match a with
  | (p, np, s, ns, c, w, d) => (if ¬ i < 0 ∧ i.toNatClampNeg < w ∧ (i.toNatClampNeg / 32 + 1) * c ≤ d then km_K p np s ns c d i.toNatClampNeg else -1, (p, np, s, ns, c, w, d))
def ka_reset (a : kA) : kA := match a with
  | (p, _, s, _, _, _, _) => (p, 0, s, 0, 0, 0, 0)
def ka_many (what : Int32) (a : kA) : Int32 × kA := match a with
  | (p, np, s, ns, c, w, d) => (if what = 0 then nI np else if what = 1 then nI ns else if what = 2 then nI w else -1, (p, np, s, ns, c, w, d))
def ka_sum (i : Int32) (a : kA) : Int32 × kA := match a with
  | (p, np, s, ns, c, w, d) => (if ¬ i < 0 ∧ i.toNatClampNeg < 32 then km_s p np i.toNatClampNeg else -1, (p, np, s, ns, c, w, d))
def ka_mark (i : Int32) (a : kA) : Int32 × kA := match a with
  | (p, np, s, ns, c, w, d) => (if ¬ i < 0 ∧ i.toNatClampNeg < 32 then km_mk p np s ns i.toNatClampNeg else -1, (p, np, s, ns, c, w, d))
def ka_word (which i : Int32) : Int32 := if which = 0 ∧ ¬ i < 0 ∧ i.toNatClampNeg < 64 then kK i.toNatClampNeg else if which = 1 ∧ ¬ i < 0 ∧ i.toNatClampNeg < 8 then kH i.toNatClampNeg else 0
theorem kt_all_0 (c : Nat) : kt_all c 0 = 0 := by unfold kt_all; simp
theorem kt_all_le {c w : Nat} (hc : c ≤ 1000) (hw : w ≤ 100) : kt_all c w ≤ 4000 := by
  unfold kt_all
  exact Nat.le_trans (Nat.mul_le_mul (show (w + 31) / 32 ≤ 4 by omega) hc) (by omega)
theorem kA_password {b : Int32} {a : kA} (h : kA_ok a) : kA_ok (ka_password b a).2 := by
  obtain ⟨p, np, s, ns, c, w, d⟩ := a
  obtain ⟨h1, h2, h3, h4, h5⟩ := h
  unfold ka_password
  dsimp only
  split
  · rename_i hc
    refine ⟨by omega, h2, fun j hj => ?_, h4, h5⟩
    by_cases e : j = np
    · subst e; rw [pk_us]; exact kr_small hc.1 hc.2.1
    · rw [pk_un e]; exact h3 j (by omega)
  · exact ⟨h1, h2, h3, h4, h5⟩
theorem kA_four {x : Int32} {a : kA} (h : kA_ok a) : kA_ok (ka_four x a).2 := by
  obtain ⟨p, np, s, ns, c, w, d⟩ := a
  obtain ⟨h1, h2, h3, h4, h5⟩ := h
  unfold ka_four
  dsimp only
  split
  · rename_i hc
    refine ⟨by omega, h2, fun j hj => ?_, h4, h5⟩
    unfold km_put
    split
    · exact km_by_kr _ _
    · exact h3 j (by omega)
  · exact ⟨h1, h2, h3, h4, h5⟩
theorem kA_salt {b : Int32} {a : kA} (h : kA_ok a) : kA_ok (ka_salt b a).2 := by
  obtain ⟨p, np, s, ns, c, w, d⟩ := a
  obtain ⟨h1, h2, h3, h4, h5⟩ := h
  unfold ka_salt
  dsimp only
  split
  · rename_i hc
    refine ⟨h1, by omega, h3, fun j hj => ?_, h5⟩
    by_cases e : j = ns
    · subst e; rw [pk_us]; exact kr_small hc.1 hc.2.1
    · rw [pk_un e]; exact h4 j (by omega)
  · exact ⟨h1, h2, h3, h4, h5⟩
theorem kA_start {t b : Int32} {a : kA} (h : kA_ok a) : kA_ok (ka_start t b a).2 := by
  obtain ⟨p, np, s, ns, c, w, d⟩ := a
  obtain ⟨h1, h2, h3, h4, h5⟩ := h
  unfold ka_start
  dsimp only
  split
  · rename_i hc
    obtain ⟨-, c1, c2, c3, c4⟩ := hc
    have lo : ∀ z : Int32, ¬ z < 1 → ¬ z < 0 := by
      intro z hz h0
      rw [Int32.lt_iff_toInt_lt] at hz h0
      have e1 : (1 : Int32).toInt = 1 := by decide
      have e0 : (0 : Int32).toInt = 0 := by decide
      omega
    obtain ⟨t', ht, rfl⟩ := nI_of2 (M := 1000) (n := 1000) (by decide) (lo t c1) (Int32.not_lt.mp c2)
    obtain ⟨b', hb, rfl⟩ := nI_of2 (M := 100) (n := 100) (by decide) (lo b c3) (Int32.not_lt.mp c4)
    rw [nI_clamp (by omega), nI_clamp (by omega)]
    have p1 : ¬ t' < 1 := fun z => c1 ((nI_ltI (b := 1) (by omega) (by omega)).mpr z)
    have p2 : ¬ b' < 1 := fun z => c3 ((nI_ltI (b := 1) (by omega) (by omega)).mpr z)
    exact ⟨h1, h2, h3, h4, hb, ht, fun z => by omega, fun _ => by omega, Nat.zero_le _⟩
  · exact ⟨h1, h2, h3, h4, h5⟩
theorem kA_step {a : kA} (h : kA_ok a) : kA_ok (ka_step a).2 := by
  obtain ⟨p, np, s, ns, c, w, d⟩ := a
  obtain ⟨h1, h2, h3, h4, h5, h6, h7, h8, h9⟩ := h
  unfold ka_step
  dsimp only
  split
  · rename_i hc
    refine ⟨h1, h2, h3, h4, h5, h6, fun z => ?_, h8, hc⟩
    subst z
    rw [kt_all_0] at hc
    omega
  · exact ⟨h1, h2, h3, h4, h5, h6, h7, h8, h9⟩
theorem kA_run {most : Int32} {a : kA} (h : kA_ok a) : kA_ok (ka_run most a).2 := by
  obtain ⟨p, np, s, ns, c, w, d⟩ := a
  obtain ⟨h1, h2, h3, h4, h5, h6, h7, h8, h9⟩ := h
  unfold ka_run
  dsimp only
  split
  · rename_i hc
    exact ⟨h1, h2, h3, h4, h5, h6, fun z => by omega, h8, by omega⟩
  · exact ⟨h1, h2, h3, h4, h5, h6, h7, h8, h9⟩
theorem kA_reset {a : kA} (h : kA_ok a) : kA_ok (ka_reset a) := by
  obtain ⟨p, np, s, ns, c, w, d⟩ := a
  exact ⟨Nat.zero_le _, Nat.zero_le _, fun j hj => by omega, fun j hj => by omega, Nat.zero_le _, Nat.zero_le _, fun _ => ⟨rfl, rfl⟩, fun z => by omega, Nat.zero_le _⟩
theorem kA_new : kA_ok (fun _ => 0, 0, fun _ => 0, 0, 0, 0, 0) :=
  ⟨Nat.zero_le _, Nat.zero_le _, fun j hj => by omega, fun j hj => by omega, Nat.zero_le _, Nat.zero_le _, fun _ => ⟨rfl, rfl⟩, fun z => by omega, Nat.zero_le _⟩
/-- what the class's rows hold: F 0 password, F 1 salt, F 2 key, F 3 last mark, F 12 and F 13 the states behind the key's block -/
def kC (a : kA) (F : Nat → Nat → Int32) : Prop := match a with
  | (p, np, s, ns, c, w, d) => (∀ j, j < np → F 0 j = p j) ∧ (∀ j, j < ns → F 1 j = s j) ∧
    (0 < w → (∀ j, j < 128 → F 2 j = km_K p np s ns c d j) ∧ (0 < d → ∀ j, j < 32 → F 3 j = km_U p np s ns c d j) ∧ (∀ j, j < 8 → F 12 j = km_h (km_kx p np 54) 1 j) ∧ (∀ j, j < 8 → F 13 j = km_h (km_kx p np 92) 1 j))
/-- what the reference's rows hold: secret, grain, last, parts -/
def kM (a : kA) (fs fg fl fp : Nat → Int32) : Prop := match a with
  | (p, np, s, ns, c, w, d) => (∀ j, j < np → fs j &&& 255 = p j) ∧ (∀ j, j < ns → fg j &&& 255 = s j) ∧
    (0 < w → (∀ j, j < 128 → fp j &&& 255 = km_K p np s ns c d j) ∧ (0 < d → ∀ j, j < 32 → fl j &&& 255 = km_U p np s ns c d j))
end
section
/-! turns counted by parts; the reference's bytes -/
theorem kt_next {c d : Nat} (hc : 0 < c) (h : d % c + 1 = c) : (d + 1) / c = d / c + 1 ∧ (d + 1) % c = 0 := by
  have e := Nat.div_add_mod d c
  generalize d / c = q at e ⊢
  generalize d % c = r at e h
  have e2 : d + 1 = c * (q + 1) := by rw [Nat.mul_add, Nat.mul_one]; omega
  rw [e2]
  exact ⟨Nat.mul_div_cancel_left _ hc, Nat.mul_mod_right _ _⟩
theorem kt_same {c d : Nat} (hc : 0 < c) (h : d % c + 1 < c) : (d + 1) / c = d / c ∧ (d + 1) % c = d % c + 1 := by
  have e := Nat.div_add_mod d c
  generalize d / c = q at e ⊢
  generalize d % c = r at e h ⊢
  have e2 : d + 1 = (r + 1) + c * q := by omega
  rw [e2]
  exact ⟨by rw [Nat.add_mul_div_left _ _ hc, Nat.div_eq_of_lt h, Nat.zero_add], by rw [Nat.add_mul_mod_self_left, Nat.mod_eq_of_lt h]⟩
theorem kt_div {c w d : Nat} (h0 : c = 0 → d = 0) (h : d ≤ kt_all c w) : d / c ≤ (w + 32 - 1) / 32 := by
  unfold kt_all at h
  rcases Nat.eq_zero_or_pos c with z | z
  · rw [h0 z]; simp
  · exact Nat.div_le_of_le_mul (by rw [Nat.mul_comm]; exact h)
theorem kt_mod {c w d : Nat} (h0 : c = 0 → d = 0) (h : d ≤ kt_all c w) : d % c ≤ ((w + 32 - 1) / 32 - d / c) * c := by
  unfold kt_all at h
  have e := Nat.div_add_mod d c
  rw [show w + 32 - 1 = w + 31 by omega, Nat.sub_mul, Nat.mul_comm (d / c) c]
  omega
theorem kt_left {c w d : Nat} : ((w + 32 - 1) / 32 - d / c) * c - d % c = kt_all c w - d := by
  unfold kt_all
  have e := Nat.div_add_mod d c
  rw [show w + 32 - 1 = w + 31 by omega, Nat.sub_mul, Nat.mul_comm (d / c) c]
  omega
theorem kt_part {c w d : Nat} (h : d < kt_all c w) : d / c < (w + 31) / 32 := by
  unfold kt_all at h
  exact Nat.div_lt_of_lt_mul (by rw [Nat.mul_comm]; exact h)
theorem km_salt_eq {f s : Nat → Int32} {ns : Nat} (x : Int32) (h : ∀ j, j < ns → f j = s j) : ∀ j, j < ns + 4 → km_put f ns x j = km_cat s ns (km_by x) j := by
  intro j hj
  unfold km_cat
  rcases Nat.lt_or_ge j ns with z | z
  · rw [if_pos z, km_put_out (by omega), h j z]
  · rw [if_neg (by omega)]
    unfold km_put
    rw [if_pos (by omega)]
theorem bp_b2 (x : Int32) : x.toInt8.toInt32.toInt8.toInt32 &&& 255 = x &&& 255 := by rw [bp_b, bp_b]
theorem km_lenm : ∀ n, n < 256 → ∀ k, k < 4 → (nI (8 * n) >>> (nI (8 * k) &&& 31)) &&& 255 = km_len n (7 - k) := by decide +kernel
theorem km_shift {s f : Nat → Int32} (k w : Int32) (h0 : f 0 = s 0) (h : ∀ j, 1 ≤ j → j < 8 → f j = s (j - 1)) : ∀ j, j < 8 → upd (upd f 4 (f 4 + km_u k w s)) 0 (km_u k w s + km_v s) j = km_rd k w s j := by
  intro j hj
  have hc : j = 0 ∨ j = 1 ∨ j = 2 ∨ j = 3 ∨ j = 4 ∨ j = 5 ∨ j = 6 ∨ j = 7 := by omega
  rcases hc with rfl | rfl | rfl | rfl | rfl | rfl | rfl | rfl
  · rw [pk_us]; rfl
  · rw [pk_un (by omega), pk_un (by omega), h 1 (by omega) (by omega)]; rfl
  · rw [pk_un (by omega), pk_un (by omega), h 2 (by omega) (by omega)]; rfl
  · rw [pk_un (by omega), pk_un (by omega), h 3 (by omega) (by omega)]; rfl
  · rw [pk_un (by omega), pk_us, h 4 (by omega) (by omega)]; rfl
  · rw [pk_un (by omega), pk_un (by omega), h 5 (by omega) (by omega)]; rfl
  · rw [pk_un (by omega), pk_un (by omega), h 6 (by omega) (by omega)]; rfl
  · rw [pk_un (by omega), pk_un (by omega), h 7 (by omega) (by omega)]; rfl
theorem km_add8 (f g : Nat → Int32) : ∀ j, j < 8 → upd (upd (upd (upd (upd (upd (upd (upd f 0 (f 0 + g 0)) 1 (f 1 + g 1)) 2 (f 2 + g 2)) 3 (f 3 + g 3)) 4 (f 4 + g 4)) 5 (f 5 + g 5)) 6 (f 6 + g 6)) 7 (f 7 + g 7) j = f j + g j := by
  intro j hj
  have hc : j = 0 ∨ j = 1 ∨ j = 2 ∨ j = 3 ∨ j = 4 ∨ j = 5 ∨ j = 6 ∨ j = 7 := by omega
  rcases hc with rfl | rfl | rfl | rfl | rfl | rfl | rfl | rfl <;> rfl
end
section
/-! one form for all contracts of this proof, and rows for it -/
/-- the array classes that worlds hold -/
abbrev xt (cI cB : ClassId) : List (ClassId × FieldType) := [(cI, .int), (cB, .byte)]
/-- links to private members of nest mates: no word that a callee may be handed by its list, so they stand in the start -/
def xN : List Cond := [.methodLinkNest R_KeyMaker 27 y_Summer_init "KeyMaker", .methodLinkNest R_KeyMaker 34 y_Marker_init "KeyMaker", .methodLinkNest R_Marker 11 y_Summer_init "KeyMaker", .fieldLinkNest R_Summer 29 "KeyMaker" "H" "[I" "KeyMaker", .fieldLinkNest R_Summer 68 "KeyMaker" "K" "[I" "KeyMaker", .methodLinkNest R_Summer 48 y_KeyMaker_putWord "KeyMaker"]
def xn_is : Cond → Bool
  | .fieldLinkNest .. => true
  | .methodLinkNest .. => true
  | _ => false
theorem xn_all : ∀ w ∈ xN, xn_is w = true := by decide +kernel
theorem xn_on {w : Cond} (hi : xn_is w = true) : w.onTables = true := by
  cases w <;> first | rfl | exact absurd hi Bool.false_ne_true
theorem xn_warm {w : Cond} (hi : xn_is w = true) {u U : State} (hW : u.WarmedH U.vm) (h : va_Nw w u) : va_Nw w U := by
  cases w <;> first | exact va_Nw.warmF hW h | exact va_Nw.warmM hW h | exact absurd hi Bool.false_ne_true
/-- the class's two fixed tables: where they lie, what they hold; and the nest's links -/
def xZ (tK tH : Nat) (A : Nat → Prop) (U : State) (H : Heap) : Prop :=
  va_Z "KeyMaker" "K" "[I" (.ref tK) A U H ∧ va_Z "KeyMaker" "H" "[I" (.ref tH) A U H ∧ va_T .int tK 64 (fun j => .int (kK j)) A U H ∧ va_T .int tH 8 (fun j => .int (kH j)) A U H ∧ ∀ w ∈ xN, va_Nw w U
theorem xZ.warm {tK tH : Nat} {A : Nat → Prop} {u U : State} {H : Heap} (hW : u.WarmedH U.vm) (h : xZ tK tH A u H) : xZ tK tH A U H := ⟨h.1.moved hW.alike, h.2.1.moved hW.alike, h.2.2.1.moved hW.alike, h.2.2.2.1.moved hW.alike, fun w hw => xn_warm (xn_all w hw) hW (h.2.2.2.2 w hw)⟩
theorem xZ.same {tK tH : Nat} {A : Nat → Prop} {u U : State} {H : Heap} (e : u.vm = U.vm) (h : xZ tK tH A u H) : xZ tK tH A U H :=
  have hvm : u.vm.Alike U.vm := e ▸ Vm.Alike.refl u.vm
  ⟨h.1.moved hvm, h.2.1.moved hvm, h.2.2.1.moved hvm, h.2.2.2.1.moved hvm, fun w hw => va_Nw.same (xn_on (xn_all w hw)) e (h.2.2.2.2 w hw)⟩
theorem xZ.kept {tK tH : Nat} {A : Nat → Prop} {U : State} {H H1 : Heap} (h : xZ tK tH A U H) (hq : ∀ a : Nat, a < H.size → ¬ A a → H1[a]? = H[a]?) : xZ tK tH A U H1 := ⟨h.1.kept hq, h.2.1.kept hq, h.2.2.1.kept hq, h.2.2.2.1.kept hq, h.2.2.2.2⟩
theorem xZ.narrow {tK tH : Nat} {A B : Nat → Prop} {U : State} {H : Heap} (h : xZ tK tH A U H) (hAB : ∀ q, B q → A q) : xZ tK tH B U H := ⟨h.1.narrow hAB, h.2.1.narrow hAB, h.2.2.1.narrow hAB, h.2.2.2.1.narrow hAB, h.2.2.2.2⟩
/-- a nest link's word -/
theorem xZ.nest {tK tH : Nat} {A : Nat → Prop} {U : State} {H : Heap} (h : xZ tK tH A U H) {w : Cond} (k : Nat) (hk : xN[k]? = some w) : va_Nw w U := h.2.2.2.2 w (List.mem_of_getElem? hk)
/-- the words that a callee wants are among those that all methods are proved under -/
theorem xg_c {y : MethodName} {b : ByteArray} {n : Nat} {r : Option FieldType} (h : Cond.code y b n r ∈ xG) : GoodIn xG (.code y b n r :: xG) := by
  have hg : ∀ w ∈ xG, w ∈ xG ∧ ((w.onTables && w.keeps) = true ∨ ∃ ty, w = .arrayClass ty) := fun w hw => ⟨hw, good_of_word (List.mem_filter.mp hw).2⟩
  intro w hw
  rcases List.mem_cons.mp hw with e | hw
  · rw [e]; exact hg _ h
  · exact hg w hw
theorem xg_V {own C : String} {idx : Nat} {y : MethodName} {b : ByteArray} {n : Nat} {r : Option FieldType} (h1 : Cond.methodLink own idx y ∈ xG) (h2 : Cond.instanceMethod y ∈ xG) (h3 : Cond.selects C y y ∈ xG) (h4 : Cond.initialized C ∈ xG) (h : Cond.code y b n r ∈ xG) : GoodIn xG (wsV own idx C y (.code y b n r :: xG)) := by
  have hg : ∀ w ∈ xG, w ∈ xG ∧ ((w.onTables && w.keeps) = true ∨ ∃ ty, w = .arrayClass ty) := fun w hw => ⟨hw, good_of_word (List.mem_filter.mp hw).2⟩
  intro w hw
  rcases List.mem_append.mp hw with hw | hw
  · have hc : w = Cond.methodLink own idx y ∨ w = Cond.instanceMethod y ∨ w = Cond.selects C y y ∨ w = Cond.initialized C := by simpa using hw
    rcases hc with e | e | e | e <;> rw [e] <;> apply hg <;> assumption
  · exact xg_c h w hw
theorem xg_S {own : String} {idx : Nat} {y : MethodName} {b : ByteArray} {n : Nat} {r : Option FieldType} (h1 : Cond.methodLink own idx y ∈ xG) (h2 : Cond.static y ∈ xG) (h3 : Cond.initialized y.cls ∈ xG) (h : Cond.code y b n r ∈ xG) : GoodIn xG (va_wsS own idx y (.code y b n r :: xG)) := by
  have hg : ∀ w ∈ xG, w ∈ xG ∧ ((w.onTables && w.keeps) = true ∨ ∃ ty, w = .arrayClass ty) := fun w hw => ⟨hw, good_of_word (List.mem_filter.mp hw).2⟩
  intro w hw
  rcases List.mem_append.mp hw with hw | hw
  · have hc : w = Cond.methodLink own idx y ∨ w = Cond.static y ∨ w = Cond.initialized y.cls := by simpa using hw
    rcases hc with e | e | e <;> rw [e] <;> apply hg <;> assumption
  · exact xg_c h w hw
/-- a contract's start -/
def xP (G : va_G) (cI cB : ClassId) (tK tH sz : Nat) (wc : va_W) (U : State) : Prop :=
  U.heap.size = sz ∧ va_P G classes wc U.heap ∧ va_K G classes (xt cI cB) U ∧ va_D (fun _ => True) wc ∧ xZ tK tH (va_A wc sz) U U.heap
/-- a contract's end -/
def xB (G : va_G) (cI cB : ClassId) (A : Nat → Prop) {S : Type} (w1 : S → va_W) (u : S) (t : State) : Prop :=
  va_P G classes (w1 u) t.heap ∧ va_K G classes (xt cI cB) t ∧ va_D A (w1 u)
def xMi (l : Launch) (G : va_G) (cI cB : ClassId) (tK tH : Nat) (y : MethodName) (cc : ByteArray) (maxL : Nat) (ret : Option FieldType) (rm : Room) (as : List Value) (sz : Nat) (wc : va_W) {S : Type} (post : Int32 → S → Prop) (w1 : S → va_W) : Prop :=
  Met l y (.code y cc maxL ret :: xG) rm (va_Pc as (xP G cI cB tK tH sz wc)) (va_Qi post (xB G cI cB (va_A wc sz) w1) (va_A wc sz)) rm.cells rm.slots (va_A wc sz)
def xMv (l : Launch) (G : va_G) (cI cB : ClassId) (tK tH : Nat) (y : MethodName) (cc : ByteArray) (maxL : Nat) (ret : Option FieldType) (rm : Room) (as : List Value) (sz : Nat) (wc : va_W) {S : Type} (post : S → Prop) (w1 : S → va_W) : Prop :=
  Met l y (.code y cc maxL ret :: xG) rm (va_Pc as (xP G cI cB tK tH sz wc)) (va_Qv post (xB G cI cB (va_A wc sz) w1) (va_A wc sz)) rm.cells rm.slots (va_A wc sz)
section XO
variable {l : Launch} {G : va_G} {cI cB : ClassId} {tK tH : Nat} {y : MethodName} {rm : Room} {as : List Value} {sz : Nat} {wc : va_W} {S : Type} {cc : ByteArray} {maxL : Nat} {ret : Option FieldType} {lv : List (Nat × Value)}
/-- what a walk begins with -/
abbrev xO (l : Launch) (G : va_G) (cI cB : ClassId) (tK tH : Nat) (y : MethodName) (rm : Room) (as : List Value) (wc : va_W) (Qc : (Nat → Prop) → Array Value → State → Outcome → State → Prop) (cc : ByteArray) (maxL : Nat) (ret : Option FieldType) (lv : List (Nat × Value)) : Prop :=
  ∀ (p : Program) (e : Env) (s : State) (m : MethodId) (below : List Frame) (meth : Method) (c : Code) (A : Nat → Prop) (ls : Array Slot) (H : Heap) (locs : List Loc),
    p.tables.exec = Jvm.exec → c.code = cc → c.maxLocals = maxL → meth.sig.returnType = ret → meth.locks = false → (∀ x ∈ xG, x.before as.toArray s = true) → s.vm.findClass y.cls = some m.cls → meth.name = y.name →
    (∀ q : Nat, s.heap.size ≤ q → A q) → va_K G classes (xt cI cB) s → xZ tK tH A s s.heap → va_P G classes wc H → va_D A wc → va_S A s.heap H locs → lv_has ls maxL lv →
    W p l e rm s m as.toArray below meth c H locs 0 0 (MQ below (Qc A) as.toArray s rm.cells rm.slots A) (F0 m 0 ls [])
theorem xO.met {Qc : (Nat → Prop) → Array Value → State → Outcome → State → Prop} (hy : plainName y.cls = true) (hn : (lg_sl as).length ≤ maxL) (hlv : lv_args 0 as = lv)
    (body : xO l G cI cB tK tH y rm as wc Qc cc maxL ret lv) :
    Met l y (.code y cc maxL ret :: xG) rm (va_Pc as (xP G cI cB tK tH sz wc)) (Qc (va_A wc sz)) rm.cells rm.slots (va_A wc sz) := by
  refine Met.ofW (cc := cc) (maxL := maxL) (ret := ret) hy rfl ?_
  intro p e s m args below meth c s₁ B hml hv
  obtain ⟨rfl, hsz, hP, hK, hD0, hst⟩ := hv
  subst hsz
  have hl := lv_entry as (n := maxL) hn
  rw [hlv] at hl
  rw [lg_entry_eq]
  exact body p e s m below meth c (va_A wc s.heap.size) _ s.heap [] B.exec B.bytes hml B.returns B.notSynchronized (fun x hx => atoms_spec (ws := .code y cc maxL ret :: xG) B.pre x (List.mem_cons_of_mem _ hx)) (findClass_of_methodNamed B.named) (name_of_methodNamed B.named B.method).1 (fun q h => Or.inr h) hK hst hP hD0.self va_S.rf hl
theorem xMi.of {post : Int32 → S → Prop} {w1 : S → va_W} (hy : plainName y.cls = true) (hn : (lg_sl as).length ≤ maxL) (hlv : lv_args 0 as = lv)
    (body : xO l G cI cB tK tH y rm as wc (fun A => va_Qi post (xB G cI cB A w1) A) cc maxL ret lv) : xMi l G cI cB tK tH y cc maxL ret rm as sz wc post w1 := xO.met (Qc := fun A => va_Qi post (xB G cI cB A w1) A) hy hn hlv body
theorem xMv.of {post : S → Prop} {w1 : S → va_W} (hy : plainName y.cls = true) (hn : (lg_sl as).length ≤ maxL) (hlv : lv_args 0 as = lv)
    (body : xO l G cI cB tK tH y rm as wc (fun A => va_Qv post (xB G cI cB A w1) A) cc maxL ret lv) : xMv l G cI cB tK tH y cc maxL ret rm as sz wc post w1 := xO.met (Qc := fun A => va_Qv post (xB G cI cB A w1) A) hy hn hlv body
end XO
section XC
variable {p : Program} {l : Launch} {e : Env} {R : Room} {s : State} {m : MethodId} {args : Array Value} {below : List Frame} {meth : Method} {c : Code} {H : Heap} {locs : List Loc} {cells slots : Nat} {Q : State → Prop}
variable {cc : ByteArray} {pc : Nat} {ls : Array Slot} {rest st0 : List Value} {A : Nat → Prop} {a : Nat} {ws wc wr : va_W} {G : va_G} {cI cB : ClassId} {tK tH : Nat}
theorem xc_blind {as : List Value} {sz : Nat} : FrameBlind (va_Pc as (xP G cI cB tK tH sz wc)) := by
  intro a U g mk q
  obtain ⟨q0, q1, qP, qK, qD, qZ⟩ := q
  exact ⟨q0, q1, qP, va_K.moved (u := U) (U := U.calling g mk a) (Vm.Alike.refl U.vm) qK, qD, xZ.same (u := U) (U := U.calling g mk a) rfl qZ⟩
theorem xc_fm (is : List Nat) (ws wc : va_W) (h : is.map (fun i => ws[i]?) = wc.map some) : is.filterMap (fun i => ws[i]?) = wc := by
  induction is generalizing wc with
  | nil => cases wc with
    | nil => rfl
    | cons _ _ => cases h
  | cons i is ih => cases wc with
    | nil => cases h
    | cons x wc =>
      rw [List.map_cons, List.map_cons] at h
      injection h with h1 h2
      rw [List.filterMap_cons, h1]
      show x :: _ = _
      rw [ih wc h2]
/-- a callee's start, out of the caller's world -/
theorem xc_pre (hK : va_K G classes (xt cI cB) s) (hst : xZ tK tH A s s.heap) (hA : ∀ q : Nat, s.heap.size ≤ q → A q) (hP : va_P G classes ws H) (hD : va_D A ws) (hS : va_S A s.heap H locs) (isC : List Nat) (hn : va_nd isC = true) (hC : isC.map (fun i => ws[i]?) = wc.map some) (as : List Value) :
    PreS s H (va_Pc as (xP G cI cB tK tH H.size wc)) as := by
  refine ⟨xc_blind, fun U hU hW => ⟨rfl, by rw [hU], ?_, va_K.moved hW.alike hK, ?_, ?_⟩⟩
  · rw [hU]; exact hP.sub isC (xc_fm isC ws wc hC)
  · exact (hD.sub isC hn hC).weaken (fun _ _ _ _ => trivial)
  · rw [hU]; exact ((hst.kept hS.2.1).narrow (va_free hD hS hA isC hC)).warm hW
theorem xc_preV {C : String} {T : u_T} {N ci b : Nat} {fs : List Value} {As : List Value} (hK : va_K G classes (xt cI cB) s) (hst : xZ tK tH A s s.heap) (hA : ∀ q : Nat, s.heap.size ≤ q → A q) (hP : va_P G classes ws H) (hD : va_D A ws) (hS : va_S A s.heap H locs) (isC : List Nat) (hn : va_nd isC = true) (hC : isC.map (fun i => ws[i]?) = wc.map some) (q0 : Nat) (he : ws[q0]? = some (b, .inr (ci, fs))) (hc : classes[ci]? = some (C, T, N)) :
    PreV s H C b (va_Pc (.ref b :: As) (xP G cI cB tK tH H.size wc)) As :=
  ⟨xc_blind, va_recv (q := (C, T, N)) hK hP hc he, (xc_pre hK hst hA hP hD hS isC hn hC (.ref b :: As)).2⟩
/-- behind a call that answers an int -/
theorem xc_i {S : Type} {post : Int32 → S → Prop} {w1 : S → va_W} {mc ms : Nat} {ar : Array Value} (hr : va_Run p l e R s m args below meth c H locs cells slots mc ms (F0 m pc ls st0) rest (va_Qi post (xB G cI cB (va_A wc H.size) w1) (va_A wc H.size) ar) (va_A wc H.size))
    (hA : ∀ q : Nat, s.heap.size ≤ q → A q) (hP : va_P G classes ws H) (hD : va_D A ws) (hS : va_S A s.heap H locs) (isC isR : List Nat) (hC : isC.map (fun i => ws[i]?) = wc.map some) (hR : isR.map (fun i => ws[i]?) = wr.map some) (hn : va_nd isR = true) (hdis : ∀ i ∈ isR, i ∉ isC)
    (kk : ∀ (r : Int32) (u : S) (H1 : Heap) (locs1 : List Loc), post r u → va_P G classes (wr ++ w1 u) H1 → va_D A (wr ++ w1 u) → va_S A s.heap H1 locs1 → W p l e R s m args below meth c H1 locs1 (cells + mc) (slots + ms) Q (F0 m (pc + 3) ls (.int r :: rest))) :
    W p l e R s m args below meth c H locs cells slots Q (F0 m pc ls st0) := by
  have hF := va_free (wc := wc) hD hS hA isC hC
  refine va_calli hr hS (fun q _ h => hF q h) hF (fun r u t H1 locs1 ht hvm hp hB hz hk hS1 => ?_)
  obtain ⟨hP1, hK1, hD1⟩ := hB
  rw [ht] at hP1
  obtain ⟨hP2, hD2⟩ := va_join hP hD isC isR hC hR hn hdis hk hF hP1 hD1
  exact kk r u H1 locs1 hp hP2 hD2 hS1
/-- behind a call that answers nothing -/
theorem xc_v {S : Type} {post : S → Prop} {w1 : S → va_W} {mc ms : Nat} {ar : Array Value} (hr : va_Run p l e R s m args below meth c H locs cells slots mc ms (F0 m pc ls st0) rest (va_Qv post (xB G cI cB (va_A wc H.size) w1) (va_A wc H.size) ar) (va_A wc H.size))
    (hA : ∀ q : Nat, s.heap.size ≤ q → A q) (hP : va_P G classes ws H) (hD : va_D A ws) (hS : va_S A s.heap H locs) (isC isR : List Nat) (hC : isC.map (fun i => ws[i]?) = wc.map some) (hR : isR.map (fun i => ws[i]?) = wr.map some) (hn : va_nd isR = true) (hdis : ∀ i ∈ isR, i ∉ isC)
    (kk : ∀ (u : S) (H1 : Heap) (locs1 : List Loc), post u → va_P G classes (wr ++ w1 u) H1 → va_D A (wr ++ w1 u) → va_S A s.heap H1 locs1 → W p l e R s m args below meth c H1 locs1 (cells + mc) (slots + ms) Q (F0 m (pc + 3) ls rest)) :
    W p l e R s m args below meth c H locs cells slots Q (F0 m pc ls st0) := by
  have hF := va_free (wc := wc) hD hS hA isC hC
  refine va_callv hr hS (fun q _ h => hF q h) hF (fun u t H1 locs1 ht hvm hp hB hz hk hS1 => ?_)
  obtain ⟨hP1, hK1, hD1⟩ := hB
  rw [ht] at hP1
  obtain ⟨hP2, hD2⟩ := va_join hP hD isC isR hC hR hn hdis hk hF hP1 hD1
  exact kk u H1 locs1 hp hP2 hD2 hS1
/-- ends -/
theorem xe_i {S : Type} {post : Int32 → S → Prop} {w1 : S → va_W} {v : Int32} (u : S) (hx : p.tables.exec = Jvm.exec) (hb : c.code = cc) (hr : meth.sig.returnType = some .int) (hlk : meth.locks = false) (hK : va_K G classes (xt cI cB) s) (hp : post v u) (hP : va_P G classes (w1 u) H) (hD : va_D A (w1 u)) (hS : va_S A s.heap H locs) (hdg : decode cc pc = .ok (.ireturn, 1)) {kc ks : Nat} (h1 : cells ≤ kc) (h2 : slots ≤ ks) :
    W p l e R s m args below meth c H locs cells slots (MQ below (va_Qi post (xB G cI cB A w1) A) args s kc ks A) (F0 m pc ls [.int v]) :=
  W.widen h1 h2 (W.iret hx hb hr (fun t ht hW => ⟨⟨v, u, rfl, hp, by rw [ht]; exact hP, va_K.moved hW.alike hK, hD⟩, hS.F ht⟩) hS.2.2 hdg hlk)
theorem xe_z {S : Type} {post : Int32 → S → Prop} {w1 : S → va_W} {v : Int32} {ty : FieldType} (u : S) (hx : p.tables.exec = Jvm.exec) (hb : c.code = cc) (hr : meth.sig.returnType = some ty) (hnar : narrow ty (.int v) = .int v) (hlk : meth.locks = false) (hK : va_K G classes (xt cI cB) s) (hp : post v u) (hP : va_P G classes (w1 u) H) (hD : va_D A (w1 u)) (hS : va_S A s.heap H locs) (hdg : decode cc pc = .ok (.ireturn, 1)) {kc ks : Nat} (h1 : cells ≤ kc) (h2 : slots ≤ ks) :
    W p l e R s m args below meth c H locs cells slots (MQ below (va_Qi post (xB G cI cB A w1) A) args s kc ks A) (F0 m pc ls [.int v]) :=
  W.widen h1 h2 (W.zret hx hb hr hnar (fun t ht hW => ⟨⟨v, u, rfl, hp, by rw [ht]; exact hP, va_K.moved hW.alike hK, hD⟩, hS.F ht⟩) hS.2.2 hdg hlk)
theorem xe_v {S : Type} {post : S → Prop} {w1 : S → va_W} (u : S) (hx : p.tables.exec = Jvm.exec) (hb : c.code = cc) (hr : meth.sig.returnType = none) (hlk : meth.locks = false) (hK : va_K G classes (xt cI cB) s) (hp : post u) (hP : va_P G classes (w1 u) H) (hD : va_D A (w1 u)) (hS : va_S A s.heap H locs) (hdg : decode cc pc = .ok (.return_, 1)) {kc ks : Nat} (h1 : cells ≤ kc) (h2 : slots ≤ ks) :
    W p l e R s m args below meth c H locs cells slots (MQ below (va_Qv post (xB G cI cB A w1) A) args s kc ks A) (F0 m pc ls []) :=
  W.widen h1 h2 (W.vret hx hb hr (fun t ht hW => ⟨⟨u, rfl, hp, by rw [ht]; exact hP, va_K.moved hW.alike hK, hD⟩, hS.F ht⟩) hS.2.2 hdg hlk)
/-- a loop -/
theorem xl (I : Nat → Array Slot → Heap → List Loc → Prop) (st : List Value)
    (step : ∀ n, (∀ k, k < n → ∀ ls H locs, I k ls H locs → W p l e R s m args below meth c H locs cells slots Q (F0 m pc ls st)) → ∀ ls H locs, I n ls H locs → W p l e R s m args below meth c H locs cells slots Q (F0 m pc ls st)) :
    ∀ n ls H locs, I n ls H locs → W p l e R s m args below meth c H locs cells slots Q (F0 m pc ls st) := by
  intro n
  induction n using Nat.strongRecOn with
  | _ n ih => exact step n ih
/-- arrays, by Nat places -/
theorem xa_iald {tys : List (ClassId × FieldType)} {cl : List vw_C} (hx : p.tables.exec = Jvm.exec) (hb : c.code = cc) (hK : va_K G cl tys s) (hP : va_P G cl ws H) (q0 t0 : Nat) {cA : ClassId} {n : Nat} {f : Nat → Int32} {k : Nat} (ha : ws[q0]? = some (a, .inl (cA, n, .inl f))) (ht : tys[t0]? = some (cA, .int)) (hk : k < n) (hn : n < 2 ^ 31) (hdg : decode cc pc = .ok (.iaload, 1))
    (kk : W p l e R s m args below meth c H locs cells slots Q (F0 m (pc + 1) ls (.int (f k) :: rest))) : W p l e R s m args below meth c H locs cells slots Q (F0 m pc ls (.int (nI k) :: .ref a :: rest)) := by
  refine va_iald hx hb hK hP q0 t0 ha ht (vp_in_nI hk hn) hdg ?_
  rw [nI_clamp (by omega)]
  exact kk
theorem xa_bald {tys : List (ClassId × FieldType)} {cl : List vw_C} (hx : p.tables.exec = Jvm.exec) (hb : c.code = cc) (hK : va_K G cl tys s) (hP : va_P G cl ws H) (q0 t0 : Nat) {cA : ClassId} {n : Nat} {f : Nat → Int32} {k : Nat} (ha : ws[q0]? = some (a, .inl (cA, n, .inl f))) (ht : tys[t0]? = some (cA, .byte)) (hk : k < n) (hn : n < 2 ^ 31) (hdg : decode cc pc = .ok (.baload, 1))
    (kk : W p l e R s m args below meth c H locs cells slots Q (F0 m (pc + 1) ls (.int (f k) :: rest))) : W p l e R s m args below meth c H locs cells slots Q (F0 m pc ls (.int (nI k) :: .ref a :: rest)) := by
  refine va_bald hx hb hK hP q0 t0 ha ht (vp_in_nI hk hn) hdg ?_
  rw [nI_clamp (by omega)]
  exact kk
theorem xa_iast {tys : List (ClassId × FieldType)} {cl : List vw_C} {H0 : Heap} (hx : p.tables.exec = Jvm.exec) (hb : c.code = cc) (hK : va_K G cl tys s) (hP : va_P G cl ws H) (hD : va_D A ws) (hS : va_S A H0 H locs) (q0 t0 : Nat) {cA : ClassId} {n : Nat} {f : Nat → Int32} {k : Nat} {x : Int32} (ha : ws[q0]? = some (a, .inl (cA, n, .inl f))) (ht : tys[t0]? = some (cA, .int)) (hk : k < n) (hn : n < 2 ^ 31) (hdg : decode cc pc = .ok (.iastore, 1))
    (kk : ∀ (H1 : Heap) (locs1 : List Loc), va_P G cl (ws.set q0 (a, .inl (cA, n, .inl (upd f k x)))) H1 → va_D A (ws.set q0 (a, .inl (cA, n, .inl (upd f k x)))) → va_S A H0 H1 locs1 → W p l e R s m args below meth c H1 locs1 cells slots Q (F0 m (pc + 1) ls rest)) : W p l e R s m args below meth c H locs cells slots Q (F0 m pc ls (.int x :: .int (nI k) :: .ref a :: rest)) := by
  refine va_iast hx hb hK hP hD hS q0 t0 ha ht (vp_in_nI hk hn) hdg ?_
  rw [nI_clamp (by omega)]
  exact kk
theorem xa_bast {tys : List (ClassId × FieldType)} {cl : List vw_C} {H0 : Heap} (hx : p.tables.exec = Jvm.exec) (hb : c.code = cc) (hK : va_K G cl tys s) (hP : va_P G cl ws H) (hD : va_D A ws) (hS : va_S A H0 H locs) (q0 t0 : Nat) {cA : ClassId} {n : Nat} {f : Nat → Int32} {k : Nat} {x : Int32} (ha : ws[q0]? = some (a, .inl (cA, n, .inl f))) (ht : tys[t0]? = some (cA, .byte)) (hk : k < n) (hn : n < 2 ^ 31) (hdg : decode cc pc = .ok (.bastore, 1))
    (kk : ∀ (H1 : Heap) (locs1 : List Loc), va_P G cl (ws.set q0 (a, .inl (cA, n, .inl (upd f k x.toInt8.toInt32)))) H1 → va_D A (ws.set q0 (a, .inl (cA, n, .inl (upd f k x.toInt8.toInt32)))) → va_S A H0 H1 locs1 → W p l e R s m args below meth c H1 locs1 cells slots Q (F0 m (pc + 1) ls rest)) : W p l e R s m args below meth c H locs cells slots Q (F0 m pc ls (.int x :: .int (nI k) :: .ref a :: rest)) := by
  refine va_bast hx hb hK hP hD hS q0 t0 ha ht (vp_in_nI hk hn) hdg ?_
  rw [nI_clamp (by omega)]
  exact kk
/-- a fixed table -/
theorem xa_ti {t N : Nat} {f : Nat → Int32} (hx : p.tables.exec = Jvm.exec) (hb : c.code = cc) (hT : va_T .int t N (fun j => .int (f j)) A s s.heap) (hS : va_S A s.heap H locs) {k : Nat} (hk : k < N) (hn : N < 2 ^ 31) (hdg : decode cc pc = .ok (.iaload, 1))
    (kk : W p l e R s m args below meth c H locs cells slots Q (F0 m (pc + 1) ls (.int (f k) :: rest))) : W p l e R s m args below meth c H locs cells slots Q (F0 m pc ls (.int (nI k) :: .ref t :: rest)) := by
  refine va_ti hx hb hT hS (vp_in_nI hk hn) (v := .int (f k)) ?_ hdg kk
  show Value.int (f (nI k).toNatClampNeg) = _
  rw [nI_clamp (by omega)]
/-- the same array by another function -/
theorem xp_cell (cA : ClassId) {n : Nat} {f g : Nat → Int32} (h : ∀ j, j < n → f j = g j) : vp_cell cA (n, .inl f) = vp_cell cA (n, .inl g) := by
  show ({ cls := cA, slots := Array.ofFn (n := n) fun j => Value.int (f j.val), vm := .none } : Cell) = { cls := cA, slots := Array.ofFn (n := n) fun j => Value.int (g j.val), vm := .none }
  congr 1
  congr 1
  funext j
  rw [h j.val j.isLt]
theorem xp_fun {cl : List vw_C} (hP : va_P G cl ws H) (q0 : Nat) {cA : ClassId} {n : Nat} {f : Nat → Int32} (g : Nat → Int32) (ha : ws[q0]? = some (a, .inl (cA, n, .inl f))) (h : ∀ j, j < n → f j = g j) : va_P G cl (ws.set q0 (a, .inl (cA, n, .inl g))) H := by
  intro k q hk
  rw [List.getElem?_set] at hk
  split at hk
  · rename_i e
    split at hk
    · cases hk
      show H[a]? = some (vp_cell cA (n, .inl g))
      rw [← xp_cell cA h]
      exact hP q0 _ ha
    · cases hk
  · exact hP k q hk
end XC
section XK
variable {p : Program} {l : Launch} {e : Env} {R : Room} {s : State} {m : MethodId} {args : Array Value} {below : List Frame} {meth : Method} {c : Code} {H : Heap} {locs : List Loc} {cells slots : Nat} {Q : State → Prop}
variable {cc : ByteArray} {pc : Nat} {ls : Array Slot} {rest : List Value} {A : Nat → Prop} {a : Nat} {ws : va_W} {G : va_G} {cl : List vw_C} {tys : List (ClassId × FieldType)} {H0 : Heap}
/-- System.arraycopy between two int rows of the world, by Nat places -/
theorem xa_copy (hx : p.tables.exec = Jvm.exec) (hb : c.code = cc) (hml : c.maxLocals = ls.size) {own : String} {index : Nat} (hown : s.vm.findClass own = some m.cls) (hlink : (Cond.methodLink own index arraycopyName).before args s = true) (hnat : (Cond.native arraycopyName).before args s = true) (hstat : (Cond.static arraycopyName).before args s = true) (hini : (Cond.initialized "java/lang/System").before args s = true)
    (hK : va_K G cl tys s) (hP : va_P G cl ws H) (hD : va_D A ws) (hS : va_S A H0 H locs) (q0 q1 t0 t1 : Nat) {a0 : Nat} {c0 c1 : ClassId} {n0 n1 : Nat} {f g : Nat → Int32} (ha0 : ws[q0]? = some (a0, .inl (c0, n0, .inl f))) (ha1 : ws[q1]? = some (a, .inl (c1, n1, .inl g))) (ht0 : tys[t0]? = some (c0, .int)) (ht1 : tys[t1]? = some (c1, .int))
    {sp dp n : Nat} (h4 : sp + n ≤ n0) (h5 : dp + n ≤ n1) (h1 : sp < 2 ^ 31) (h2 : dp < 2 ^ 31) (h3 : n < 2 ^ 31)
    (hframes : 1 ≤ R.frames) (hlocals : (rest.map fun v => v.category).sum + (nativeFrameWords "java/lang/System" "arraycopy" 5 + 11) ≤ R.locals) (hdg : decode cc pc = .ok (.invokestatic index, 3))
    (kk : ∀ (H1 : Heap) (locs1 : List Loc), va_P G cl (ws.set q1 (a, .inl (c1, n1, .inl (va_cpy f g sp dp n)))) H1 → va_D A (ws.set q1 (a, .inl (c1, n1, .inl (va_cpy f g sp dp n)))) → va_S A H0 H1 locs1 → W p l e R s m args below meth c H1 locs1 cells slots Q (F0 m (pc + 3) ls rest)) :
    W p l e R s m args below meth c H locs cells slots Q (F0 m pc ls (.int (nI n) :: .int (nI dp) :: .ref a :: .int (nI sp) :: .ref a0 :: rest)) := by
  refine va_copyi hx hb hml hown hlink hnat hstat hini hK hP hD hS q0 q1 t0 t1 ha0 ha1 ht0 ht1 rfl (nI_pos h1) (nI_pos h2) (nI_pos h3) ?_ ?_ (fun _ _ => rfl) hframes hlocals hdg ?_
  · rw [nI_clamp h1, nI_clamp h3]; exact h4
  · rw [nI_clamp h2, nI_clamp h3]; exact h5
  · rw [nI_clamp h1, nI_clamp h2, nI_clamp h3]; exact kk
/-- System.arraycopy out of a fixed table -/
theorem xa_copyt (hx : p.tables.exec = Jvm.exec) (hb : c.code = cc) (hml : c.maxLocals = ls.size) {own : String} {index : Nat} (hown : s.vm.findClass own = some m.cls) (hlink : (Cond.methodLink own index arraycopyName).before args s = true) (hnat : (Cond.native arraycopyName).before args s = true) (hstat : (Cond.static arraycopyName).before args s = true) (hini : (Cond.initialized "java/lang/System").before args s = true)
    (hK : va_K G cl tys s) (hP : va_P G cl ws H) (hD : va_D A ws) (hS : va_S A s.heap H locs) {t N : Nat} {f : Nat → Int32} (hT : va_T .int t N (fun j => .int (f j)) A s s.heap) (q1 t1 : Nat) {c1 : ClassId} {n1 : Nat} {g : Nat → Int32} (ha1 : ws[q1]? = some (a, .inl (c1, n1, .inl g))) (ht1 : tys[t1]? = some (c1, .int))
    {sp dp n : Nat} (h4 : sp + n ≤ N) (h5 : dp + n ≤ n1) (h1 : sp < 2 ^ 31) (h2 : dp < 2 ^ 31) (h3 : n < 2 ^ 31)
    (hframes : 1 ≤ R.frames) (hlocals : (rest.map fun v => v.category).sum + (nativeFrameWords "java/lang/System" "arraycopy" 5 + 11) ≤ R.locals) (hdg : decode cc pc = .ok (.invokestatic index, 3))
    (kk : ∀ (H1 : Heap) (locs1 : List Loc), va_P G cl (ws.set q1 (a, .inl (c1, n1, .inl (va_cpy f g sp dp n)))) H1 → va_D A (ws.set q1 (a, .inl (c1, n1, .inl (va_cpy f g sp dp n)))) → va_S A s.heap H1 locs1 → W p l e R s m args below meth c H1 locs1 cells slots Q (F0 m (pc + 3) ls rest)) :
    W p l e R s m args below meth c H locs cells slots Q (F0 m pc ls (.int (nI n) :: .int (nI dp) :: .ref a :: .int (nI sp) :: .ref t :: rest)) := by
  obtain ⟨tab, g1, ⟨g2, k0, g3, g4, g5⟩, g6, g7, -, g8, g9⟩ := hT
  intro T hT X
  have cT : H[t]? = some tab := (hS.2.1 t (Array.getElem?_eq_some_iff.mp g1).1 g9).trans g1
  have cD : H[a]? = some (vp_cell c1 (n1, .inl g)) := hP q1 _ ha1
  obtain ⟨-, k1, g10, cm1, g11⟩ := (hK.2 t1 _ ht1).1 n1 (fun j => .int (g j))
  have elt : ∀ i, i < n → tab.slots.getD (sp + i) .null = .int (f (sp + i)) := fun i hi => by
    rw [Array.getD_eq_getD_getElem?, g8 _ (by omega)]
    rfl
  obtain ⟨vm', X', step⟩ := X.arraycopy hx hown hlink hnat hstat hini (src := t) (dst := a) (cs := tab) (cd := vp_cell c1 (n1, .inl g)) (srcPos := nI sp) (destPos := nI dp) (n := nI n) (by rw [hT]; exact cT) (by rw [hT]; exact cD)
    g2 (fun _ h => by cases h) g6 (fun h => by cases h) g3 g10 g5 g11 (by simp [refKind]) (nI_pos h1) (nI_pos h2) (nI_pos h3)
    (by rw [nI_toInt h1, nI_toInt h3]; omega)
    (by rw [nI_toInt h2, nI_toInt h3]; show ¬ _ > ((arrV c1 n1 (fun j => .int (g j))).slots.size : Int); rw [arrV_size]; omega)
    (fun vm₁ _ i hi => by
      rw [nI_clamp h3] at hi
      rw [nI_clamp h1, elt i hi]
      exact ⟨rfl, trivial⟩)
    (g := F0 m pc ls (.int (nI n) :: .int (nI dp) :: .ref a :: .int (nI sp) :: .ref t :: rest)) rfl (by rw [hml]) (rest := rest) rfl (by rw [hb]; exact hdg) hframes (by show 2 * 0 + _ + _ ≤ _; omega)
  have e1 : copied tab (vp_cell c1 (n1, .inl g)) (nI sp) (nI dp) (nI n) = vp_cell c1 (n1, .inl (va_cpy f g sp dp n)) := by
    have e := va_copiedX (fun z => Value.int z) tab c1 f g g8 (sp := sp) (dp := dp) (n := n) (n1 := n1) h4
    unfold copied
    rw [nI_clamp h1, nI_clamp h2, nI_clamp h3]
    exact e
  rw [e1] at X' step
  generalize hcell : vp_cell c1 (n1, .inl (va_cpy f g sp dp n)) = cell at X' step
  have hl : a < H.size := (Array.getElem?_eq_some_iff.mp cD).1
  have oq : ∀ q : Nat, q ≠ a → (H.setIfInBounds a cell)[q]? = H[q]? := fun q hq => by simp [Array.getElem?_setIfInBounds, Ne.symm hq]
  have here : va_at G cl (a, .inl (c1, n1, .inl (va_cpy f g sp dp n))) (H.setIfInBounds a cell) := by
    show (H.setIfInBounds a cell)[a]? = some (vp_cell c1 (n1, .inl (va_cpy f g sp dp n)))
    rw [hcell]
    simp [Array.getElem?_setIfInBounds, hl]
  have hheap : ((T.setVm vm').setCell a cell).heap = H.setIfInBounds a cell := by rw [← hT]; rfl
  obtain ⟨u, u1, u2⟩ := kk _ _ (hP.set hD ha1 here oq) (hD.set ha1) ⟨by simp; exact hS.1, fun q z1 z2 => (oq q (fun z => z2 (z ▸ hD.2 q1 _ ha1))).trans (hS.2.1 q z1 z2), fun q hq => by
      rcases List.mem_append.mp hq with z | z
      · exact hS.2.2 q z
      · obtain ⟨x, -, hx⟩ := List.mem_map.mp z
        rw [← hx]
        exact hD.2 q1 _ ha1⟩ _ hheap X'
  exact ⟨u, step u u1, u2⟩
/-- all int arrays are of one class, so are all byte arrays -/
theorem xk_int {cl : List vw_C} {cI cB cA : ClassId} (h : va_K G cl (xt cI cB) s) (h2 : va_K G cl (xt cI cB ++ [(cA, .int)]) s) : cA = cI :=
  Option.some.inj ((h2.2 2 (cA, .int) rfl).2.symm.trans (h.2 0 (cI, .int) rfl).2)
theorem xk_byte {cl : List vw_C} {cI cB cA : ClassId} (h : va_K G cl (xt cI cB) s) (h2 : va_K G cl (xt cI cB ++ [(cA, .byte)]) s) : cA = cB :=
  Option.some.inj ((h2.2 2 (cA, .byte) rfl).2.symm.trans (h.2 1 (cB, .byte) rfl).2)
end XK
end
section
/-! small rows for the walks -/
theorem km_w_step (w : Nat → Int32) (k j : Nat) : upd (km_w w k) (16 + k) (km_z1 (km_w w k (16 + k - 2)) + km_w w k (16 + k - 7) + km_z0 (km_w w k (16 + k - 15)) + km_w w k (16 + k - 16)) j = km_w w (k + 1) j := by
  rw [show 16 + k - 2 = 14 + k by omega, show 16 + k - 7 = 9 + k by omega, show 16 + k - 15 = 1 + k by omega, show 16 + k - 16 = k by omega]
  rfl
theorem km_cpy0 (f g : Nat → Int32) {n j : Nat} (h : j < n) : va_cpy f g 0 0 n j = f j := by
  rw [pk_cpy_in (by omega) (by omega)]
  congr 1
  omega
/-- the shifts 56, 48 .. 0, -8 -/
def km_sh (i : Nat) : Int32 := 56 - nI (8 * i)
theorem km_sh_lt : ∀ i, i < 9 → (km_sh i < 0 ↔ i = 8) := by decide +kernel
theorem km_sh_at : ∀ i, i < 8 → km_sh i = nI (56 - 8 * i) := by decide +kernel
theorem km_sh_next : ∀ i, i < 8 → km_sh i + Int32.ofInt (-8) = km_sh (i + 1) := by decide +kernel
end
section
/-! the key's block, as it is laid -/
theorem km_kb_long (p : Nat → Int32) {np : Nat} (h : 64 < np) (j : Nat) : km_sum p np (fun _ => 0) j = km_kb p np j := by
  unfold km_kb
  rw [if_pos h]
  by_cases z : j < 32
  · rw [km_sum_lo _ _ _ z, if_pos z]
  · rw [km_sum_hi _ _ _ (by omega), if_neg z]
theorem km_kb_short (p : Nat → Int32) {np : Nat} (h : np ≤ 64) (j : Nat) : va_cpy p (fun _ => 0) 0 0 np j = km_kb p np j := by
  unfold km_kb
  rw [if_neg (by omega)]
  by_cases z : j < np
  · rw [km_cpy0 _ _ z, if_pos z]
  · rw [pk_cpy_out (by omega), if_neg z]
end
section
/-! leaves: rotateRight, fill, putWord, the small functions, spreadWords -/
set_option maxHeartbeats 4000000 in
set_option maxRecDepth 100000 in
theorem c_rotR (l : Launch) (G : va_G) (cI cB : ClassId) (tK tH sz : Nat) (x n : Int32)  : xMi l G cI cB tK tH y_Integer_rotateRight b_Integer_rotateRight 2 (some .int) ({ frames := 0, cells := 0, slots := 0, locals := 0 }) [.int x, .int n] sz [] (fun r _ => r = xr x n) (fun u : Unit => []) := by
  refine xMi.of (lv := [(0, .int x), (1, .int n)]) (by decide) (Nat.le_of_ble_eq_true rfl) rfl ?_
  intro pp ee ss mm bel met cod A ls H locs hx hb hml hr hlk hts hown hnm hA hK hst hP hD hS hl
  have hown : ss.vm.findClass R_Integer = some mm.cls := hown
  refine lv_iload_n hx hb d_Integer_rotateRight_0 rfl (lv_at hl 0 rfl) ?_
  refine lv_iload_n hx hb d_Integer_rotateRight_1 rfl (lv_at hl 1 rfl) ?_
  refine lv_iushr (v := xu x n) hx hb d_Integer_rotateRight_2 rfl ?_
  refine lv_iload_n hx hb d_Integer_rotateRight_3 rfl (lv_at hl 0 rfl) ?_
  refine lv_iload_n hx hb d_Integer_rotateRight_4 rfl (lv_at hl 1 rfl) ?_
  refine lv_ineg hx hb d_Integer_rotateRight_5 ?_
  refine lv_ishl hx hb d_Integer_rotateRight_6 ?_
  refine lv_ior hx hb d_Integer_rotateRight_7 ?_
  exact xe_i (()) hx hb hr hlk hK (rfl) hP hD hS d_Integer_rotateRight_8 (by decide) (by decide)
set_option maxHeartbeats 4000000 in
set_option maxRecDepth 100000 in
theorem c_z0 (l : Launch) (G : va_G) (cI cB : ClassId) (tK tH sz : Nat) (x : Int32)  : xMi l G cI cB tK tH y_Summer_smallZero b_Summer_smallZero 1 (some .int) ({ frames := 1, cells := 0, slots := 0, locals := 21 }) [.int x] sz [] (fun r _ => r = km_z0 x) (fun u : Unit => []) := by
  refine xMi.of (lv := [(0, .int x)]) (by decide) (Nat.le_of_ble_eq_true rfl) rfl ?_
  intro pp ee ss mm bel met cod A ls H locs hx hb hml hr hlk hts hown hnm hA hK hst hP hD hS hl
  have hown : ss.vm.findClass R_Summer = some mm.cls := hown
  refine lv_iload_n hx hb d_Summer_smallZero_0 rfl (lv_at hl 0 rfl) ?_
  refine lv_bipush (v := 7) hx hb d_Summer_smallZero_1 (by decide) ?_
  refine xc_i (wr := []) (va_runS (As := [.int x, .int 7]) (rest := []) ⟨hx, hb, hml, hown, hts⟩ (c_rotR l G cI cB tK tH H.size x 7 ) (va_cwS 2 hts (xg_S tw_183 tw_184 tw_23 tw_185) rfl rfl rfl (by decide +kernel) ⟨Nat.le_of_ble_eq_true rfl, Nat.le_of_ble_eq_true rfl⟩) (xc_pre hK hst hA hP hD hS [] (by decide) rfl [.int x, .int 7]) rfl rfl hl.1 rfl (lv_room (Nat.le_of_ble_eq_true rfl)) d_Summer_smallZero_3 ⟨Nat.le_of_ble_eq_true rfl, Nat.le_of_ble_eq_true rfl⟩) hA hP hD hS [] [] rfl rfl (by decide) (by decide) (fun r2 u1 H locs hp hP hD hS => ?_)
  have hP : va_P G classes [] H := hP
  have hD : va_D A [] := hD
  obtain rfl : r2 = xr x 7 := hp
  refine lv_iload_n hx hb d_Summer_smallZero_6 rfl (lv_at hl 0 rfl) ?_
  refine lv_bipush (v := 18) hx hb d_Summer_smallZero_7 (by decide) ?_
  refine xc_i (wr := []) (va_runS (As := [.int x, .int 18]) (rest := [.int (xr x 7)]) ⟨hx, hb, hml, hown, hts⟩ (c_rotR l G cI cB tK tH H.size x 18 ) (va_cwS 2 hts (xg_S tw_183 tw_184 tw_23 tw_185) rfl rfl rfl (by decide +kernel) ⟨Nat.le_of_ble_eq_true rfl, Nat.le_of_ble_eq_true rfl⟩) (xc_pre hK hst hA hP hD hS [] (by decide) rfl [.int x, .int 18]) rfl rfl hl.1 rfl (lv_room (Nat.le_of_ble_eq_true rfl)) d_Summer_smallZero_9 ⟨Nat.le_of_ble_eq_true rfl, Nat.le_of_ble_eq_true rfl⟩) hA hP hD hS [] [] rfl rfl (by decide) (by decide) (fun r4 u3 H locs hp hP hD hS => ?_)
  have hP : va_P G classes [] H := hP
  have hD : va_D A [] := hD
  obtain rfl : r4 = xr x 18 := hp
  refine lv_ixor hx hb d_Summer_smallZero_12 ?_
  refine lv_iload_n hx hb d_Summer_smallZero_13 rfl (lv_at hl 0 rfl) ?_
  refine lv_iconst (v := 3) hx hb d_Summer_smallZero_14 (by decide) ?_
  refine lv_iushr (v := xu x 3) hx hb d_Summer_smallZero_15 rfl ?_
  refine lv_ixor hx hb d_Summer_smallZero_16 ?_
  exact xe_i (()) hx hb hr hlk hK (rfl) hP hD hS d_Summer_smallZero_17 (by decide) (by decide)
set_option maxHeartbeats 4000000 in
set_option maxRecDepth 100000 in
theorem c_z1 (l : Launch) (G : va_G) (cI cB : ClassId) (tK tH sz : Nat) (x : Int32)  : xMi l G cI cB tK tH y_Summer_smallOne b_Summer_smallOne 1 (some .int) ({ frames := 1, cells := 0, slots := 0, locals := 21 }) [.int x] sz [] (fun r _ => r = km_z1 x) (fun u : Unit => []) := by
  refine xMi.of (lv := [(0, .int x)]) (by decide) (Nat.le_of_ble_eq_true rfl) rfl ?_
  intro pp ee ss mm bel met cod A ls H locs hx hb hml hr hlk hts hown hnm hA hK hst hP hD hS hl
  have hown : ss.vm.findClass R_Summer = some mm.cls := hown
  refine lv_iload_n hx hb d_Summer_smallOne_0 rfl (lv_at hl 0 rfl) ?_
  refine lv_bipush (v := 17) hx hb d_Summer_smallOne_1 (by decide) ?_
  refine xc_i (wr := []) (va_runS (As := [.int x, .int 17]) (rest := []) ⟨hx, hb, hml, hown, hts⟩ (c_rotR l G cI cB tK tH H.size x 17 ) (va_cwS 2 hts (xg_S tw_183 tw_184 tw_23 tw_185) rfl rfl rfl (by decide +kernel) ⟨Nat.le_of_ble_eq_true rfl, Nat.le_of_ble_eq_true rfl⟩) (xc_pre hK hst hA hP hD hS [] (by decide) rfl [.int x, .int 17]) rfl rfl hl.1 rfl (lv_room (Nat.le_of_ble_eq_true rfl)) d_Summer_smallOne_3 ⟨Nat.le_of_ble_eq_true rfl, Nat.le_of_ble_eq_true rfl⟩) hA hP hD hS [] [] rfl rfl (by decide) (by decide) (fun r2 u1 H locs hp hP hD hS => ?_)
  have hP : va_P G classes [] H := hP
  have hD : va_D A [] := hD
  obtain rfl : r2 = xr x 17 := hp
  refine lv_iload_n hx hb d_Summer_smallOne_6 rfl (lv_at hl 0 rfl) ?_
  refine lv_bipush (v := 19) hx hb d_Summer_smallOne_7 (by decide) ?_
  refine xc_i (wr := []) (va_runS (As := [.int x, .int 19]) (rest := [.int (xr x 17)]) ⟨hx, hb, hml, hown, hts⟩ (c_rotR l G cI cB tK tH H.size x 19 ) (va_cwS 2 hts (xg_S tw_183 tw_184 tw_23 tw_185) rfl rfl rfl (by decide +kernel) ⟨Nat.le_of_ble_eq_true rfl, Nat.le_of_ble_eq_true rfl⟩) (xc_pre hK hst hA hP hD hS [] (by decide) rfl [.int x, .int 19]) rfl rfl hl.1 rfl (lv_room (Nat.le_of_ble_eq_true rfl)) d_Summer_smallOne_9 ⟨Nat.le_of_ble_eq_true rfl, Nat.le_of_ble_eq_true rfl⟩) hA hP hD hS [] [] rfl rfl (by decide) (by decide) (fun r4 u3 H locs hp hP hD hS => ?_)
  have hP : va_P G classes [] H := hP
  have hD : va_D A [] := hD
  obtain rfl : r4 = xr x 19 := hp
  refine lv_ixor hx hb d_Summer_smallOne_12 ?_
  refine lv_iload_n hx hb d_Summer_smallOne_13 rfl (lv_at hl 0 rfl) ?_
  refine lv_bipush (v := 10) hx hb d_Summer_smallOne_14 (by decide) ?_
  refine lv_iushr (v := xu x 10) hx hb d_Summer_smallOne_16 rfl ?_
  refine lv_ixor hx hb d_Summer_smallOne_17 ?_
  exact xe_i (()) hx hb hr hlk hK (rfl) hP hD hS d_Summer_smallOne_18 (by decide) (by decide)
set_option maxHeartbeats 4000000 in
set_option maxRecDepth 100000 in
theorem c_y0 (l : Launch) (G : va_G) (cI cB : ClassId) (tK tH sz : Nat) (x : Int32)  : xMi l G cI cB tK tH y_Summer_bigZero b_Summer_bigZero 1 (some .int) ({ frames := 1, cells := 0, slots := 0, locals := 21 }) [.int x] sz [] (fun r _ => r = km_y0 x) (fun u : Unit => []) := by
  refine xMi.of (lv := [(0, .int x)]) (by decide) (Nat.le_of_ble_eq_true rfl) rfl ?_
  intro pp ee ss mm bel met cod A ls H locs hx hb hml hr hlk hts hown hnm hA hK hst hP hD hS hl
  have hown : ss.vm.findClass R_Summer = some mm.cls := hown
  refine lv_iload_n hx hb d_Summer_bigZero_0 rfl (lv_at hl 0 rfl) ?_
  refine lv_iconst (v := 2) hx hb d_Summer_bigZero_1 (by decide) ?_
  refine xc_i (wr := []) (va_runS (As := [.int x, .int 2]) (rest := []) ⟨hx, hb, hml, hown, hts⟩ (c_rotR l G cI cB tK tH H.size x 2 ) (va_cwS 2 hts (xg_S tw_183 tw_184 tw_23 tw_185) rfl rfl rfl (by decide +kernel) ⟨Nat.le_of_ble_eq_true rfl, Nat.le_of_ble_eq_true rfl⟩) (xc_pre hK hst hA hP hD hS [] (by decide) rfl [.int x, .int 2]) rfl rfl hl.1 rfl (lv_room (Nat.le_of_ble_eq_true rfl)) d_Summer_bigZero_2 ⟨Nat.le_of_ble_eq_true rfl, Nat.le_of_ble_eq_true rfl⟩) hA hP hD hS [] [] rfl rfl (by decide) (by decide) (fun r2 u1 H locs hp hP hD hS => ?_)
  have hP : va_P G classes [] H := hP
  have hD : va_D A [] := hD
  obtain rfl : r2 = xr x 2 := hp
  refine lv_iload_n hx hb d_Summer_bigZero_5 rfl (lv_at hl 0 rfl) ?_
  refine lv_bipush (v := 13) hx hb d_Summer_bigZero_6 (by decide) ?_
  refine xc_i (wr := []) (va_runS (As := [.int x, .int 13]) (rest := [.int (xr x 2)]) ⟨hx, hb, hml, hown, hts⟩ (c_rotR l G cI cB tK tH H.size x 13 ) (va_cwS 2 hts (xg_S tw_183 tw_184 tw_23 tw_185) rfl rfl rfl (by decide +kernel) ⟨Nat.le_of_ble_eq_true rfl, Nat.le_of_ble_eq_true rfl⟩) (xc_pre hK hst hA hP hD hS [] (by decide) rfl [.int x, .int 13]) rfl rfl hl.1 rfl (lv_room (Nat.le_of_ble_eq_true rfl)) d_Summer_bigZero_8 ⟨Nat.le_of_ble_eq_true rfl, Nat.le_of_ble_eq_true rfl⟩) hA hP hD hS [] [] rfl rfl (by decide) (by decide) (fun r4 u3 H locs hp hP hD hS => ?_)
  have hP : va_P G classes [] H := hP
  have hD : va_D A [] := hD
  obtain rfl : r4 = xr x 13 := hp
  refine lv_ixor hx hb d_Summer_bigZero_11 ?_
  refine lv_iload_n hx hb d_Summer_bigZero_12 rfl (lv_at hl 0 rfl) ?_
  refine lv_bipush (v := 22) hx hb d_Summer_bigZero_13 (by decide) ?_
  refine xc_i (wr := []) (va_runS (As := [.int x, .int 22]) (rest := [.int ((xr x 2) ^^^ (xr x 13))]) ⟨hx, hb, hml, hown, hts⟩ (c_rotR l G cI cB tK tH H.size x 22 ) (va_cwS 2 hts (xg_S tw_183 tw_184 tw_23 tw_185) rfl rfl rfl (by decide +kernel) ⟨Nat.le_of_ble_eq_true rfl, Nat.le_of_ble_eq_true rfl⟩) (xc_pre hK hst hA hP hD hS [] (by decide) rfl [.int x, .int 22]) rfl rfl hl.1 rfl (lv_room (Nat.le_of_ble_eq_true rfl)) d_Summer_bigZero_15 ⟨Nat.le_of_ble_eq_true rfl, Nat.le_of_ble_eq_true rfl⟩) hA hP hD hS [] [] rfl rfl (by decide) (by decide) (fun r6 u5 H locs hp hP hD hS => ?_)
  have hP : va_P G classes [] H := hP
  have hD : va_D A [] := hD
  obtain rfl : r6 = xr x 22 := hp
  refine lv_ixor hx hb d_Summer_bigZero_18 ?_
  exact xe_i (()) hx hb hr hlk hK (rfl) hP hD hS d_Summer_bigZero_19 (by decide) (by decide)
set_option maxHeartbeats 4000000 in
set_option maxRecDepth 100000 in
theorem c_y1 (l : Launch) (G : va_G) (cI cB : ClassId) (tK tH sz : Nat) (x : Int32)  : xMi l G cI cB tK tH y_Summer_bigOne b_Summer_bigOne 1 (some .int) ({ frames := 1, cells := 0, slots := 0, locals := 21 }) [.int x] sz [] (fun r _ => r = km_y1 x) (fun u : Unit => []) := by
  refine xMi.of (lv := [(0, .int x)]) (by decide) (Nat.le_of_ble_eq_true rfl) rfl ?_
  intro pp ee ss mm bel met cod A ls H locs hx hb hml hr hlk hts hown hnm hA hK hst hP hD hS hl
  have hown : ss.vm.findClass R_Summer = some mm.cls := hown
  refine lv_iload_n hx hb d_Summer_bigOne_0 rfl (lv_at hl 0 rfl) ?_
  refine lv_bipush (v := 6) hx hb d_Summer_bigOne_1 (by decide) ?_
  refine xc_i (wr := []) (va_runS (As := [.int x, .int 6]) (rest := []) ⟨hx, hb, hml, hown, hts⟩ (c_rotR l G cI cB tK tH H.size x 6 ) (va_cwS 2 hts (xg_S tw_183 tw_184 tw_23 tw_185) rfl rfl rfl (by decide +kernel) ⟨Nat.le_of_ble_eq_true rfl, Nat.le_of_ble_eq_true rfl⟩) (xc_pre hK hst hA hP hD hS [] (by decide) rfl [.int x, .int 6]) rfl rfl hl.1 rfl (lv_room (Nat.le_of_ble_eq_true rfl)) d_Summer_bigOne_3 ⟨Nat.le_of_ble_eq_true rfl, Nat.le_of_ble_eq_true rfl⟩) hA hP hD hS [] [] rfl rfl (by decide) (by decide) (fun r2 u1 H locs hp hP hD hS => ?_)
  have hP : va_P G classes [] H := hP
  have hD : va_D A [] := hD
  obtain rfl : r2 = xr x 6 := hp
  refine lv_iload_n hx hb d_Summer_bigOne_6 rfl (lv_at hl 0 rfl) ?_
  refine lv_bipush (v := 11) hx hb d_Summer_bigOne_7 (by decide) ?_
  refine xc_i (wr := []) (va_runS (As := [.int x, .int 11]) (rest := [.int (xr x 6)]) ⟨hx, hb, hml, hown, hts⟩ (c_rotR l G cI cB tK tH H.size x 11 ) (va_cwS 2 hts (xg_S tw_183 tw_184 tw_23 tw_185) rfl rfl rfl (by decide +kernel) ⟨Nat.le_of_ble_eq_true rfl, Nat.le_of_ble_eq_true rfl⟩) (xc_pre hK hst hA hP hD hS [] (by decide) rfl [.int x, .int 11]) rfl rfl hl.1 rfl (lv_room (Nat.le_of_ble_eq_true rfl)) d_Summer_bigOne_9 ⟨Nat.le_of_ble_eq_true rfl, Nat.le_of_ble_eq_true rfl⟩) hA hP hD hS [] [] rfl rfl (by decide) (by decide) (fun r4 u3 H locs hp hP hD hS => ?_)
  have hP : va_P G classes [] H := hP
  have hD : va_D A [] := hD
  obtain rfl : r4 = xr x 11 := hp
  refine lv_ixor hx hb d_Summer_bigOne_12 ?_
  refine lv_iload_n hx hb d_Summer_bigOne_13 rfl (lv_at hl 0 rfl) ?_
  refine lv_bipush (v := 25) hx hb d_Summer_bigOne_14 (by decide) ?_
  refine xc_i (wr := []) (va_runS (As := [.int x, .int 25]) (rest := [.int ((xr x 6) ^^^ (xr x 11))]) ⟨hx, hb, hml, hown, hts⟩ (c_rotR l G cI cB tK tH H.size x 25 ) (va_cwS 2 hts (xg_S tw_183 tw_184 tw_23 tw_185) rfl rfl rfl (by decide +kernel) ⟨Nat.le_of_ble_eq_true rfl, Nat.le_of_ble_eq_true rfl⟩) (xc_pre hK hst hA hP hD hS [] (by decide) rfl [.int x, .int 25]) rfl rfl hl.1 rfl (lv_room (Nat.le_of_ble_eq_true rfl)) d_Summer_bigOne_16 ⟨Nat.le_of_ble_eq_true rfl, Nat.le_of_ble_eq_true rfl⟩) hA hP hD hS [] [] rfl rfl (by decide) (by decide) (fun r6 u5 H locs hp hP hD hS => ?_)
  have hP : va_P G classes [] H := hP
  have hD : va_D A [] := hD
  obtain rfl : r6 = xr x 25 := hp
  refine lv_ixor hx hb d_Summer_bigOne_19 ?_
  exact xe_i (()) hx hb hr hlk hK (rfl) hP hD hS d_Summer_bigOne_20 (by decide) (by decide)
set_option maxHeartbeats 4000000 in
set_option maxRecDepth 100000 in
theorem c_fill (l : Launch) (G : va_G) (cI cB : ClassId) (tK tH sz : Nat) (q n : Nat) (f : Nat → Int32) (v : Int32) (hn : n < 2 ^ 31) : xMv l G cI cB tK tH y_Arrays_fill b_Arrays_fill 4 none ({ frames := 0, cells := 0, slots := 0, locals := 0 }) [.ref q, .int v] sz [(q, .inl (cI, n, .inl f))] (fun _ => True) (fun u : Unit => [(q, .inl (cI, n, .inl (fun _ => v)))]) := by
  refine xMv.of (lv := [(0, .ref q), (1, .int v)]) (by decide) (Nat.le_of_ble_eq_true rfl) rfl ?_
  intro pp ee ss mm bel met cod A ls H locs hx hb hml hr hlk hts hown hnm hA hK hst hP hD hS hl
  have hown : ss.vm.findClass R_Arrays = some mm.cls := hown
  refine lv_iconst (v := 0) hx hb d_Arrays_fill_0 (by decide) ?_
  refine lv_istore_n (lv' := [(2, .int 0), (0, .ref q), (1, .int v)]) hx hb d_Arrays_fill_1 rfl hl (by decide) rfl (fun ls hl => ?_)
  refine lv_aload_n hx hb d_Arrays_fill_2 rfl (lv_at hl 1 rfl) ?_
  refine va_alen (v := nI n) hx hb hK hP 0 0 rfl rfl rfl d_Arrays_fill_3 ?_
  refine lv_istore_n (lv' := [(3, .int (nI n)), (2, .int 0), (0, .ref q), (1, .int v)]) hx hb d_Arrays_fill_4 rfl hl (by decide) rfl (fun ls hl => ?_)
  refine xl (pc := 5) (I := fun NN ls H locs => ∃ (i : Nat) (g : Nat → Int32), n - i = NN ∧ lv_has ls 4 [(3, .int (nI n)), (2, .int (nI i)), (0, .ref q), (1, .int v)] ∧ va_P G classes [(q, .inl (cI, n, .inl g))] H ∧ va_D A [(q, .inl (cI, n, .inl g))] ∧ va_S A ss.heap H locs ∧ (i ≤ n) ∧ (∀ j, j < i → g j = v)) [] ?_ _ _ _ _ ⟨0, f, rfl, lv_sub hl [0, 1, 2, 3] rfl, hP, hD, hS, by omega, fun j hj => by omega⟩
  intro NN ih5 ls H locs hI
  obtain ⟨i, g, hN, hl, hP, hD, hS, hi, hg⟩ := hI
  refine lv_iload_n hx hb d_Arrays_fill_5 rfl (lv_at hl 1 rfl) ?_
  refine lv_iload_n hx hb d_Arrays_fill_6 rfl (lv_at hl 0 rfl) ?_
  refine lv_icmp_ge (tgt := 20) hx hb d_Arrays_fill_7 (by decide) (fun hc1 => ?_) (fun hc1 => ?_)
  · have hc1 : n ≤ i := (nI_leI (a := n) (b := i) (by omega) (by omega)).mp hc1
    have hP := xp_fun hP 0 (fun _ => v) rfl (fun j hj => hg j (by omega))
    have hD := hD.set (p := 0) (e := .inl (cI, n, .inl (fun _ => v))) rfl
    exact xe_v (()) hx hb hr hlk hK (trivial) hP hD hS d_Arrays_fill_20 (by decide) (by decide)
  · have hc1 : ¬ n ≤ i := fun z => hc1 ((nI_leI (a := n) (b := i) (by omega) (by omega)).mpr z)
    refine lv_aload_n hx hb d_Arrays_fill_10 rfl (lv_at hl 2 rfl) ?_
    refine lv_iload_n hx hb d_Arrays_fill_11 rfl (lv_at hl 1 rfl) ?_
    refine lv_iload_n hx hb d_Arrays_fill_12 rfl (lv_at hl 3 rfl) ?_
    refine xa_iast (k := i) (f := g) (x := v) hx hb hK hP hD hS 0 0 rfl rfl (by omega) (by omega) d_Arrays_fill_13 (fun H locs hP hD hS => ?_)
    have hP : va_P G classes [(q, .inl (cI, n, .inl (upd g i v)))] H := hP
    have hD : va_D A [(q, .inl (cI, n, .inl (upd g i v)))] := hD
    refine lv_iinc (k := 1) (v := nI (i + 1)) (lv' := [(2, .int (nI (i + 1))), (3, .int (nI n)), (0, .ref q), (1, .int v)]) hx hb d_Arrays_fill_14 hl rfl (nI_1 i) (by decide) rfl (fun ls hl => ?_)
    refine lv_goto (tgt := 5) hx hb d_Arrays_fill_17 (by decide) ?_
    exact ih5 _ (by omega) _ _ _ ⟨i + 1, _, rfl, lv_sub hl [1, 0, 2, 3] rfl, hP, hD, hS, by omega, fun j hj => by
          by_cases e : j = i
          · subst e; exact pk_us
          · rw [pk_un e]; exact hg j (by omega)⟩
set_option maxHeartbeats 4000000 in
set_option maxRecDepth 100000 in
theorem c_putWord (l : Launch) (G : va_G) (cI cB : ClassId) (tK tH sz : Nat) (q n a : Nat) (f : Nat → Int32) (x : Int32) (hn : n < 1000) (ha : a + 4 ≤ n) : xMv l G cI cB tK tH y_KeyMaker_putWord b_KeyMaker_putWord 3 none ({ frames := 0, cells := 0, slots := 0, locals := 0 }) [.int x, .ref q, .int (nI a)] sz [(q, .inl (cI, n, .inl f))] (fun _ => True) (fun u : Unit => [(q, .inl (cI, n, .inl (km_put f a x)))]) := by
  refine xMv.of (lv := [(0, .int x), (1, .ref q), (2, .int (nI a))]) (by decide) (Nat.le_of_ble_eq_true rfl) rfl ?_
  intro pp ee ss mm bel met cod A ls H locs hx hb hml hr hlk hts hown hnm hA hK hst hP hD hS hl
  have hown : ss.vm.findClass R_KeyMaker = some mm.cls := hown
  refine lv_aload_n hx hb d_KeyMaker_putWord_0 rfl (lv_at hl 1 rfl) ?_
  refine lv_iload_n hx hb d_KeyMaker_putWord_1 rfl (lv_at hl 2 rfl) ?_
  refine lv_iload_n hx hb d_KeyMaker_putWord_2 rfl (lv_at hl 0 rfl) ?_
  refine lv_bipush (v := 24) hx hb d_KeyMaker_putWord_3 (by decide) ?_
  refine lv_iushr (v := xu x 24) hx hb d_KeyMaker_putWord_5 rfl ?_
  refine xa_iast (k := a) (f := f) (x := xu x 24) hx hb hK hP hD hS 0 0 rfl rfl (by omega) (by omega) d_KeyMaker_putWord_6 (fun H locs hP hD hS => ?_)
  have hP : va_P G classes [(q, .inl (cI, n, .inl (upd f a (xu x 24))))] H := hP
  have hD : va_D A [(q, .inl (cI, n, .inl (upd f a (xu x 24))))] := hD
  refine lv_aload_n hx hb d_KeyMaker_putWord_7 rfl (lv_at hl 1 rfl) ?_
  refine lv_iload_n hx hb d_KeyMaker_putWord_8 rfl (lv_at hl 2 rfl) ?_
  refine lv_iconst (v := 1) hx hb d_KeyMaker_putWord_9 (by decide) ?_
  refine lv_iadd hx hb d_KeyMaker_putWord_10 ?_
  refine lv_topi (fun y1 ey1 => ?_)
  obtain rfl : y1 = nI (a + 1) := ey1.trans (nI_add a 1)
  refine lv_iload_n hx hb d_KeyMaker_putWord_11 rfl (lv_at hl 0 rfl) ?_
  refine lv_bipush (v := 16) hx hb d_KeyMaker_putWord_12 (by decide) ?_
  refine lv_iushr (v := xu x 16) hx hb d_KeyMaker_putWord_14 rfl ?_
  refine lv_sipush (v := 255) hx hb d_KeyMaker_putWord_15 (by decide) ?_
  refine lv_iand hx hb d_KeyMaker_putWord_18 ?_
  refine xa_iast (k := a + 1) (f := upd f a (xu x 24)) (x := (xu x 16) &&& 255) hx hb hK hP hD hS 0 0 rfl rfl (by omega) (by omega) d_KeyMaker_putWord_19 (fun H locs hP hD hS => ?_)
  have hP : va_P G classes [(q, .inl (cI, n, .inl (upd (upd f a (xu x 24)) (a + 1) ((xu x 16) &&& 255))))] H := hP
  have hD : va_D A [(q, .inl (cI, n, .inl (upd (upd f a (xu x 24)) (a + 1) ((xu x 16) &&& 255))))] := hD
  refine lv_aload_n hx hb d_KeyMaker_putWord_20 rfl (lv_at hl 1 rfl) ?_
  refine lv_iload_n hx hb d_KeyMaker_putWord_21 rfl (lv_at hl 2 rfl) ?_
  refine lv_iconst (v := 2) hx hb d_KeyMaker_putWord_22 (by decide) ?_
  refine lv_iadd hx hb d_KeyMaker_putWord_23 ?_
  refine lv_topi (fun y2 ey2 => ?_)
  obtain rfl : y2 = nI (a + 2) := ey2.trans (nI_add a 2)
  refine lv_iload_n hx hb d_KeyMaker_putWord_24 rfl (lv_at hl 0 rfl) ?_
  refine lv_bipush (v := 8) hx hb d_KeyMaker_putWord_25 (by decide) ?_
  refine lv_iushr (v := xu x 8) hx hb d_KeyMaker_putWord_27 rfl ?_
  refine lv_sipush (v := 255) hx hb d_KeyMaker_putWord_28 (by decide) ?_
  refine lv_iand hx hb d_KeyMaker_putWord_31 ?_
  refine xa_iast (k := a + 2) (f := upd (upd f a (xu x 24)) (a + 1) ((xu x 16) &&& 255)) (x := (xu x 8) &&& 255) hx hb hK hP hD hS 0 0 rfl rfl (by omega) (by omega) d_KeyMaker_putWord_32 (fun H locs hP hD hS => ?_)
  have hP : va_P G classes [(q, .inl (cI, n, .inl (upd (upd (upd f a (xu x 24)) (a + 1) ((xu x 16) &&& 255)) (a + 2) ((xu x 8) &&& 255))))] H := hP
  have hD : va_D A [(q, .inl (cI, n, .inl (upd (upd (upd f a (xu x 24)) (a + 1) ((xu x 16) &&& 255)) (a + 2) ((xu x 8) &&& 255))))] := hD
  refine lv_aload_n hx hb d_KeyMaker_putWord_33 rfl (lv_at hl 1 rfl) ?_
  refine lv_iload_n hx hb d_KeyMaker_putWord_34 rfl (lv_at hl 2 rfl) ?_
  refine lv_iconst (v := 3) hx hb d_KeyMaker_putWord_35 (by decide) ?_
  refine lv_iadd hx hb d_KeyMaker_putWord_36 ?_
  refine lv_topi (fun y3 ey3 => ?_)
  obtain rfl : y3 = nI (a + 3) := ey3.trans (nI_add a 3)
  refine lv_iload_n hx hb d_KeyMaker_putWord_37 rfl (lv_at hl 0 rfl) ?_
  refine lv_sipush (v := 255) hx hb d_KeyMaker_putWord_38 (by decide) ?_
  refine lv_iand hx hb d_KeyMaker_putWord_41 ?_
  refine xa_iast (k := a + 3) (f := upd (upd (upd f a (xu x 24)) (a + 1) ((xu x 16) &&& 255)) (a + 2) ((xu x 8) &&& 255)) (x := x &&& 255) hx hb hK hP hD hS 0 0 rfl rfl (by omega) (by omega) d_KeyMaker_putWord_42 (fun H locs hP hD hS => ?_)
  have hP : va_P G classes [(q, .inl (cI, n, .inl (upd (upd (upd (upd f a (xu x 24)) (a + 1) ((xu x 16) &&& 255)) (a + 2) ((xu x 8) &&& 255)) (a + 3) (x &&& 255))))] H := hP
  have hD : va_D A [(q, .inl (cI, n, .inl (upd (upd (upd (upd f a (xu x 24)) (a + 1) ((xu x 16) &&& 255)) (a + 2) ((xu x 8) &&& 255)) (a + 3) (x &&& 255))))] := hD
  have hP := xp_fun hP 0 (km_put f a x) rfl (fun j _ => km_put_eq f a x j)
  have hD := hD.set (p := 0) (e := .inl (cI, n, .inl (km_put f a x))) rfl
  have hP : va_P G classes [(q, .inl (cI, n, .inl (km_put f a x)))] H := hP
  have hD : va_D A [(q, .inl (cI, n, .inl (km_put f a x)))] := hD
  exact xe_v (()) hx hb hr hlk hK (trivial) hP hD hS d_KeyMaker_putWord_43 (by decide) (by decide)
set_option maxHeartbeats 4000000 in
set_option maxRecDepth 100000 in
theorem c_isByte (l : Launch) (G : va_G) (cI cB : ClassId) (tK tH sz : Nat) (b : Int32)  : xMi l G cI cB tK tH y_KeyMaker_isByte b_KeyMaker_isByte 1 (some .boolean) ({ frames := 0, cells := 0, slots := 0, locals := 0 }) [.int b] sz [] (fun r _ => (¬ b < 0 ∧ ¬ 255 < b ∧ r = 1) ∨ ((b < 0 ∨ 255 < b) ∧ r = 0)) (fun u : Unit => []) := by
  refine xMi.of (lv := [(0, .int b)]) (by decide) (Nat.le_of_ble_eq_true rfl) rfl ?_
  intro pp ee ss mm bel met cod A ls H locs hx hb hml hr hlk hts hown hnm hA hK hst hP hD hS hl
  have hown : ss.vm.findClass R_KeyMaker = some mm.cls := hown
  refine lv_iload_n hx hb d_KeyMaker_isByte_0 rfl (lv_at hl 0 rfl) ?_
  refine lv_if_lt (tgt := 15) hx hb d_KeyMaker_isByte_1 (by decide) (fun h1 => ?_) (fun h1 => ?_)
  · refine lv_iconst (v := 0) hx hb d_KeyMaker_isByte_15 (by decide) ?_
    exact xe_z (()) hx hb hr (by decide) hlk hK (Or.inr ⟨by first | exact Or.inr h2 | exact Or.inl h1, rfl⟩) hP hD hS d_KeyMaker_isByte_16 (by decide) (by decide)
  · refine lv_iload_n hx hb d_KeyMaker_isByte_4 rfl (lv_at hl 0 rfl) ?_
    refine lv_sipush (v := 255) hx hb d_KeyMaker_isByte_5 (by decide) ?_
    refine lv_icmp_gt (tgt := 15) hx hb d_KeyMaker_isByte_8 (by decide) (fun h2 => ?_) (fun h2 => ?_)
    · refine lv_iconst (v := 0) hx hb d_KeyMaker_isByte_15 (by decide) ?_
      exact xe_z (()) hx hb hr (by decide) hlk hK (Or.inr ⟨Or.inr h2, rfl⟩) hP hD hS d_KeyMaker_isByte_16 (by decide) (by decide)
    · refine lv_iconst (v := 1) hx hb d_KeyMaker_isByte_11 (by decide) ?_
      refine lv_goto (tgt := 16) hx hb d_KeyMaker_isByte_12 (by decide) ?_
      exact xe_z (()) hx hb hr (by decide) hlk hK (Or.inl ⟨h1, h2, rfl⟩) hP hD hS d_KeyMaker_isByte_16 (by decide) (by decide)
set_option maxHeartbeats 4000000 in
set_option maxRecDepth 100000 in
theorem c_isPlace (l : Launch) (G : va_G) (cI cB : ClassId) (tK tH sz : Nat) (i : Int32)  : xMi l G cI cB tK tH y_KeyMaker_isPlaceOfSum b_KeyMaker_isPlaceOfSum 1 (some .boolean) ({ frames := 0, cells := 0, slots := 0, locals := 0 }) [.int i] sz [] (fun r _ => (∃ k : Nat, k < 32 ∧ i = nI k ∧ r = 1) ∨ ((i < 0 ∨ 32 ≤ i) ∧ r = 0)) (fun u : Unit => []) := by
  refine xMi.of (lv := [(0, .int i)]) (by decide) (Nat.le_of_ble_eq_true rfl) rfl ?_
  intro pp ee ss mm bel met cod A ls H locs hx hb hml hr hlk hts hown hnm hA hK hst hP hD hS hl
  have hown : ss.vm.findClass R_KeyMaker = some mm.cls := hown
  refine lv_iload_n hx hb d_KeyMaker_isPlaceOfSum_0 rfl (lv_at hl 0 rfl) ?_
  refine lv_if_lt (tgt := 14) hx hb d_KeyMaker_isPlaceOfSum_1 (by decide) (fun h1 => ?_) (fun h1 => ?_)
  · refine lv_iconst (v := 0) hx hb d_KeyMaker_isPlaceOfSum_14 (by decide) ?_
    exact xe_z (()) hx hb hr (by decide) hlk hK (Or.inr ⟨by first | exact Or.inr h2 | exact Or.inl h1, rfl⟩) hP hD hS d_KeyMaker_isPlaceOfSum_15 (by decide) (by decide)
  · refine lv_iload_n hx hb d_KeyMaker_isPlaceOfSum_4 rfl (lv_at hl 0 rfl) ?_
    refine lv_bipush (v := 32) hx hb d_KeyMaker_isPlaceOfSum_5 (by decide) ?_
    refine lv_icmp_ge (tgt := 14) hx hb d_KeyMaker_isPlaceOfSum_7 (by decide) (fun h2 => ?_) (fun h2 => ?_)
    · refine lv_iconst (v := 0) hx hb d_KeyMaker_isPlaceOfSum_14 (by decide) ?_
      exact xe_z (()) hx hb hr (by decide) hlk hK (Or.inr ⟨by first | exact Or.inr h2 | exact Or.inl h1, rfl⟩) hP hD hS d_KeyMaker_isPlaceOfSum_15 (by decide) (by decide)
    · refine lv_iconst (v := 1) hx hb d_KeyMaker_isPlaceOfSum_10 (by decide) ?_
      refine lv_goto (tgt := 15) hx hb d_KeyMaker_isPlaceOfSum_11 (by decide) ?_
      exact xe_z (()) hx hb hr (by decide) hlk hK (Or.inl ((pk_ix i (n := 32) (by decide)).elim (fun z => absurd z h1) (fun z => z.elim (fun z => absurd z h2) (fun z => z.elim (fun k z => ⟨k, z.1, z.2, rfl⟩))))) hP hD hS d_KeyMaker_isPlaceOfSum_15 (by decide) (by decide)
set_option maxHeartbeats 4000000 in
set_option maxRecDepth 100000 in
theorem c_spread (l : Launch) (G : va_G) (cI cB : ClassId) (tK tH sz : Nat) (q0 q1 q2 : Nat) (w : Nat → Int32) (tk : Int32)  : xMv l G cI cB tK tH y_Summer_spreadWords b_Summer_spreadWords 2 none ({ frames := 2, cells := 0, slots := 0, locals := 41 }) [.ref q0] sz [(q0, .inr (1, [.ref q1, .ref q2, .int tk])), (q2, .inl (cI, 64, .inl w))] (fun _ => True) (fun u : Unit => [(q0, .inr (1, [.ref q1, .ref q2, .int tk])), (q2, .inl (cI, 64, .inl (km_W w)))]) := by
  refine xMv.of (lv := [(0, .ref q0)]) (by decide) (Nat.le_of_ble_eq_true rfl) rfl ?_
  intro pp ee ss mm bel met cod A ls H locs hx hb hml hr hlk hts hown hnm hA hK hst hP hD hS hl
  have hown : ss.vm.findClass R_Summer = some mm.cls := hown
  refine lv_bipush (v := 16) hx hb d_Summer_spreadWords_0 (by decide) ?_
  refine lv_istore_n (lv' := [(1, .int 16), (0, .ref q0)]) hx hb d_Summer_spreadWords_2 rfl hl (by decide) rfl (fun ls hl => ?_)
  refine xl (pc := 3) (I := fun NN ls H locs => ∃ (k : Nat), 48 - k = NN ∧ lv_has ls 2 [(1, .int (nI (16 + k))), (0, .ref q0)] ∧ va_P G classes [(q0, .inr (1, [.ref q1, .ref q2, .int tk])), (q2, .inl (cI, 64, .inl (km_w w k)))] H ∧ va_D A [(q0, .inr (1, [.ref q1, .ref q2, .int tk])), (q2, .inl (cI, 64, .inl (km_w w k)))] ∧ va_S A ss.heap H locs ∧ (k ≤ 48)) [] ?_ _ _ _ _ ⟨0, rfl, lv_sub hl [0, 1] rfl, hP, hD, hS, by omega⟩
  intro NN ih3 ls H locs hI
  obtain ⟨k, hN, hl, hP, hD, hS, hk⟩ := hI
  refine lv_iload_n hx hb d_Summer_spreadWords_3 rfl (lv_at hl 0 rfl) ?_
  refine lv_bipush (v := 64) hx hb d_Summer_spreadWords_4 (by decide) ?_
  refine lv_icmp_ge (tgt := 65) hx hb d_Summer_spreadWords_6 (by decide) (fun hc1 => ?_) (fun hc1 => ?_)
  · have hc1 : 64 ≤ (16 + k) := (nI_leI (a := 64) (b := (16 + k)) (by omega) (by omega)).mp hc1
    obtain rfl : k = 48 := by omega
    exact xe_v (()) hx hb hr hlk hK (trivial) hP hD hS d_Summer_spreadWords_65 (by decide) (by decide)
  · have hc1 : ¬ 64 ≤ (16 + k) := fun z => hc1 ((nI_leI (a := 64) (b := (16 + k)) (by omega) (by omega)).mpr z)
    refine lv_aload_n hx hb d_Summer_spreadWords_9 rfl (lv_at hl 1 rfl) ?_
    refine va_get (D := G) (ci := 1) (v := .ref q2) (C := R_Summer) (T := F_Summer) (N := 3) hx hb hts hi_Summer hown hK hP 0 rfl rfl 1 (by decide) (hts _ tw_40) (fun _ h9 => h9) rfl d_Summer_spreadWords_10 ?_
    refine lv_iload_n hx hb d_Summer_spreadWords_13 rfl (lv_at hl 0 rfl) ?_
    refine lv_aload_n hx hb d_Summer_spreadWords_14 rfl (lv_at hl 1 rfl) ?_
    refine va_get (D := G) (ci := 1) (v := .ref q2) (C := R_Summer) (T := F_Summer) (N := 3) hx hb hts hi_Summer hown hK hP 0 rfl rfl 1 (by decide) (hts _ tw_40) (fun _ h9 => h9) rfl d_Summer_spreadWords_15 ?_
    refine lv_iload_n hx hb d_Summer_spreadWords_18 rfl (lv_at hl 0 rfl) ?_
    refine lv_iconst (v := 2) hx hb d_Summer_spreadWords_19 (by decide) ?_
    refine lv_isub hx hb d_Summer_spreadWords_20 ?_
    refine lv_topi (fun y2 ey2 => ?_)
    obtain rfl : y2 = nI (16 + k - 2) := ey2.trans (pk_sub (a := (16 + k)) (b := 2) (by omega))
    refine xa_iald (k := 16 + k - 2) (f := km_w w k) hx hb hK hP 1 0 rfl rfl (by omega) (by omega) d_Summer_spreadWords_21 ?_
    refine xc_i (wr := [(q0, .inr (1, [.ref q1, .ref q2, .int tk])), (q2, .inl (cI, 64, .inl (km_w w k)))]) (va_runS (As := [.int ((km_w w k) (16 + k - 2))]) (rest := [.int (nI (16 + k)), .ref q2]) ⟨hx, hb, hml, hown, hts⟩ (c_z1 l G cI cB tK tH H.size (km_w w k (16 + k - 2)) ) (va_cwS 1 hts (xg_S tw_180 tw_181 tw_18 tw_182) rfl rfl rfl (by decide +kernel) ⟨Nat.le_of_ble_eq_true rfl, Nat.le_of_ble_eq_true rfl⟩) (xc_pre hK hst hA hP hD hS [] (by decide) rfl [.int ((km_w w k) (16 + k - 2))]) rfl rfl hl.1 rfl (lv_room (Nat.le_of_ble_eq_true rfl)) d_Summer_spreadWords_22 ⟨Nat.le_of_ble_eq_true rfl, Nat.le_of_ble_eq_true rfl⟩) hA hP hD hS [] [0, 1] rfl rfl (by decide) (by decide) (fun r4 u3 H locs hp hP hD hS => ?_)
    have hP : va_P G classes [(q0, .inr (1, [.ref q1, .ref q2, .int tk])), (q2, .inl (cI, 64, .inl (km_w w k)))] H := hP
    have hD : va_D A [(q0, .inr (1, [.ref q1, .ref q2, .int tk])), (q2, .inl (cI, 64, .inl (km_w w k)))] := hD
    obtain rfl : r4 = km_z1 (km_w w k (16 + k - 2)) := hp
    refine lv_aload_n hx hb d_Summer_spreadWords_25 rfl (lv_at hl 1 rfl) ?_
    refine va_get (D := G) (ci := 1) (v := .ref q2) (C := R_Summer) (T := F_Summer) (N := 3) hx hb hts hi_Summer hown hK hP 0 rfl rfl 1 (by decide) (hts _ tw_40) (fun _ h9 => h9) rfl d_Summer_spreadWords_26 ?_
    refine lv_iload_n hx hb d_Summer_spreadWords_29 rfl (lv_at hl 0 rfl) ?_
    refine lv_bipush (v := 7) hx hb d_Summer_spreadWords_30 (by decide) ?_
    refine lv_isub hx hb d_Summer_spreadWords_32 ?_
    refine lv_topi (fun y5 ey5 => ?_)
    obtain rfl : y5 = nI (16 + k - 7) := ey5.trans (pk_sub (a := (16 + k)) (b := 7) (by omega))
    refine xa_iald (k := 16 + k - 7) (f := km_w w k) hx hb hK hP 1 0 rfl rfl (by omega) (by omega) d_Summer_spreadWords_33 ?_
    refine lv_iadd hx hb d_Summer_spreadWords_34 ?_
    refine lv_aload_n hx hb d_Summer_spreadWords_35 rfl (lv_at hl 1 rfl) ?_
    refine va_get (D := G) (ci := 1) (v := .ref q2) (C := R_Summer) (T := F_Summer) (N := 3) hx hb hts hi_Summer hown hK hP 0 rfl rfl 1 (by decide) (hts _ tw_40) (fun _ h9 => h9) rfl d_Summer_spreadWords_36 ?_
    refine lv_iload_n hx hb d_Summer_spreadWords_39 rfl (lv_at hl 0 rfl) ?_
    refine lv_bipush (v := 15) hx hb d_Summer_spreadWords_40 (by decide) ?_
    refine lv_isub hx hb d_Summer_spreadWords_42 ?_
    refine lv_topi (fun y6 ey6 => ?_)
    obtain rfl : y6 = nI (16 + k - 15) := ey6.trans (pk_sub (a := (16 + k)) (b := 15) (by omega))
    refine xa_iald (k := 16 + k - 15) (f := km_w w k) hx hb hK hP 1 0 rfl rfl (by omega) (by omega) d_Summer_spreadWords_43 ?_
    refine xc_i (wr := [(q0, .inr (1, [.ref q1, .ref q2, .int tk])), (q2, .inl (cI, 64, .inl (km_w w k)))]) (va_runS (As := [.int ((km_w w k) (16 + k - 15))]) (rest := [.int ((km_z1 (km_w w k (16 + k - 2))) + ((km_w w k) (16 + k - 7))), .int (nI (16 + k)), .ref q2]) ⟨hx, hb, hml, hown, hts⟩ (c_z0 l G cI cB tK tH H.size (km_w w k (16 + k - 15)) ) (va_cwS 1 hts (xg_S tw_186 tw_187 tw_18 tw_188) rfl rfl rfl (by decide +kernel) ⟨Nat.le_of_ble_eq_true rfl, Nat.le_of_ble_eq_true rfl⟩) (xc_pre hK hst hA hP hD hS [] (by decide) rfl [.int ((km_w w k) (16 + k - 15))]) rfl rfl hl.1 rfl (lv_room (Nat.le_of_ble_eq_true rfl)) d_Summer_spreadWords_44 ⟨Nat.le_of_ble_eq_true rfl, Nat.le_of_ble_eq_true rfl⟩) hA hP hD hS [] [0, 1] rfl rfl (by decide) (by decide) (fun r8 u7 H locs hp hP hD hS => ?_)
    have hP : va_P G classes [(q0, .inr (1, [.ref q1, .ref q2, .int tk])), (q2, .inl (cI, 64, .inl (km_w w k)))] H := hP
    have hD : va_D A [(q0, .inr (1, [.ref q1, .ref q2, .int tk])), (q2, .inl (cI, 64, .inl (km_w w k)))] := hD
    obtain rfl : r8 = km_z0 (km_w w k (16 + k - 15)) := hp
    refine lv_iadd hx hb d_Summer_spreadWords_47 ?_
    refine lv_aload_n hx hb d_Summer_spreadWords_48 rfl (lv_at hl 1 rfl) ?_
    refine va_get (D := G) (ci := 1) (v := .ref q2) (C := R_Summer) (T := F_Summer) (N := 3) hx hb hts hi_Summer hown hK hP 0 rfl rfl 1 (by decide) (hts _ tw_40) (fun _ h9 => h9) rfl d_Summer_spreadWords_49 ?_
    refine lv_iload_n hx hb d_Summer_spreadWords_52 rfl (lv_at hl 0 rfl) ?_
    refine lv_bipush (v := 16) hx hb d_Summer_spreadWords_53 (by decide) ?_
    refine lv_isub hx hb d_Summer_spreadWords_55 ?_
    refine lv_topi (fun y9 ey9 => ?_)
    obtain rfl : y9 = nI (16 + k - 16) := ey9.trans (pk_sub (a := (16 + k)) (b := 16) (by omega))
    refine xa_iald (k := 16 + k - 16) (f := km_w w k) hx hb hK hP 1 0 rfl rfl (by omega) (by omega) d_Summer_spreadWords_56 ?_
    refine lv_iadd hx hb d_Summer_spreadWords_57 ?_
    refine xa_iast (k := 16 + k) (f := km_w w k) (x := (((km_z1 (km_w w k (16 + k - 2))) + ((km_w w k) (16 + k - 7))) + (km_z0 (km_w w k (16 + k - 15)))) + ((km_w w k) (16 + k - 16))) hx hb hK hP hD hS 1 0 rfl rfl (by omega) (by omega) d_Summer_spreadWords_58 (fun H locs hP hD hS => ?_)
    have hP : va_P G classes [(q0, .inr (1, [.ref q1, .ref q2, .int tk])), (q2, .inl (cI, 64, .inl (upd (km_w w k) (16 + k) ((((km_z1 (km_w w k (16 + k - 2))) + ((km_w w k) (16 + k - 7))) + (km_z0 (km_w w k (16 + k - 15)))) + ((km_w w k) (16 + k - 16))))))] H := hP
    have hD : va_D A [(q0, .inr (1, [.ref q1, .ref q2, .int tk])), (q2, .inl (cI, 64, .inl (upd (km_w w k) (16 + k) ((((km_z1 (km_w w k (16 + k - 2))) + ((km_w w k) (16 + k - 7))) + (km_z0 (km_w w k (16 + k - 15)))) + ((km_w w k) (16 + k - 16))))))] := hD
    have hP := xp_fun hP 1 (km_w w (k + 1)) rfl (fun j _ => km_w_step w k j)
    have hD := hD.set (p := 1) (e := .inl (cI, 64, .inl (km_w w (k + 1)))) rfl
    have hP : va_P G classes [(q0, .inr (1, [.ref q1, .ref q2, .int tk])), (q2, .inl (cI, 64, .inl (km_w w (k + 1))))] H := hP
    have hD : va_D A [(q0, .inr (1, [.ref q1, .ref q2, .int tk])), (q2, .inl (cI, 64, .inl (km_w w (k + 1))))] := hD
    refine lv_iinc (k := 0) (v := nI (16 + k + 1)) (lv' := [(1, .int (nI (16 + k + 1))), (0, .ref q0)]) hx hb d_Summer_spreadWords_59 hl rfl (nI_1 (16 + k)) (by decide) rfl (fun ls hl => ?_)
    refine lv_goto (tgt := 3) hx hb d_Summer_spreadWords_62 (by decide) ?_
    exact ih3 _ (by omega) _ _ _ ⟨k + 1, rfl, lv_sub hl [0, 1] rfl, hP, hD, hS, by omega⟩
end
section
/-! Summer -/
set_option maxHeartbeats 4000000 in
set_option maxRecDepth 100000 in
theorem c_mixW (l : Launch) (G : va_G) (cI cB : ClassId) (tK tH sz : Nat) (q0 q1 q2 : Nat) (f w : Nat → Int32) (tk : Int32)  : xMv l G cI cB tK tH y_Summer_mixWords b_Summer_mixWords 12 none ({ frames := 2, cells := 0, slots := 0, locals := 41 }) [.ref q0] sz [(q0, .inr (1, [.ref q1, .ref q2, .int tk])), (q1, .inl (cI, 8, .inl f)), (q2, .inl (cI, 64, .inl w))] (fun _ => True) (fun u : Unit => [(q0, .inr (1, [.ref q1, .ref q2, .int tk])), (q1, .inl (cI, 8, .inl (fun j => f j + km_r w f 64 j))), (q2, .inl (cI, 64, .inl w))]) := by
  refine xMv.of (lv := [(0, .ref q0)]) (by decide) (Nat.le_of_ble_eq_true rfl) rfl ?_
  intro pp ee ss mm bel met cod A ls H locs hx hb hml hr hlk hts hown hnm hA hK hst hP hD hS hl
  have hown : ss.vm.findClass R_Summer = some mm.cls := hown
  refine lv_aload_n hx hb d_Summer_mixWords_0 rfl (lv_at hl 0 rfl) ?_
  refine va_get (D := G) (ci := 1) (v := .ref q1) (C := R_Summer) (T := F_Summer) (N := 3) hx hb hts hi_Summer hown hK hP 0 rfl rfl 0 (by decide) (hts _ tw_39) (fun _ h9 => h9) rfl d_Summer_mixWords_1 ?_
  refine lv_iconst (v := 0) hx hb d_Summer_mixWords_4 (by decide) ?_
  refine xa_iald (k := 0) (f := f) hx hb hK hP 1 0 rfl rfl (by omega) (by omega) d_Summer_mixWords_5 ?_
  refine lv_istore_n (lv' := [(1, .int (f 0)), (0, .ref q0)]) hx hb d_Summer_mixWords_6 rfl hl (by decide) rfl (fun ls hl => ?_)
  refine lv_aload_n hx hb d_Summer_mixWords_7 rfl (lv_at hl 1 rfl) ?_
  refine va_get (D := G) (ci := 1) (v := .ref q1) (C := R_Summer) (T := F_Summer) (N := 3) hx hb hts hi_Summer hown hK hP 0 rfl rfl 0 (by decide) (hts _ tw_39) (fun _ h9 => h9) rfl d_Summer_mixWords_8 ?_
  refine lv_iconst (v := 1) hx hb d_Summer_mixWords_11 (by decide) ?_
  refine xa_iald (k := 1) (f := f) hx hb hK hP 1 0 rfl rfl (by omega) (by omega) d_Summer_mixWords_12 ?_
  refine lv_istore_n (lv' := [(2, .int (f 1)), (1, .int (f 0)), (0, .ref q0)]) hx hb d_Summer_mixWords_13 rfl hl (by decide) rfl (fun ls hl => ?_)
  refine lv_aload_n hx hb d_Summer_mixWords_14 rfl (lv_at hl 2 rfl) ?_
  refine va_get (D := G) (ci := 1) (v := .ref q1) (C := R_Summer) (T := F_Summer) (N := 3) hx hb hts hi_Summer hown hK hP 0 rfl rfl 0 (by decide) (hts _ tw_39) (fun _ h9 => h9) rfl d_Summer_mixWords_15 ?_
  refine lv_iconst (v := 2) hx hb d_Summer_mixWords_18 (by decide) ?_
  refine xa_iald (k := 2) (f := f) hx hb hK hP 1 0 rfl rfl (by omega) (by omega) d_Summer_mixWords_19 ?_
  refine lv_istore_n (lv' := [(3, .int (f 2)), (2, .int (f 1)), (1, .int (f 0)), (0, .ref q0)]) hx hb d_Summer_mixWords_20 rfl hl (by decide) rfl (fun ls hl => ?_)
  refine lv_aload_n hx hb d_Summer_mixWords_21 rfl (lv_at hl 3 rfl) ?_
  refine va_get (D := G) (ci := 1) (v := .ref q1) (C := R_Summer) (T := F_Summer) (N := 3) hx hb hts hi_Summer hown hK hP 0 rfl rfl 0 (by decide) (hts _ tw_39) (fun _ h9 => h9) rfl d_Summer_mixWords_22 ?_
  refine lv_iconst (v := 3) hx hb d_Summer_mixWords_25 (by decide) ?_
  refine xa_iald (k := 3) (f := f) hx hb hK hP 1 0 rfl rfl (by omega) (by omega) d_Summer_mixWords_26 ?_
  refine lv_istore (lv' := [(4, .int (f 3)), (3, .int (f 2)), (2, .int (f 1)), (1, .int (f 0)), (0, .ref q0)]) hx hb d_Summer_mixWords_27 hl (by decide) rfl (fun ls hl => ?_)
  refine lv_aload_n hx hb d_Summer_mixWords_29 rfl (lv_at hl 4 rfl) ?_
  refine va_get (D := G) (ci := 1) (v := .ref q1) (C := R_Summer) (T := F_Summer) (N := 3) hx hb hts hi_Summer hown hK hP 0 rfl rfl 0 (by decide) (hts _ tw_39) (fun _ h9 => h9) rfl d_Summer_mixWords_30 ?_
  refine lv_iconst (v := 4) hx hb d_Summer_mixWords_33 (by decide) ?_
  refine xa_iald (k := 4) (f := f) hx hb hK hP 1 0 rfl rfl (by omega) (by omega) d_Summer_mixWords_34 ?_
  refine lv_istore (lv' := [(5, .int (f 4)), (4, .int (f 3)), (3, .int (f 2)), (2, .int (f 1)), (1, .int (f 0)), (0, .ref q0)]) hx hb d_Summer_mixWords_35 hl (by decide) rfl (fun ls hl => ?_)
  refine lv_aload_n hx hb d_Summer_mixWords_37 rfl (lv_at hl 5 rfl) ?_
  refine va_get (D := G) (ci := 1) (v := .ref q1) (C := R_Summer) (T := F_Summer) (N := 3) hx hb hts hi_Summer hown hK hP 0 rfl rfl 0 (by decide) (hts _ tw_39) (fun _ h9 => h9) rfl d_Summer_mixWords_38 ?_
  refine lv_iconst (v := 5) hx hb d_Summer_mixWords_41 (by decide) ?_
  refine xa_iald (k := 5) (f := f) hx hb hK hP 1 0 rfl rfl (by omega) (by omega) d_Summer_mixWords_42 ?_
  refine lv_istore (lv' := [(6, .int (f 5)), (5, .int (f 4)), (4, .int (f 3)), (3, .int (f 2)), (2, .int (f 1)), (1, .int (f 0)), (0, .ref q0)]) hx hb d_Summer_mixWords_43 hl (by decide) rfl (fun ls hl => ?_)
  refine lv_aload_n hx hb d_Summer_mixWords_45 rfl (lv_at hl 6 rfl) ?_
  refine va_get (D := G) (ci := 1) (v := .ref q1) (C := R_Summer) (T := F_Summer) (N := 3) hx hb hts hi_Summer hown hK hP 0 rfl rfl 0 (by decide) (hts _ tw_39) (fun _ h9 => h9) rfl d_Summer_mixWords_46 ?_
  refine lv_bipush (v := 6) hx hb d_Summer_mixWords_49 (by decide) ?_
  refine xa_iald (k := 6) (f := f) hx hb hK hP 1 0 rfl rfl (by omega) (by omega) d_Summer_mixWords_51 ?_
  refine lv_istore (lv' := [(7, .int (f 6)), (6, .int (f 5)), (5, .int (f 4)), (4, .int (f 3)), (3, .int (f 2)), (2, .int (f 1)), (1, .int (f 0)), (0, .ref q0)]) hx hb d_Summer_mixWords_52 hl (by decide) rfl (fun ls hl => ?_)
  refine lv_aload_n hx hb d_Summer_mixWords_54 rfl (lv_at hl 7 rfl) ?_
  refine va_get (D := G) (ci := 1) (v := .ref q1) (C := R_Summer) (T := F_Summer) (N := 3) hx hb hts hi_Summer hown hK hP 0 rfl rfl 0 (by decide) (hts _ tw_39) (fun _ h9 => h9) rfl d_Summer_mixWords_55 ?_
  refine lv_bipush (v := 7) hx hb d_Summer_mixWords_58 (by decide) ?_
  refine xa_iald (k := 7) (f := f) hx hb hK hP 1 0 rfl rfl (by omega) (by omega) d_Summer_mixWords_60 ?_
  refine lv_istore (lv' := [(8, .int (f 7)), (7, .int (f 6)), (6, .int (f 5)), (5, .int (f 4)), (4, .int (f 3)), (3, .int (f 2)), (2, .int (f 1)), (1, .int (f 0)), (0, .ref q0)]) hx hb d_Summer_mixWords_61 hl (by decide) rfl (fun ls hl => ?_)
  refine lv_iconst (v := 0) hx hb d_Summer_mixWords_63 (by decide) ?_
  refine lv_istore (lv' := [(9, .int 0), (8, .int (f 7)), (7, .int (f 6)), (6, .int (f 5)), (5, .int (f 4)), (4, .int (f 3)), (3, .int (f 2)), (2, .int (f 1)), (1, .int (f 0)), (0, .ref q0)]) hx hb d_Summer_mixWords_64 hl (by decide) rfl (fun ls hl => ?_)
  refine xl (pc := 66) (I := fun NN ls H locs => ∃ (t : Nat), 64 - t = NN ∧ lv_has ls 12 [(9, .int (nI t)), (1, .int (km_r w f t 0)), (2, .int (km_r w f t 1)), (3, .int (km_r w f t 2)), (4, .int (km_r w f t 3)), (5, .int (km_r w f t 4)), (6, .int (km_r w f t 5)), (7, .int (km_r w f t 6)), (8, .int (km_r w f t 7)), (0, .ref q0)] ∧ va_P G classes [(q0, .inr (1, [.ref q1, .ref q2, .int tk])), (q1, .inl (cI, 8, .inl f)), (q2, .inl (cI, 64, .inl w))] H ∧ va_D A [(q0, .inr (1, [.ref q1, .ref q2, .int tk])), (q1, .inl (cI, 8, .inl f)), (q2, .inl (cI, 64, .inl w))] ∧ va_S A ss.heap H locs ∧ (t ≤ 64)) [] ?_ _ _ _ _ ⟨0, rfl, lv_sub hl [0, 8, 7, 6, 5, 4, 3, 2, 1, 9] rfl, hP, hD, hS, by omega⟩
  intro NN ih66 ls H locs hI
  obtain ⟨t, hN, hl, hP, hD, hS, ht⟩ := hI
  refine lv_iload hx hb d_Summer_mixWords_66 (lv_at hl 0 rfl) ?_
  refine lv_bipush (v := 64) hx hb d_Summer_mixWords_68 (by decide) ?_
  refine lv_icmp_ge (tgt := 168) hx hb d_Summer_mixWords_70 (by decide) (fun hc1 => ?_) (fun hc1 => ?_)
  · have hc1 : 64 ≤ t := (nI_leI (a := 64) (b := t) (by omega) (by omega)).mp hc1
    obtain rfl : t = 64 := by omega
    refine lv_aload_n hx hb d_Summer_mixWords_168 rfl (lv_at hl 9 rfl) ?_
    refine va_get (D := G) (ci := 1) (v := .ref q1) (C := R_Summer) (T := F_Summer) (N := 3) hx hb hts hi_Summer hown hK hP 0 rfl rfl 0 (by decide) (hts _ tw_39) (fun _ h9 => h9) rfl d_Summer_mixWords_169 ?_
    refine lv_iconst (v := 0) hx hb d_Summer_mixWords_172 (by decide) ?_
    refine lv_dup2_11 hx hb d_Summer_mixWords_173 rfl rfl ?_
    refine xa_iald (k := 0) (f := f) hx hb hK hP 1 0 rfl rfl (by omega) (by omega) d_Summer_mixWords_174 ?_
    refine lv_iload_n hx hb d_Summer_mixWords_175 rfl (lv_at hl 1 rfl) ?_
    refine lv_iadd hx hb d_Summer_mixWords_176 ?_
    refine xa_iast (k := 0) (f := f) (x := (f 0) + (km_r w f 64 0)) hx hb hK hP hD hS 1 0 rfl rfl (by omega) (by omega) d_Summer_mixWords_177 (fun H locs hP hD hS => ?_)
    have hP : va_P G classes [(q0, .inr (1, [.ref q1, .ref q2, .int tk])), (q1, .inl (cI, 8, .inl (upd f 0 ((f 0) + (km_r w f 64 0))))), (q2, .inl (cI, 64, .inl w))] H := hP
    have hD : va_D A [(q0, .inr (1, [.ref q1, .ref q2, .int tk])), (q1, .inl (cI, 8, .inl (upd f 0 ((f 0) + (km_r w f 64 0))))), (q2, .inl (cI, 64, .inl w))] := hD
    refine lv_aload_n hx hb d_Summer_mixWords_178 rfl (lv_at hl 9 rfl) ?_
    refine va_get (D := G) (ci := 1) (v := .ref q1) (C := R_Summer) (T := F_Summer) (N := 3) hx hb hts hi_Summer hown hK hP 0 rfl rfl 0 (by decide) (hts _ tw_39) (fun _ h9 => h9) rfl d_Summer_mixWords_179 ?_
    refine lv_iconst (v := 1) hx hb d_Summer_mixWords_182 (by decide) ?_
    refine lv_dup2_11 hx hb d_Summer_mixWords_183 rfl rfl ?_
    refine xa_iald (k := 1) (f := upd f 0 ((f 0) + (km_r w f 64 0))) hx hb hK hP 1 0 rfl rfl (by omega) (by omega) d_Summer_mixWords_184 ?_
    refine lv_iload_n hx hb d_Summer_mixWords_185 rfl (lv_at hl 2 rfl) ?_
    refine lv_iadd hx hb d_Summer_mixWords_186 ?_
    refine xa_iast (k := 1) (f := upd f 0 ((f 0) + (km_r w f 64 0))) (x := ((upd f 0 ((f 0) + (km_r w f 64 0))) 1) + (km_r w f 64 1)) hx hb hK hP hD hS 1 0 rfl rfl (by omega) (by omega) d_Summer_mixWords_187 (fun H locs hP hD hS => ?_)
    have hP : va_P G classes [(q0, .inr (1, [.ref q1, .ref q2, .int tk])), (q1, .inl (cI, 8, .inl (upd (upd f 0 ((f 0) + (km_r w f 64 0))) 1 (((upd f 0 ((f 0) + (km_r w f 64 0))) 1) + (km_r w f 64 1))))), (q2, .inl (cI, 64, .inl w))] H := hP
    have hD : va_D A [(q0, .inr (1, [.ref q1, .ref q2, .int tk])), (q1, .inl (cI, 8, .inl (upd (upd f 0 ((f 0) + (km_r w f 64 0))) 1 (((upd f 0 ((f 0) + (km_r w f 64 0))) 1) + (km_r w f 64 1))))), (q2, .inl (cI, 64, .inl w))] := hD
    refine lv_aload_n hx hb d_Summer_mixWords_188 rfl (lv_at hl 9 rfl) ?_
    refine va_get (D := G) (ci := 1) (v := .ref q1) (C := R_Summer) (T := F_Summer) (N := 3) hx hb hts hi_Summer hown hK hP 0 rfl rfl 0 (by decide) (hts _ tw_39) (fun _ h9 => h9) rfl d_Summer_mixWords_189 ?_
    refine lv_iconst (v := 2) hx hb d_Summer_mixWords_192 (by decide) ?_
    refine lv_dup2_11 hx hb d_Summer_mixWords_193 rfl rfl ?_
    refine xa_iald (k := 2) (f := upd (upd f 0 ((f 0) + (km_r w f 64 0))) 1 (((upd f 0 ((f 0) + (km_r w f 64 0))) 1) + (km_r w f 64 1))) hx hb hK hP 1 0 rfl rfl (by omega) (by omega) d_Summer_mixWords_194 ?_
    refine lv_iload_n hx hb d_Summer_mixWords_195 rfl (lv_at hl 3 rfl) ?_
    refine lv_iadd hx hb d_Summer_mixWords_196 ?_
    refine xa_iast (k := 2) (f := upd (upd f 0 ((f 0) + (km_r w f 64 0))) 1 (((upd f 0 ((f 0) + (km_r w f 64 0))) 1) + (km_r w f 64 1))) (x := ((upd (upd f 0 ((f 0) + (km_r w f 64 0))) 1 (((upd f 0 ((f 0) + (km_r w f 64 0))) 1) + (km_r w f 64 1))) 2) + (km_r w f 64 2)) hx hb hK hP hD hS 1 0 rfl rfl (by omega) (by omega) d_Summer_mixWords_197 (fun H locs hP hD hS => ?_)
    have hP : va_P G classes [(q0, .inr (1, [.ref q1, .ref q2, .int tk])), (q1, .inl (cI, 8, .inl (upd (upd (upd f 0 ((f 0) + (km_r w f 64 0))) 1 (((upd f 0 ((f 0) + (km_r w f 64 0))) 1) + (km_r w f 64 1))) 2 (((upd (upd f 0 ((f 0) + (km_r w f 64 0))) 1 (((upd f 0 ((f 0) + (km_r w f 64 0))) 1) + (km_r w f 64 1))) 2) + (km_r w f 64 2))))), (q2, .inl (cI, 64, .inl w))] H := hP
    have hD : va_D A [(q0, .inr (1, [.ref q1, .ref q2, .int tk])), (q1, .inl (cI, 8, .inl (upd (upd (upd f 0 ((f 0) + (km_r w f 64 0))) 1 (((upd f 0 ((f 0) + (km_r w f 64 0))) 1) + (km_r w f 64 1))) 2 (((upd (upd f 0 ((f 0) + (km_r w f 64 0))) 1 (((upd f 0 ((f 0) + (km_r w f 64 0))) 1) + (km_r w f 64 1))) 2) + (km_r w f 64 2))))), (q2, .inl (cI, 64, .inl w))] := hD
    refine lv_aload_n hx hb d_Summer_mixWords_198 rfl (lv_at hl 9 rfl) ?_
    refine va_get (D := G) (ci := 1) (v := .ref q1) (C := R_Summer) (T := F_Summer) (N := 3) hx hb hts hi_Summer hown hK hP 0 rfl rfl 0 (by decide) (hts _ tw_39) (fun _ h9 => h9) rfl d_Summer_mixWords_199 ?_
    refine lv_iconst (v := 3) hx hb d_Summer_mixWords_202 (by decide) ?_
    refine lv_dup2_11 hx hb d_Summer_mixWords_203 rfl rfl ?_
    refine xa_iald (k := 3) (f := upd (upd (upd f 0 ((f 0) + (km_r w f 64 0))) 1 (((upd f 0 ((f 0) + (km_r w f 64 0))) 1) + (km_r w f 64 1))) 2 (((upd (upd f 0 ((f 0) + (km_r w f 64 0))) 1 (((upd f 0 ((f 0) + (km_r w f 64 0))) 1) + (km_r w f 64 1))) 2) + (km_r w f 64 2))) hx hb hK hP 1 0 rfl rfl (by omega) (by omega) d_Summer_mixWords_204 ?_
    refine lv_iload hx hb d_Summer_mixWords_205 (lv_at hl 4 rfl) ?_
    refine lv_iadd hx hb d_Summer_mixWords_207 ?_
    refine xa_iast (k := 3) (f := upd (upd (upd f 0 ((f 0) + (km_r w f 64 0))) 1 (((upd f 0 ((f 0) + (km_r w f 64 0))) 1) + (km_r w f 64 1))) 2 (((upd (upd f 0 ((f 0) + (km_r w f 64 0))) 1 (((upd f 0 ((f 0) + (km_r w f 64 0))) 1) + (km_r w f 64 1))) 2) + (km_r w f 64 2))) (x := ((upd (upd (upd f 0 ((f 0) + (km_r w f 64 0))) 1 (((upd f 0 ((f 0) + (km_r w f 64 0))) 1) + (km_r w f 64 1))) 2 (((upd (upd f 0 ((f 0) + (km_r w f 64 0))) 1 (((upd f 0 ((f 0) + (km_r w f 64 0))) 1) + (km_r w f 64 1))) 2) + (km_r w f 64 2))) 3) + (km_r w f 64 3)) hx hb hK hP hD hS 1 0 rfl rfl (by omega) (by omega) d_Summer_mixWords_208 (fun H locs hP hD hS => ?_)
    have hP : va_P G classes [(q0, .inr (1, [.ref q1, .ref q2, .int tk])), (q1, .inl (cI, 8, .inl (upd (upd (upd (upd f 0 ((f 0) + (km_r w f 64 0))) 1 (((upd f 0 ((f 0) + (km_r w f 64 0))) 1) + (km_r w f 64 1))) 2 (((upd (upd f 0 ((f 0) + (km_r w f 64 0))) 1 (((upd f 0 ((f 0) + (km_r w f 64 0))) 1) + (km_r w f 64 1))) 2) + (km_r w f 64 2))) 3 (((upd (upd (upd f 0 ((f 0) + (km_r w f 64 0))) 1 (((upd f 0 ((f 0) + (km_r w f 64 0))) 1) + (km_r w f 64 1))) 2 (((upd (upd f 0 ((f 0) + (km_r w f 64 0))) 1 (((upd f 0 ((f 0) + (km_r w f 64 0))) 1) + (km_r w f 64 1))) 2) + (km_r w f 64 2))) 3) + (km_r w f 64 3))))), (q2, .inl (cI, 64, .inl w))] H := hP
    have hD : va_D A [(q0, .inr (1, [.ref q1, .ref q2, .int tk])), (q1, .inl (cI, 8, .inl (upd (upd (upd (upd f 0 ((f 0) + (km_r w f 64 0))) 1 (((upd f 0 ((f 0) + (km_r w f 64 0))) 1) + (km_r w f 64 1))) 2 (((upd (upd f 0 ((f 0) + (km_r w f 64 0))) 1 (((upd f 0 ((f 0) + (km_r w f 64 0))) 1) + (km_r w f 64 1))) 2) + (km_r w f 64 2))) 3 (((upd (upd (upd f 0 ((f 0) + (km_r w f 64 0))) 1 (((upd f 0 ((f 0) + (km_r w f 64 0))) 1) + (km_r w f 64 1))) 2 (((upd (upd f 0 ((f 0) + (km_r w f 64 0))) 1 (((upd f 0 ((f 0) + (km_r w f 64 0))) 1) + (km_r w f 64 1))) 2) + (km_r w f 64 2))) 3) + (km_r w f 64 3))))), (q2, .inl (cI, 64, .inl w))] := hD
    refine lv_aload_n hx hb d_Summer_mixWords_209 rfl (lv_at hl 9 rfl) ?_
    refine va_get (D := G) (ci := 1) (v := .ref q1) (C := R_Summer) (T := F_Summer) (N := 3) hx hb hts hi_Summer hown hK hP 0 rfl rfl 0 (by decide) (hts _ tw_39) (fun _ h9 => h9) rfl d_Summer_mixWords_210 ?_
    refine lv_iconst (v := 4) hx hb d_Summer_mixWords_213 (by decide) ?_
    refine lv_dup2_11 hx hb d_Summer_mixWords_214 rfl rfl ?_
    refine xa_iald (k := 4) (f := upd (upd (upd (upd f 0 ((f 0) + (km_r w f 64 0))) 1 (((upd f 0 ((f 0) + (km_r w f 64 0))) 1) + (km_r w f 64 1))) 2 (((upd (upd f 0 ((f 0) + (km_r w f 64 0))) 1 (((upd f 0 ((f 0) + (km_r w f 64 0))) 1) + (km_r w f 64 1))) 2) + (km_r w f 64 2))) 3 (((upd (upd (upd f 0 ((f 0) + (km_r w f 64 0))) 1 (((upd f 0 ((f 0) + (km_r w f 64 0))) 1) + (km_r w f 64 1))) 2 (((upd (upd f 0 ((f 0) + (km_r w f 64 0))) 1 (((upd f 0 ((f 0) + (km_r w f 64 0))) 1) + (km_r w f 64 1))) 2) + (km_r w f 64 2))) 3) + (km_r w f 64 3))) hx hb hK hP 1 0 rfl rfl (by omega) (by omega) d_Summer_mixWords_215 ?_
    refine lv_iload hx hb d_Summer_mixWords_216 (lv_at hl 5 rfl) ?_
    refine lv_iadd hx hb d_Summer_mixWords_218 ?_
    refine xa_iast (k := 4) (f := upd (upd (upd (upd f 0 ((f 0) + (km_r w f 64 0))) 1 (((upd f 0 ((f 0) + (km_r w f 64 0))) 1) + (km_r w f 64 1))) 2 (((upd (upd f 0 ((f 0) + (km_r w f 64 0))) 1 (((upd f 0 ((f 0) + (km_r w f 64 0))) 1) + (km_r w f 64 1))) 2) + (km_r w f 64 2))) 3 (((upd (upd (upd f 0 ((f 0) + (km_r w f 64 0))) 1 (((upd f 0 ((f 0) + (km_r w f 64 0))) 1) + (km_r w f 64 1))) 2 (((upd (upd f 0 ((f 0) + (km_r w f 64 0))) 1 (((upd f 0 ((f 0) + (km_r w f 64 0))) 1) + (km_r w f 64 1))) 2) + (km_r w f 64 2))) 3) + (km_r w f 64 3))) (x := ((upd (upd (upd (upd f 0 ((f 0) + (km_r w f 64 0))) 1 (((upd f 0 ((f 0) + (km_r w f 64 0))) 1) + (km_r w f 64 1))) 2 (((upd (upd f 0 ((f 0) + (km_r w f 64 0))) 1 (((upd f 0 ((f 0) + (km_r w f 64 0))) 1) + (km_r w f 64 1))) 2) + (km_r w f 64 2))) 3 (((upd (upd (upd f 0 ((f 0) + (km_r w f 64 0))) 1 (((upd f 0 ((f 0) + (km_r w f 64 0))) 1) + (km_r w f 64 1))) 2 (((upd (upd f 0 ((f 0) + (km_r w f 64 0))) 1 (((upd f 0 ((f 0) + (km_r w f 64 0))) 1) + (km_r w f 64 1))) 2) + (km_r w f 64 2))) 3) + (km_r w f 64 3))) 4) + (km_r w f 64 4)) hx hb hK hP hD hS 1 0 rfl rfl (by omega) (by omega) d_Summer_mixWords_219 (fun H locs hP hD hS => ?_)
    have hP : va_P G classes [(q0, .inr (1, [.ref q1, .ref q2, .int tk])), (q1, .inl (cI, 8, .inl (upd (upd (upd (upd (upd f 0 ((f 0) + (km_r w f 64 0))) 1 (((upd f 0 ((f 0) + (km_r w f 64 0))) 1) + (km_r w f 64 1))) 2 (((upd (upd f 0 ((f 0) + (km_r w f 64 0))) 1 (((upd f 0 ((f 0) + (km_r w f 64 0))) 1) + (km_r w f 64 1))) 2) + (km_r w f 64 2))) 3 (((upd (upd (upd f 0 ((f 0) + (km_r w f 64 0))) 1 (((upd f 0 ((f 0) + (km_r w f 64 0))) 1) + (km_r w f 64 1))) 2 (((upd (upd f 0 ((f 0) + (km_r w f 64 0))) 1 (((upd f 0 ((f 0) + (km_r w f 64 0))) 1) + (km_r w f 64 1))) 2) + (km_r w f 64 2))) 3) + (km_r w f 64 3))) 4 (((upd (upd (upd (upd f 0 ((f 0) + (km_r w f 64 0))) 1 (((upd f 0 ((f 0) + (km_r w f 64 0))) 1) + (km_r w f 64 1))) 2 (((upd (upd f 0 ((f 0) + (km_r w f 64 0))) 1 (((upd f 0 ((f 0) + (km_r w f 64 0))) 1) + (km_r w f 64 1))) 2) + (km_r w f 64 2))) 3 (((upd (upd (upd f 0 ((f 0) + (km_r w f 64 0))) 1 (((upd f 0 ((f 0) + (km_r w f 64 0))) 1) + (km_r w f 64 1))) 2 (((upd (upd f 0 ((f 0) + (km_r w f 64 0))) 1 (((upd f 0 ((f 0) + (km_r w f 64 0))) 1) + (km_r w f 64 1))) 2) + (km_r w f 64 2))) 3) + (km_r w f 64 3))) 4) + (km_r w f 64 4))))), (q2, .inl (cI, 64, .inl w))] H := hP
    have hD : va_D A [(q0, .inr (1, [.ref q1, .ref q2, .int tk])), (q1, .inl (cI, 8, .inl (upd (upd (upd (upd (upd f 0 ((f 0) + (km_r w f 64 0))) 1 (((upd f 0 ((f 0) + (km_r w f 64 0))) 1) + (km_r w f 64 1))) 2 (((upd (upd f 0 ((f 0) + (km_r w f 64 0))) 1 (((upd f 0 ((f 0) + (km_r w f 64 0))) 1) + (km_r w f 64 1))) 2) + (km_r w f 64 2))) 3 (((upd (upd (upd f 0 ((f 0) + (km_r w f 64 0))) 1 (((upd f 0 ((f 0) + (km_r w f 64 0))) 1) + (km_r w f 64 1))) 2 (((upd (upd f 0 ((f 0) + (km_r w f 64 0))) 1 (((upd f 0 ((f 0) + (km_r w f 64 0))) 1) + (km_r w f 64 1))) 2) + (km_r w f 64 2))) 3) + (km_r w f 64 3))) 4 (((upd (upd (upd (upd f 0 ((f 0) + (km_r w f 64 0))) 1 (((upd f 0 ((f 0) + (km_r w f 64 0))) 1) + (km_r w f 64 1))) 2 (((upd (upd f 0 ((f 0) + (km_r w f 64 0))) 1 (((upd f 0 ((f 0) + (km_r w f 64 0))) 1) + (km_r w f 64 1))) 2) + (km_r w f 64 2))) 3 (((upd (upd (upd f 0 ((f 0) + (km_r w f 64 0))) 1 (((upd f 0 ((f 0) + (km_r w f 64 0))) 1) + (km_r w f 64 1))) 2 (((upd (upd f 0 ((f 0) + (km_r w f 64 0))) 1 (((upd f 0 ((f 0) + (km_r w f 64 0))) 1) + (km_r w f 64 1))) 2) + (km_r w f 64 2))) 3) + (km_r w f 64 3))) 4) + (km_r w f 64 4))))), (q2, .inl (cI, 64, .inl w))] := hD
    refine lv_aload_n hx hb d_Summer_mixWords_220 rfl (lv_at hl 9 rfl) ?_
    refine va_get (D := G) (ci := 1) (v := .ref q1) (C := R_Summer) (T := F_Summer) (N := 3) hx hb hts hi_Summer hown hK hP 0 rfl rfl 0 (by decide) (hts _ tw_39) (fun _ h9 => h9) rfl d_Summer_mixWords_221 ?_
    refine lv_iconst (v := 5) hx hb d_Summer_mixWords_224 (by decide) ?_
    refine lv_dup2_11 hx hb d_Summer_mixWords_225 rfl rfl ?_
    refine xa_iald (k := 5) (f := upd (upd (upd (upd (upd f 0 ((f 0) + (km_r w f 64 0))) 1 (((upd f 0 ((f 0) + (km_r w f 64 0))) 1) + (km_r w f 64 1))) 2 (((upd (upd f 0 ((f 0) + (km_r w f 64 0))) 1 (((upd f 0 ((f 0) + (km_r w f 64 0))) 1) + (km_r w f 64 1))) 2) + (km_r w f 64 2))) 3 (((upd (upd (upd f 0 ((f 0) + (km_r w f 64 0))) 1 (((upd f 0 ((f 0) + (km_r w f 64 0))) 1) + (km_r w f 64 1))) 2 (((upd (upd f 0 ((f 0) + (km_r w f 64 0))) 1 (((upd f 0 ((f 0) + (km_r w f 64 0))) 1) + (km_r w f 64 1))) 2) + (km_r w f 64 2))) 3) + (km_r w f 64 3))) 4 (((upd (upd (upd (upd f 0 ((f 0) + (km_r w f 64 0))) 1 (((upd f 0 ((f 0) + (km_r w f 64 0))) 1) + (km_r w f 64 1))) 2 (((upd (upd f 0 ((f 0) + (km_r w f 64 0))) 1 (((upd f 0 ((f 0) + (km_r w f 64 0))) 1) + (km_r w f 64 1))) 2) + (km_r w f 64 2))) 3 (((upd (upd (upd f 0 ((f 0) + (km_r w f 64 0))) 1 (((upd f 0 ((f 0) + (km_r w f 64 0))) 1) + (km_r w f 64 1))) 2 (((upd (upd f 0 ((f 0) + (km_r w f 64 0))) 1 (((upd f 0 ((f 0) + (km_r w f 64 0))) 1) + (km_r w f 64 1))) 2) + (km_r w f 64 2))) 3) + (km_r w f 64 3))) 4) + (km_r w f 64 4))) hx hb hK hP 1 0 rfl rfl (by omega) (by omega) d_Summer_mixWords_226 ?_
    refine lv_iload hx hb d_Summer_mixWords_227 (lv_at hl 6 rfl) ?_
    refine lv_iadd hx hb d_Summer_mixWords_229 ?_
    refine xa_iast (k := 5) (f := upd (upd (upd (upd (upd f 0 ((f 0) + (km_r w f 64 0))) 1 (((upd f 0 ((f 0) + (km_r w f 64 0))) 1) + (km_r w f 64 1))) 2 (((upd (upd f 0 ((f 0) + (km_r w f 64 0))) 1 (((upd f 0 ((f 0) + (km_r w f 64 0))) 1) + (km_r w f 64 1))) 2) + (km_r w f 64 2))) 3 (((upd (upd (upd f 0 ((f 0) + (km_r w f 64 0))) 1 (((upd f 0 ((f 0) + (km_r w f 64 0))) 1) + (km_r w f 64 1))) 2 (((upd (upd f 0 ((f 0) + (km_r w f 64 0))) 1 (((upd f 0 ((f 0) + (km_r w f 64 0))) 1) + (km_r w f 64 1))) 2) + (km_r w f 64 2))) 3) + (km_r w f 64 3))) 4 (((upd (upd (upd (upd f 0 ((f 0) + (km_r w f 64 0))) 1 (((upd f 0 ((f 0) + (km_r w f 64 0))) 1) + (km_r w f 64 1))) 2 (((upd (upd f 0 ((f 0) + (km_r w f 64 0))) 1 (((upd f 0 ((f 0) + (km_r w f 64 0))) 1) + (km_r w f 64 1))) 2) + (km_r w f 64 2))) 3 (((upd (upd (upd f 0 ((f 0) + (km_r w f 64 0))) 1 (((upd f 0 ((f 0) + (km_r w f 64 0))) 1) + (km_r w f 64 1))) 2 (((upd (upd f 0 ((f 0) + (km_r w f 64 0))) 1 (((upd f 0 ((f 0) + (km_r w f 64 0))) 1) + (km_r w f 64 1))) 2) + (km_r w f 64 2))) 3) + (km_r w f 64 3))) 4) + (km_r w f 64 4))) (x := ((upd (upd (upd (upd (upd f 0 ((f 0) + (km_r w f 64 0))) 1 (((upd f 0 ((f 0) + (km_r w f 64 0))) 1) + (km_r w f 64 1))) 2 (((upd (upd f 0 ((f 0) + (km_r w f 64 0))) 1 (((upd f 0 ((f 0) + (km_r w f 64 0))) 1) + (km_r w f 64 1))) 2) + (km_r w f 64 2))) 3 (((upd (upd (upd f 0 ((f 0) + (km_r w f 64 0))) 1 (((upd f 0 ((f 0) + (km_r w f 64 0))) 1) + (km_r w f 64 1))) 2 (((upd (upd f 0 ((f 0) + (km_r w f 64 0))) 1 (((upd f 0 ((f 0) + (km_r w f 64 0))) 1) + (km_r w f 64 1))) 2) + (km_r w f 64 2))) 3) + (km_r w f 64 3))) 4 (((upd (upd (upd (upd f 0 ((f 0) + (km_r w f 64 0))) 1 (((upd f 0 ((f 0) + (km_r w f 64 0))) 1) + (km_r w f 64 1))) 2 (((upd (upd f 0 ((f 0) + (km_r w f 64 0))) 1 (((upd f 0 ((f 0) + (km_r w f 64 0))) 1) + (km_r w f 64 1))) 2) + (km_r w f 64 2))) 3 (((upd (upd (upd f 0 ((f 0) + (km_r w f 64 0))) 1 (((upd f 0 ((f 0) + (km_r w f 64 0))) 1) + (km_r w f 64 1))) 2 (((upd (upd f 0 ((f 0) + (km_r w f 64 0))) 1 (((upd f 0 ((f 0) + (km_r w f 64 0))) 1) + (km_r w f 64 1))) 2) + (km_r w f 64 2))) 3) + (km_r w f 64 3))) 4) + (km_r w f 64 4))) 5) + (km_r w f 64 5)) hx hb hK hP hD hS 1 0 rfl rfl (by omega) (by omega) d_Summer_mixWords_230 (fun H locs hP hD hS => ?_)
    have hP : va_P G classes [(q0, .inr (1, [.ref q1, .ref q2, .int tk])), (q1, .inl (cI, 8, .inl (upd (upd (upd (upd (upd (upd f 0 ((f 0) + (km_r w f 64 0))) 1 (((upd f 0 ((f 0) + (km_r w f 64 0))) 1) + (km_r w f 64 1))) 2 (((upd (upd f 0 ((f 0) + (km_r w f 64 0))) 1 (((upd f 0 ((f 0) + (km_r w f 64 0))) 1) + (km_r w f 64 1))) 2) + (km_r w f 64 2))) 3 (((upd (upd (upd f 0 ((f 0) + (km_r w f 64 0))) 1 (((upd f 0 ((f 0) + (km_r w f 64 0))) 1) + (km_r w f 64 1))) 2 (((upd (upd f 0 ((f 0) + (km_r w f 64 0))) 1 (((upd f 0 ((f 0) + (km_r w f 64 0))) 1) + (km_r w f 64 1))) 2) + (km_r w f 64 2))) 3) + (km_r w f 64 3))) 4 (((upd (upd (upd (upd f 0 ((f 0) + (km_r w f 64 0))) 1 (((upd f 0 ((f 0) + (km_r w f 64 0))) 1) + (km_r w f 64 1))) 2 (((upd (upd f 0 ((f 0) + (km_r w f 64 0))) 1 (((upd f 0 ((f 0) + (km_r w f 64 0))) 1) + (km_r w f 64 1))) 2) + (km_r w f 64 2))) 3 (((upd (upd (upd f 0 ((f 0) + (km_r w f 64 0))) 1 (((upd f 0 ((f 0) + (km_r w f 64 0))) 1) + (km_r w f 64 1))) 2 (((upd (upd f 0 ((f 0) + (km_r w f 64 0))) 1 (((upd f 0 ((f 0) + (km_r w f 64 0))) 1) + (km_r w f 64 1))) 2) + (km_r w f 64 2))) 3) + (km_r w f 64 3))) 4) + (km_r w f 64 4))) 5 (((upd (upd (upd (upd (upd f 0 ((f 0) + (km_r w f 64 0))) 1 (((upd f 0 ((f 0) + (km_r w f 64 0))) 1) + (km_r w f 64 1))) 2 (((upd (upd f 0 ((f 0) + (km_r w f 64 0))) 1 (((upd f 0 ((f 0) + (km_r w f 64 0))) 1) + (km_r w f 64 1))) 2) + (km_r w f 64 2))) 3 (((upd (upd (upd f 0 ((f 0) + (km_r w f 64 0))) 1 (((upd f 0 ((f 0) + (km_r w f 64 0))) 1) + (km_r w f 64 1))) 2 (((upd (upd f 0 ((f 0) + (km_r w f 64 0))) 1 (((upd f 0 ((f 0) + (km_r w f 64 0))) 1) + (km_r w f 64 1))) 2) + (km_r w f 64 2))) 3) + (km_r w f 64 3))) 4 (((upd (upd (upd (upd f 0 ((f 0) + (km_r w f 64 0))) 1 (((upd f 0 ((f 0) + (km_r w f 64 0))) 1) + (km_r w f 64 1))) 2 (((upd (upd f 0 ((f 0) + (km_r w f 64 0))) 1 (((upd f 0 ((f 0) + (km_r w f 64 0))) 1) + (km_r w f 64 1))) 2) + (km_r w f 64 2))) 3 (((upd (upd (upd f 0 ((f 0) + (km_r w f 64 0))) 1 (((upd f 0 ((f 0) + (km_r w f 64 0))) 1) + (km_r w f 64 1))) 2 (((upd (upd f 0 ((f 0) + (km_r w f 64 0))) 1 (((upd f 0 ((f 0) + (km_r w f 64 0))) 1) + (km_r w f 64 1))) 2) + (km_r w f 64 2))) 3) + (km_r w f 64 3))) 4) + (km_r w f 64 4))) 5) + (km_r w f 64 5))))), (q2, .inl (cI, 64, .inl w))] H := hP
    have hD : va_D A [(q0, .inr (1, [.ref q1, .ref q2, .int tk])), (q1, .inl (cI, 8, .inl (upd (upd (upd (upd (upd (upd f 0 ((f 0) + (km_r w f 64 0))) 1 (((upd f 0 ((f 0) + (km_r w f 64 0))) 1) + (km_r w f 64 1))) 2 (((upd (upd f 0 ((f 0) + (km_r w f 64 0))) 1 (((upd f 0 ((f 0) + (km_r w f 64 0))) 1) + (km_r w f 64 1))) 2) + (km_r w f 64 2))) 3 (((upd (upd (upd f 0 ((f 0) + (km_r w f 64 0))) 1 (((upd f 0 ((f 0) + (km_r w f 64 0))) 1) + (km_r w f 64 1))) 2 (((upd (upd f 0 ((f 0) + (km_r w f 64 0))) 1 (((upd f 0 ((f 0) + (km_r w f 64 0))) 1) + (km_r w f 64 1))) 2) + (km_r w f 64 2))) 3) + (km_r w f 64 3))) 4 (((upd (upd (upd (upd f 0 ((f 0) + (km_r w f 64 0))) 1 (((upd f 0 ((f 0) + (km_r w f 64 0))) 1) + (km_r w f 64 1))) 2 (((upd (upd f 0 ((f 0) + (km_r w f 64 0))) 1 (((upd f 0 ((f 0) + (km_r w f 64 0))) 1) + (km_r w f 64 1))) 2) + (km_r w f 64 2))) 3 (((upd (upd (upd f 0 ((f 0) + (km_r w f 64 0))) 1 (((upd f 0 ((f 0) + (km_r w f 64 0))) 1) + (km_r w f 64 1))) 2 (((upd (upd f 0 ((f 0) + (km_r w f 64 0))) 1 (((upd f 0 ((f 0) + (km_r w f 64 0))) 1) + (km_r w f 64 1))) 2) + (km_r w f 64 2))) 3) + (km_r w f 64 3))) 4) + (km_r w f 64 4))) 5 (((upd (upd (upd (upd (upd f 0 ((f 0) + (km_r w f 64 0))) 1 (((upd f 0 ((f 0) + (km_r w f 64 0))) 1) + (km_r w f 64 1))) 2 (((upd (upd f 0 ((f 0) + (km_r w f 64 0))) 1 (((upd f 0 ((f 0) + (km_r w f 64 0))) 1) + (km_r w f 64 1))) 2) + (km_r w f 64 2))) 3 (((upd (upd (upd f 0 ((f 0) + (km_r w f 64 0))) 1 (((upd f 0 ((f 0) + (km_r w f 64 0))) 1) + (km_r w f 64 1))) 2 (((upd (upd f 0 ((f 0) + (km_r w f 64 0))) 1 (((upd f 0 ((f 0) + (km_r w f 64 0))) 1) + (km_r w f 64 1))) 2) + (km_r w f 64 2))) 3) + (km_r w f 64 3))) 4 (((upd (upd (upd (upd f 0 ((f 0) + (km_r w f 64 0))) 1 (((upd f 0 ((f 0) + (km_r w f 64 0))) 1) + (km_r w f 64 1))) 2 (((upd (upd f 0 ((f 0) + (km_r w f 64 0))) 1 (((upd f 0 ((f 0) + (km_r w f 64 0))) 1) + (km_r w f 64 1))) 2) + (km_r w f 64 2))) 3 (((upd (upd (upd f 0 ((f 0) + (km_r w f 64 0))) 1 (((upd f 0 ((f 0) + (km_r w f 64 0))) 1) + (km_r w f 64 1))) 2 (((upd (upd f 0 ((f 0) + (km_r w f 64 0))) 1 (((upd f 0 ((f 0) + (km_r w f 64 0))) 1) + (km_r w f 64 1))) 2) + (km_r w f 64 2))) 3) + (km_r w f 64 3))) 4) + (km_r w f 64 4))) 5) + (km_r w f 64 5))))), (q2, .inl (cI, 64, .inl w))] := hD
    refine lv_aload_n hx hb d_Summer_mixWords_231 rfl (lv_at hl 9 rfl) ?_
    refine va_get (D := G) (ci := 1) (v := .ref q1) (C := R_Summer) (T := F_Summer) (N := 3) hx hb hts hi_Summer hown hK hP 0 rfl rfl 0 (by decide) (hts _ tw_39) (fun _ h9 => h9) rfl d_Summer_mixWords_232 ?_
    refine lv_bipush (v := 6) hx hb d_Summer_mixWords_235 (by decide) ?_
    refine lv_dup2_11 hx hb d_Summer_mixWords_237 rfl rfl ?_
    refine xa_iald (k := 6) (f := upd (upd (upd (upd (upd (upd f 0 ((f 0) + (km_r w f 64 0))) 1 (((upd f 0 ((f 0) + (km_r w f 64 0))) 1) + (km_r w f 64 1))) 2 (((upd (upd f 0 ((f 0) + (km_r w f 64 0))) 1 (((upd f 0 ((f 0) + (km_r w f 64 0))) 1) + (km_r w f 64 1))) 2) + (km_r w f 64 2))) 3 (((upd (upd (upd f 0 ((f 0) + (km_r w f 64 0))) 1 (((upd f 0 ((f 0) + (km_r w f 64 0))) 1) + (km_r w f 64 1))) 2 (((upd (upd f 0 ((f 0) + (km_r w f 64 0))) 1 (((upd f 0 ((f 0) + (km_r w f 64 0))) 1) + (km_r w f 64 1))) 2) + (km_r w f 64 2))) 3) + (km_r w f 64 3))) 4 (((upd (upd (upd (upd f 0 ((f 0) + (km_r w f 64 0))) 1 (((upd f 0 ((f 0) + (km_r w f 64 0))) 1) + (km_r w f 64 1))) 2 (((upd (upd f 0 ((f 0) + (km_r w f 64 0))) 1 (((upd f 0 ((f 0) + (km_r w f 64 0))) 1) + (km_r w f 64 1))) 2) + (km_r w f 64 2))) 3 (((upd (upd (upd f 0 ((f 0) + (km_r w f 64 0))) 1 (((upd f 0 ((f 0) + (km_r w f 64 0))) 1) + (km_r w f 64 1))) 2 (((upd (upd f 0 ((f 0) + (km_r w f 64 0))) 1 (((upd f 0 ((f 0) + (km_r w f 64 0))) 1) + (km_r w f 64 1))) 2) + (km_r w f 64 2))) 3) + (km_r w f 64 3))) 4) + (km_r w f 64 4))) 5 (((upd (upd (upd (upd (upd f 0 ((f 0) + (km_r w f 64 0))) 1 (((upd f 0 ((f 0) + (km_r w f 64 0))) 1) + (km_r w f 64 1))) 2 (((upd (upd f 0 ((f 0) + (km_r w f 64 0))) 1 (((upd f 0 ((f 0) + (km_r w f 64 0))) 1) + (km_r w f 64 1))) 2) + (km_r w f 64 2))) 3 (((upd (upd (upd f 0 ((f 0) + (km_r w f 64 0))) 1 (((upd f 0 ((f 0) + (km_r w f 64 0))) 1) + (km_r w f 64 1))) 2 (((upd (upd f 0 ((f 0) + (km_r w f 64 0))) 1 (((upd f 0 ((f 0) + (km_r w f 64 0))) 1) + (km_r w f 64 1))) 2) + (km_r w f 64 2))) 3) + (km_r w f 64 3))) 4 (((upd (upd (upd (upd f 0 ((f 0) + (km_r w f 64 0))) 1 (((upd f 0 ((f 0) + (km_r w f 64 0))) 1) + (km_r w f 64 1))) 2 (((upd (upd f 0 ((f 0) + (km_r w f 64 0))) 1 (((upd f 0 ((f 0) + (km_r w f 64 0))) 1) + (km_r w f 64 1))) 2) + (km_r w f 64 2))) 3 (((upd (upd (upd f 0 ((f 0) + (km_r w f 64 0))) 1 (((upd f 0 ((f 0) + (km_r w f 64 0))) 1) + (km_r w f 64 1))) 2 (((upd (upd f 0 ((f 0) + (km_r w f 64 0))) 1 (((upd f 0 ((f 0) + (km_r w f 64 0))) 1) + (km_r w f 64 1))) 2) + (km_r w f 64 2))) 3) + (km_r w f 64 3))) 4) + (km_r w f 64 4))) 5) + (km_r w f 64 5))) hx hb hK hP 1 0 rfl rfl (by omega) (by omega) d_Summer_mixWords_238 ?_
    refine lv_iload hx hb d_Summer_mixWords_239 (lv_at hl 7 rfl) ?_
    refine lv_iadd hx hb d_Summer_mixWords_241 ?_
    refine xa_iast (k := 6) (f := upd (upd (upd (upd (upd (upd f 0 ((f 0) + (km_r w f 64 0))) 1 (((upd f 0 ((f 0) + (km_r w f 64 0))) 1) + (km_r w f 64 1))) 2 (((upd (upd f 0 ((f 0) + (km_r w f 64 0))) 1 (((upd f 0 ((f 0) + (km_r w f 64 0))) 1) + (km_r w f 64 1))) 2) + (km_r w f 64 2))) 3 (((upd (upd (upd f 0 ((f 0) + (km_r w f 64 0))) 1 (((upd f 0 ((f 0) + (km_r w f 64 0))) 1) + (km_r w f 64 1))) 2 (((upd (upd f 0 ((f 0) + (km_r w f 64 0))) 1 (((upd f 0 ((f 0) + (km_r w f 64 0))) 1) + (km_r w f 64 1))) 2) + (km_r w f 64 2))) 3) + (km_r w f 64 3))) 4 (((upd (upd (upd (upd f 0 ((f 0) + (km_r w f 64 0))) 1 (((upd f 0 ((f 0) + (km_r w f 64 0))) 1) + (km_r w f 64 1))) 2 (((upd (upd f 0 ((f 0) + (km_r w f 64 0))) 1 (((upd f 0 ((f 0) + (km_r w f 64 0))) 1) + (km_r w f 64 1))) 2) + (km_r w f 64 2))) 3 (((upd (upd (upd f 0 ((f 0) + (km_r w f 64 0))) 1 (((upd f 0 ((f 0) + (km_r w f 64 0))) 1) + (km_r w f 64 1))) 2 (((upd (upd f 0 ((f 0) + (km_r w f 64 0))) 1 (((upd f 0 ((f 0) + (km_r w f 64 0))) 1) + (km_r w f 64 1))) 2) + (km_r w f 64 2))) 3) + (km_r w f 64 3))) 4) + (km_r w f 64 4))) 5 (((upd (upd (upd (upd (upd f 0 ((f 0) + (km_r w f 64 0))) 1 (((upd f 0 ((f 0) + (km_r w f 64 0))) 1) + (km_r w f 64 1))) 2 (((upd (upd f 0 ((f 0) + (km_r w f 64 0))) 1 (((upd f 0 ((f 0) + (km_r w f 64 0))) 1) + (km_r w f 64 1))) 2) + (km_r w f 64 2))) 3 (((upd (upd (upd f 0 ((f 0) + (km_r w f 64 0))) 1 (((upd f 0 ((f 0) + (km_r w f 64 0))) 1) + (km_r w f 64 1))) 2 (((upd (upd f 0 ((f 0) + (km_r w f 64 0))) 1 (((upd f 0 ((f 0) + (km_r w f 64 0))) 1) + (km_r w f 64 1))) 2) + (km_r w f 64 2))) 3) + (km_r w f 64 3))) 4 (((upd (upd (upd (upd f 0 ((f 0) + (km_r w f 64 0))) 1 (((upd f 0 ((f 0) + (km_r w f 64 0))) 1) + (km_r w f 64 1))) 2 (((upd (upd f 0 ((f 0) + (km_r w f 64 0))) 1 (((upd f 0 ((f 0) + (km_r w f 64 0))) 1) + (km_r w f 64 1))) 2) + (km_r w f 64 2))) 3 (((upd (upd (upd f 0 ((f 0) + (km_r w f 64 0))) 1 (((upd f 0 ((f 0) + (km_r w f 64 0))) 1) + (km_r w f 64 1))) 2 (((upd (upd f 0 ((f 0) + (km_r w f 64 0))) 1 (((upd f 0 ((f 0) + (km_r w f 64 0))) 1) + (km_r w f 64 1))) 2) + (km_r w f 64 2))) 3) + (km_r w f 64 3))) 4) + (km_r w f 64 4))) 5) + (km_r w f 64 5))) (x := ((upd (upd (upd (upd (upd (upd f 0 ((f 0) + (km_r w f 64 0))) 1 (((upd f 0 ((f 0) + (km_r w f 64 0))) 1) + (km_r w f 64 1))) 2 (((upd (upd f 0 ((f 0) + (km_r w f 64 0))) 1 (((upd f 0 ((f 0) + (km_r w f 64 0))) 1) + (km_r w f 64 1))) 2) + (km_r w f 64 2))) 3 (((upd (upd (upd f 0 ((f 0) + (km_r w f 64 0))) 1 (((upd f 0 ((f 0) + (km_r w f 64 0))) 1) + (km_r w f 64 1))) 2 (((upd (upd f 0 ((f 0) + (km_r w f 64 0))) 1 (((upd f 0 ((f 0) + (km_r w f 64 0))) 1) + (km_r w f 64 1))) 2) + (km_r w f 64 2))) 3) + (km_r w f 64 3))) 4 (((upd (upd (upd (upd f 0 ((f 0) + (km_r w f 64 0))) 1 (((upd f 0 ((f 0) + (km_r w f 64 0))) 1) + (km_r w f 64 1))) 2 (((upd (upd f 0 ((f 0) + (km_r w f 64 0))) 1 (((upd f 0 ((f 0) + (km_r w f 64 0))) 1) + (km_r w f 64 1))) 2) + (km_r w f 64 2))) 3 (((upd (upd (upd f 0 ((f 0) + (km_r w f 64 0))) 1 (((upd f 0 ((f 0) + (km_r w f 64 0))) 1) + (km_r w f 64 1))) 2 (((upd (upd f 0 ((f 0) + (km_r w f 64 0))) 1 (((upd f 0 ((f 0) + (km_r w f 64 0))) 1) + (km_r w f 64 1))) 2) + (km_r w f 64 2))) 3) + (km_r w f 64 3))) 4) + (km_r w f 64 4))) 5 (((upd (upd (upd (upd (upd f 0 ((f 0) + (km_r w f 64 0))) 1 (((upd f 0 ((f 0) + (km_r w f 64 0))) 1) + (km_r w f 64 1))) 2 (((upd (upd f 0 ((f 0) + (km_r w f 64 0))) 1 (((upd f 0 ((f 0) + (km_r w f 64 0))) 1) + (km_r w f 64 1))) 2) + (km_r w f 64 2))) 3 (((upd (upd (upd f 0 ((f 0) + (km_r w f 64 0))) 1 (((upd f 0 ((f 0) + (km_r w f 64 0))) 1) + (km_r w f 64 1))) 2 (((upd (upd f 0 ((f 0) + (km_r w f 64 0))) 1 (((upd f 0 ((f 0) + (km_r w f 64 0))) 1) + (km_r w f 64 1))) 2) + (km_r w f 64 2))) 3) + (km_r w f 64 3))) 4 (((upd (upd (upd (upd f 0 ((f 0) + (km_r w f 64 0))) 1 (((upd f 0 ((f 0) + (km_r w f 64 0))) 1) + (km_r w f 64 1))) 2 (((upd (upd f 0 ((f 0) + (km_r w f 64 0))) 1 (((upd f 0 ((f 0) + (km_r w f 64 0))) 1) + (km_r w f 64 1))) 2) + (km_r w f 64 2))) 3 (((upd (upd (upd f 0 ((f 0) + (km_r w f 64 0))) 1 (((upd f 0 ((f 0) + (km_r w f 64 0))) 1) + (km_r w f 64 1))) 2 (((upd (upd f 0 ((f 0) + (km_r w f 64 0))) 1 (((upd f 0 ((f 0) + (km_r w f 64 0))) 1) + (km_r w f 64 1))) 2) + (km_r w f 64 2))) 3) + (km_r w f 64 3))) 4) + (km_r w f 64 4))) 5) + (km_r w f 64 5))) 6) + (km_r w f 64 6)) hx hb hK hP hD hS 1 0 rfl rfl (by omega) (by omega) d_Summer_mixWords_242 (fun H locs hP hD hS => ?_)
    have hP : va_P G classes [(q0, .inr (1, [.ref q1, .ref q2, .int tk])), (q1, .inl (cI, 8, .inl (upd (upd (upd (upd (upd (upd (upd f 0 ((f 0) + (km_r w f 64 0))) 1 (((upd f 0 ((f 0) + (km_r w f 64 0))) 1) + (km_r w f 64 1))) 2 (((upd (upd f 0 ((f 0) + (km_r w f 64 0))) 1 (((upd f 0 ((f 0) + (km_r w f 64 0))) 1) + (km_r w f 64 1))) 2) + (km_r w f 64 2))) 3 (((upd (upd (upd f 0 ((f 0) + (km_r w f 64 0))) 1 (((upd f 0 ((f 0) + (km_r w f 64 0))) 1) + (km_r w f 64 1))) 2 (((upd (upd f 0 ((f 0) + (km_r w f 64 0))) 1 (((upd f 0 ((f 0) + (km_r w f 64 0))) 1) + (km_r w f 64 1))) 2) + (km_r w f 64 2))) 3) + (km_r w f 64 3))) 4 (((upd (upd (upd (upd f 0 ((f 0) + (km_r w f 64 0))) 1 (((upd f 0 ((f 0) + (km_r w f 64 0))) 1) + (km_r w f 64 1))) 2 (((upd (upd f 0 ((f 0) + (km_r w f 64 0))) 1 (((upd f 0 ((f 0) + (km_r w f 64 0))) 1) + (km_r w f 64 1))) 2) + (km_r w f 64 2))) 3 (((upd (upd (upd f 0 ((f 0) + (km_r w f 64 0))) 1 (((upd f 0 ((f 0) + (km_r w f 64 0))) 1) + (km_r w f 64 1))) 2 (((upd (upd f 0 ((f 0) + (km_r w f 64 0))) 1 (((upd f 0 ((f 0) + (km_r w f 64 0))) 1) + (km_r w f 64 1))) 2) + (km_r w f 64 2))) 3) + (km_r w f 64 3))) 4) + (km_r w f 64 4))) 5 (((upd (upd (upd (upd (upd f 0 ((f 0) + (km_r w f 64 0))) 1 (((upd f 0 ((f 0) + (km_r w f 64 0))) 1) + (km_r w f 64 1))) 2 (((upd (upd f 0 ((f 0) + (km_r w f 64 0))) 1 (((upd f 0 ((f 0) + (km_r w f 64 0))) 1) + (km_r w f 64 1))) 2) + (km_r w f 64 2))) 3 (((upd (upd (upd f 0 ((f 0) + (km_r w f 64 0))) 1 (((upd f 0 ((f 0) + (km_r w f 64 0))) 1) + (km_r w f 64 1))) 2 (((upd (upd f 0 ((f 0) + (km_r w f 64 0))) 1 (((upd f 0 ((f 0) + (km_r w f 64 0))) 1) + (km_r w f 64 1))) 2) + (km_r w f 64 2))) 3) + (km_r w f 64 3))) 4 (((upd (upd (upd (upd f 0 ((f 0) + (km_r w f 64 0))) 1 (((upd f 0 ((f 0) + (km_r w f 64 0))) 1) + (km_r w f 64 1))) 2 (((upd (upd f 0 ((f 0) + (km_r w f 64 0))) 1 (((upd f 0 ((f 0) + (km_r w f 64 0))) 1) + (km_r w f 64 1))) 2) + (km_r w f 64 2))) 3 (((upd (upd (upd f 0 ((f 0) + (km_r w f 64 0))) 1 (((upd f 0 ((f 0) + (km_r w f 64 0))) 1) + (km_r w f 64 1))) 2 (((upd (upd f 0 ((f 0) + (km_r w f 64 0))) 1 (((upd f 0 ((f 0) + (km_r w f 64 0))) 1) + (km_r w f 64 1))) 2) + (km_r w f 64 2))) 3) + (km_r w f 64 3))) 4) + (km_r w f 64 4))) 5) + (km_r w f 64 5))) 6 (((upd (upd (upd (upd (upd (upd f 0 ((f 0) + (km_r w f 64 0))) 1 (((upd f 0 ((f 0) + (km_r w f 64 0))) 1) + (km_r w f 64 1))) 2 (((upd (upd f 0 ((f 0) + (km_r w f 64 0))) 1 (((upd f 0 ((f 0) + (km_r w f 64 0))) 1) + (km_r w f 64 1))) 2) + (km_r w f 64 2))) 3 (((upd (upd (upd f 0 ((f 0) + (km_r w f 64 0))) 1 (((upd f 0 ((f 0) + (km_r w f 64 0))) 1) + (km_r w f 64 1))) 2 (((upd (upd f 0 ((f 0) + (km_r w f 64 0))) 1 (((upd f 0 ((f 0) + (km_r w f 64 0))) 1) + (km_r w f 64 1))) 2) + (km_r w f 64 2))) 3) + (km_r w f 64 3))) 4 (((upd (upd (upd (upd f 0 ((f 0) + (km_r w f 64 0))) 1 (((upd f 0 ((f 0) + (km_r w f 64 0))) 1) + (km_r w f 64 1))) 2 (((upd (upd f 0 ((f 0) + (km_r w f 64 0))) 1 (((upd f 0 ((f 0) + (km_r w f 64 0))) 1) + (km_r w f 64 1))) 2) + (km_r w f 64 2))) 3 (((upd (upd (upd f 0 ((f 0) + (km_r w f 64 0))) 1 (((upd f 0 ((f 0) + (km_r w f 64 0))) 1) + (km_r w f 64 1))) 2 (((upd (upd f 0 ((f 0) + (km_r w f 64 0))) 1 (((upd f 0 ((f 0) + (km_r w f 64 0))) 1) + (km_r w f 64 1))) 2) + (km_r w f 64 2))) 3) + (km_r w f 64 3))) 4) + (km_r w f 64 4))) 5 (((upd (upd (upd (upd (upd f 0 ((f 0) + (km_r w f 64 0))) 1 (((upd f 0 ((f 0) + (km_r w f 64 0))) 1) + (km_r w f 64 1))) 2 (((upd (upd f 0 ((f 0) + (km_r w f 64 0))) 1 (((upd f 0 ((f 0) + (km_r w f 64 0))) 1) + (km_r w f 64 1))) 2) + (km_r w f 64 2))) 3 (((upd (upd (upd f 0 ((f 0) + (km_r w f 64 0))) 1 (((upd f 0 ((f 0) + (km_r w f 64 0))) 1) + (km_r w f 64 1))) 2 (((upd (upd f 0 ((f 0) + (km_r w f 64 0))) 1 (((upd f 0 ((f 0) + (km_r w f 64 0))) 1) + (km_r w f 64 1))) 2) + (km_r w f 64 2))) 3) + (km_r w f 64 3))) 4 (((upd (upd (upd (upd f 0 ((f 0) + (km_r w f 64 0))) 1 (((upd f 0 ((f 0) + (km_r w f 64 0))) 1) + (km_r w f 64 1))) 2 (((upd (upd f 0 ((f 0) + (km_r w f 64 0))) 1 (((upd f 0 ((f 0) + (km_r w f 64 0))) 1) + (km_r w f 64 1))) 2) + (km_r w f 64 2))) 3 (((upd (upd (upd f 0 ((f 0) + (km_r w f 64 0))) 1 (((upd f 0 ((f 0) + (km_r w f 64 0))) 1) + (km_r w f 64 1))) 2 (((upd (upd f 0 ((f 0) + (km_r w f 64 0))) 1 (((upd f 0 ((f 0) + (km_r w f 64 0))) 1) + (km_r w f 64 1))) 2) + (km_r w f 64 2))) 3) + (km_r w f 64 3))) 4) + (km_r w f 64 4))) 5) + (km_r w f 64 5))) 6) + (km_r w f 64 6))))), (q2, .inl (cI, 64, .inl w))] H := hP
    have hD : va_D A [(q0, .inr (1, [.ref q1, .ref q2, .int tk])), (q1, .inl (cI, 8, .inl (upd (upd (upd (upd (upd (upd (upd f 0 ((f 0) + (km_r w f 64 0))) 1 (((upd f 0 ((f 0) + (km_r w f 64 0))) 1) + (km_r w f 64 1))) 2 (((upd (upd f 0 ((f 0) + (km_r w f 64 0))) 1 (((upd f 0 ((f 0) + (km_r w f 64 0))) 1) + (km_r w f 64 1))) 2) + (km_r w f 64 2))) 3 (((upd (upd (upd f 0 ((f 0) + (km_r w f 64 0))) 1 (((upd f 0 ((f 0) + (km_r w f 64 0))) 1) + (km_r w f 64 1))) 2 (((upd (upd f 0 ((f 0) + (km_r w f 64 0))) 1 (((upd f 0 ((f 0) + (km_r w f 64 0))) 1) + (km_r w f 64 1))) 2) + (km_r w f 64 2))) 3) + (km_r w f 64 3))) 4 (((upd (upd (upd (upd f 0 ((f 0) + (km_r w f 64 0))) 1 (((upd f 0 ((f 0) + (km_r w f 64 0))) 1) + (km_r w f 64 1))) 2 (((upd (upd f 0 ((f 0) + (km_r w f 64 0))) 1 (((upd f 0 ((f 0) + (km_r w f 64 0))) 1) + (km_r w f 64 1))) 2) + (km_r w f 64 2))) 3 (((upd (upd (upd f 0 ((f 0) + (km_r w f 64 0))) 1 (((upd f 0 ((f 0) + (km_r w f 64 0))) 1) + (km_r w f 64 1))) 2 (((upd (upd f 0 ((f 0) + (km_r w f 64 0))) 1 (((upd f 0 ((f 0) + (km_r w f 64 0))) 1) + (km_r w f 64 1))) 2) + (km_r w f 64 2))) 3) + (km_r w f 64 3))) 4) + (km_r w f 64 4))) 5 (((upd (upd (upd (upd (upd f 0 ((f 0) + (km_r w f 64 0))) 1 (((upd f 0 ((f 0) + (km_r w f 64 0))) 1) + (km_r w f 64 1))) 2 (((upd (upd f 0 ((f 0) + (km_r w f 64 0))) 1 (((upd f 0 ((f 0) + (km_r w f 64 0))) 1) + (km_r w f 64 1))) 2) + (km_r w f 64 2))) 3 (((upd (upd (upd f 0 ((f 0) + (km_r w f 64 0))) 1 (((upd f 0 ((f 0) + (km_r w f 64 0))) 1) + (km_r w f 64 1))) 2 (((upd (upd f 0 ((f 0) + (km_r w f 64 0))) 1 (((upd f 0 ((f 0) + (km_r w f 64 0))) 1) + (km_r w f 64 1))) 2) + (km_r w f 64 2))) 3) + (km_r w f 64 3))) 4 (((upd (upd (upd (upd f 0 ((f 0) + (km_r w f 64 0))) 1 (((upd f 0 ((f 0) + (km_r w f 64 0))) 1) + (km_r w f 64 1))) 2 (((upd (upd f 0 ((f 0) + (km_r w f 64 0))) 1 (((upd f 0 ((f 0) + (km_r w f 64 0))) 1) + (km_r w f 64 1))) 2) + (km_r w f 64 2))) 3 (((upd (upd (upd f 0 ((f 0) + (km_r w f 64 0))) 1 (((upd f 0 ((f 0) + (km_r w f 64 0))) 1) + (km_r w f 64 1))) 2 (((upd (upd f 0 ((f 0) + (km_r w f 64 0))) 1 (((upd f 0 ((f 0) + (km_r w f 64 0))) 1) + (km_r w f 64 1))) 2) + (km_r w f 64 2))) 3) + (km_r w f 64 3))) 4) + (km_r w f 64 4))) 5) + (km_r w f 64 5))) 6 (((upd (upd (upd (upd (upd (upd f 0 ((f 0) + (km_r w f 64 0))) 1 (((upd f 0 ((f 0) + (km_r w f 64 0))) 1) + (km_r w f 64 1))) 2 (((upd (upd f 0 ((f 0) + (km_r w f 64 0))) 1 (((upd f 0 ((f 0) + (km_r w f 64 0))) 1) + (km_r w f 64 1))) 2) + (km_r w f 64 2))) 3 (((upd (upd (upd f 0 ((f 0) + (km_r w f 64 0))) 1 (((upd f 0 ((f 0) + (km_r w f 64 0))) 1) + (km_r w f 64 1))) 2 (((upd (upd f 0 ((f 0) + (km_r w f 64 0))) 1 (((upd f 0 ((f 0) + (km_r w f 64 0))) 1) + (km_r w f 64 1))) 2) + (km_r w f 64 2))) 3) + (km_r w f 64 3))) 4 (((upd (upd (upd (upd f 0 ((f 0) + (km_r w f 64 0))) 1 (((upd f 0 ((f 0) + (km_r w f 64 0))) 1) + (km_r w f 64 1))) 2 (((upd (upd f 0 ((f 0) + (km_r w f 64 0))) 1 (((upd f 0 ((f 0) + (km_r w f 64 0))) 1) + (km_r w f 64 1))) 2) + (km_r w f 64 2))) 3 (((upd (upd (upd f 0 ((f 0) + (km_r w f 64 0))) 1 (((upd f 0 ((f 0) + (km_r w f 64 0))) 1) + (km_r w f 64 1))) 2 (((upd (upd f 0 ((f 0) + (km_r w f 64 0))) 1 (((upd f 0 ((f 0) + (km_r w f 64 0))) 1) + (km_r w f 64 1))) 2) + (km_r w f 64 2))) 3) + (km_r w f 64 3))) 4) + (km_r w f 64 4))) 5 (((upd (upd (upd (upd (upd f 0 ((f 0) + (km_r w f 64 0))) 1 (((upd f 0 ((f 0) + (km_r w f 64 0))) 1) + (km_r w f 64 1))) 2 (((upd (upd f 0 ((f 0) + (km_r w f 64 0))) 1 (((upd f 0 ((f 0) + (km_r w f 64 0))) 1) + (km_r w f 64 1))) 2) + (km_r w f 64 2))) 3 (((upd (upd (upd f 0 ((f 0) + (km_r w f 64 0))) 1 (((upd f 0 ((f 0) + (km_r w f 64 0))) 1) + (km_r w f 64 1))) 2 (((upd (upd f 0 ((f 0) + (km_r w f 64 0))) 1 (((upd f 0 ((f 0) + (km_r w f 64 0))) 1) + (km_r w f 64 1))) 2) + (km_r w f 64 2))) 3) + (km_r w f 64 3))) 4 (((upd (upd (upd (upd f 0 ((f 0) + (km_r w f 64 0))) 1 (((upd f 0 ((f 0) + (km_r w f 64 0))) 1) + (km_r w f 64 1))) 2 (((upd (upd f 0 ((f 0) + (km_r w f 64 0))) 1 (((upd f 0 ((f 0) + (km_r w f 64 0))) 1) + (km_r w f 64 1))) 2) + (km_r w f 64 2))) 3 (((upd (upd (upd f 0 ((f 0) + (km_r w f 64 0))) 1 (((upd f 0 ((f 0) + (km_r w f 64 0))) 1) + (km_r w f 64 1))) 2 (((upd (upd f 0 ((f 0) + (km_r w f 64 0))) 1 (((upd f 0 ((f 0) + (km_r w f 64 0))) 1) + (km_r w f 64 1))) 2) + (km_r w f 64 2))) 3) + (km_r w f 64 3))) 4) + (km_r w f 64 4))) 5) + (km_r w f 64 5))) 6) + (km_r w f 64 6))))), (q2, .inl (cI, 64, .inl w))] := hD
    refine lv_aload_n hx hb d_Summer_mixWords_243 rfl (lv_at hl 9 rfl) ?_
    refine va_get (D := G) (ci := 1) (v := .ref q1) (C := R_Summer) (T := F_Summer) (N := 3) hx hb hts hi_Summer hown hK hP 0 rfl rfl 0 (by decide) (hts _ tw_39) (fun _ h9 => h9) rfl d_Summer_mixWords_244 ?_
    refine lv_bipush (v := 7) hx hb d_Summer_mixWords_247 (by decide) ?_
    refine lv_dup2_11 hx hb d_Summer_mixWords_249 rfl rfl ?_
    refine xa_iald (k := 7) (f := upd (upd (upd (upd (upd (upd (upd f 0 ((f 0) + (km_r w f 64 0))) 1 (((upd f 0 ((f 0) + (km_r w f 64 0))) 1) + (km_r w f 64 1))) 2 (((upd (upd f 0 ((f 0) + (km_r w f 64 0))) 1 (((upd f 0 ((f 0) + (km_r w f 64 0))) 1) + (km_r w f 64 1))) 2) + (km_r w f 64 2))) 3 (((upd (upd (upd f 0 ((f 0) + (km_r w f 64 0))) 1 (((upd f 0 ((f 0) + (km_r w f 64 0))) 1) + (km_r w f 64 1))) 2 (((upd (upd f 0 ((f 0) + (km_r w f 64 0))) 1 (((upd f 0 ((f 0) + (km_r w f 64 0))) 1) + (km_r w f 64 1))) 2) + (km_r w f 64 2))) 3) + (km_r w f 64 3))) 4 (((upd (upd (upd (upd f 0 ((f 0) + (km_r w f 64 0))) 1 (((upd f 0 ((f 0) + (km_r w f 64 0))) 1) + (km_r w f 64 1))) 2 (((upd (upd f 0 ((f 0) + (km_r w f 64 0))) 1 (((upd f 0 ((f 0) + (km_r w f 64 0))) 1) + (km_r w f 64 1))) 2) + (km_r w f 64 2))) 3 (((upd (upd (upd f 0 ((f 0) + (km_r w f 64 0))) 1 (((upd f 0 ((f 0) + (km_r w f 64 0))) 1) + (km_r w f 64 1))) 2 (((upd (upd f 0 ((f 0) + (km_r w f 64 0))) 1 (((upd f 0 ((f 0) + (km_r w f 64 0))) 1) + (km_r w f 64 1))) 2) + (km_r w f 64 2))) 3) + (km_r w f 64 3))) 4) + (km_r w f 64 4))) 5 (((upd (upd (upd (upd (upd f 0 ((f 0) + (km_r w f 64 0))) 1 (((upd f 0 ((f 0) + (km_r w f 64 0))) 1) + (km_r w f 64 1))) 2 (((upd (upd f 0 ((f 0) + (km_r w f 64 0))) 1 (((upd f 0 ((f 0) + (km_r w f 64 0))) 1) + (km_r w f 64 1))) 2) + (km_r w f 64 2))) 3 (((upd (upd (upd f 0 ((f 0) + (km_r w f 64 0))) 1 (((upd f 0 ((f 0) + (km_r w f 64 0))) 1) + (km_r w f 64 1))) 2 (((upd (upd f 0 ((f 0) + (km_r w f 64 0))) 1 (((upd f 0 ((f 0) + (km_r w f 64 0))) 1) + (km_r w f 64 1))) 2) + (km_r w f 64 2))) 3) + (km_r w f 64 3))) 4 (((upd (upd (upd (upd f 0 ((f 0) + (km_r w f 64 0))) 1 (((upd f 0 ((f 0) + (km_r w f 64 0))) 1) + (km_r w f 64 1))) 2 (((upd (upd f 0 ((f 0) + (km_r w f 64 0))) 1 (((upd f 0 ((f 0) + (km_r w f 64 0))) 1) + (km_r w f 64 1))) 2) + (km_r w f 64 2))) 3 (((upd (upd (upd f 0 ((f 0) + (km_r w f 64 0))) 1 (((upd f 0 ((f 0) + (km_r w f 64 0))) 1) + (km_r w f 64 1))) 2 (((upd (upd f 0 ((f 0) + (km_r w f 64 0))) 1 (((upd f 0 ((f 0) + (km_r w f 64 0))) 1) + (km_r w f 64 1))) 2) + (km_r w f 64 2))) 3) + (km_r w f 64 3))) 4) + (km_r w f 64 4))) 5) + (km_r w f 64 5))) 6 (((upd (upd (upd (upd (upd (upd f 0 ((f 0) + (km_r w f 64 0))) 1 (((upd f 0 ((f 0) + (km_r w f 64 0))) 1) + (km_r w f 64 1))) 2 (((upd (upd f 0 ((f 0) + (km_r w f 64 0))) 1 (((upd f 0 ((f 0) + (km_r w f 64 0))) 1) + (km_r w f 64 1))) 2) + (km_r w f 64 2))) 3 (((upd (upd (upd f 0 ((f 0) + (km_r w f 64 0))) 1 (((upd f 0 ((f 0) + (km_r w f 64 0))) 1) + (km_r w f 64 1))) 2 (((upd (upd f 0 ((f 0) + (km_r w f 64 0))) 1 (((upd f 0 ((f 0) + (km_r w f 64 0))) 1) + (km_r w f 64 1))) 2) + (km_r w f 64 2))) 3) + (km_r w f 64 3))) 4 (((upd (upd (upd (upd f 0 ((f 0) + (km_r w f 64 0))) 1 (((upd f 0 ((f 0) + (km_r w f 64 0))) 1) + (km_r w f 64 1))) 2 (((upd (upd f 0 ((f 0) + (km_r w f 64 0))) 1 (((upd f 0 ((f 0) + (km_r w f 64 0))) 1) + (km_r w f 64 1))) 2) + (km_r w f 64 2))) 3 (((upd (upd (upd f 0 ((f 0) + (km_r w f 64 0))) 1 (((upd f 0 ((f 0) + (km_r w f 64 0))) 1) + (km_r w f 64 1))) 2 (((upd (upd f 0 ((f 0) + (km_r w f 64 0))) 1 (((upd f 0 ((f 0) + (km_r w f 64 0))) 1) + (km_r w f 64 1))) 2) + (km_r w f 64 2))) 3) + (km_r w f 64 3))) 4) + (km_r w f 64 4))) 5 (((upd (upd (upd (upd (upd f 0 ((f 0) + (km_r w f 64 0))) 1 (((upd f 0 ((f 0) + (km_r w f 64 0))) 1) + (km_r w f 64 1))) 2 (((upd (upd f 0 ((f 0) + (km_r w f 64 0))) 1 (((upd f 0 ((f 0) + (km_r w f 64 0))) 1) + (km_r w f 64 1))) 2) + (km_r w f 64 2))) 3 (((upd (upd (upd f 0 ((f 0) + (km_r w f 64 0))) 1 (((upd f 0 ((f 0) + (km_r w f 64 0))) 1) + (km_r w f 64 1))) 2 (((upd (upd f 0 ((f 0) + (km_r w f 64 0))) 1 (((upd f 0 ((f 0) + (km_r w f 64 0))) 1) + (km_r w f 64 1))) 2) + (km_r w f 64 2))) 3) + (km_r w f 64 3))) 4 (((upd (upd (upd (upd f 0 ((f 0) + (km_r w f 64 0))) 1 (((upd f 0 ((f 0) + (km_r w f 64 0))) 1) + (km_r w f 64 1))) 2 (((upd (upd f 0 ((f 0) + (km_r w f 64 0))) 1 (((upd f 0 ((f 0) + (km_r w f 64 0))) 1) + (km_r w f 64 1))) 2) + (km_r w f 64 2))) 3 (((upd (upd (upd f 0 ((f 0) + (km_r w f 64 0))) 1 (((upd f 0 ((f 0) + (km_r w f 64 0))) 1) + (km_r w f 64 1))) 2 (((upd (upd f 0 ((f 0) + (km_r w f 64 0))) 1 (((upd f 0 ((f 0) + (km_r w f 64 0))) 1) + (km_r w f 64 1))) 2) + (km_r w f 64 2))) 3) + (km_r w f 64 3))) 4) + (km_r w f 64 4))) 5) + (km_r w f 64 5))) 6) + (km_r w f 64 6))) hx hb hK hP 1 0 rfl rfl (by omega) (by omega) d_Summer_mixWords_250 ?_
    refine lv_iload hx hb d_Summer_mixWords_251 (lv_at hl 8 rfl) ?_
    refine lv_iadd hx hb d_Summer_mixWords_253 ?_
    refine xa_iast (k := 7) (f := upd (upd (upd (upd (upd (upd (upd f 0 ((f 0) + (km_r w f 64 0))) 1 (((upd f 0 ((f 0) + (km_r w f 64 0))) 1) + (km_r w f 64 1))) 2 (((upd (upd f 0 ((f 0) + (km_r w f 64 0))) 1 (((upd f 0 ((f 0) + (km_r w f 64 0))) 1) + (km_r w f 64 1))) 2) + (km_r w f 64 2))) 3 (((upd (upd (upd f 0 ((f 0) + (km_r w f 64 0))) 1 (((upd f 0 ((f 0) + (km_r w f 64 0))) 1) + (km_r w f 64 1))) 2 (((upd (upd f 0 ((f 0) + (km_r w f 64 0))) 1 (((upd f 0 ((f 0) + (km_r w f 64 0))) 1) + (km_r w f 64 1))) 2) + (km_r w f 64 2))) 3) + (km_r w f 64 3))) 4 (((upd (upd (upd (upd f 0 ((f 0) + (km_r w f 64 0))) 1 (((upd f 0 ((f 0) + (km_r w f 64 0))) 1) + (km_r w f 64 1))) 2 (((upd (upd f 0 ((f 0) + (km_r w f 64 0))) 1 (((upd f 0 ((f 0) + (km_r w f 64 0))) 1) + (km_r w f 64 1))) 2) + (km_r w f 64 2))) 3 (((upd (upd (upd f 0 ((f 0) + (km_r w f 64 0))) 1 (((upd f 0 ((f 0) + (km_r w f 64 0))) 1) + (km_r w f 64 1))) 2 (((upd (upd f 0 ((f 0) + (km_r w f 64 0))) 1 (((upd f 0 ((f 0) + (km_r w f 64 0))) 1) + (km_r w f 64 1))) 2) + (km_r w f 64 2))) 3) + (km_r w f 64 3))) 4) + (km_r w f 64 4))) 5 (((upd (upd (upd (upd (upd f 0 ((f 0) + (km_r w f 64 0))) 1 (((upd f 0 ((f 0) + (km_r w f 64 0))) 1) + (km_r w f 64 1))) 2 (((upd (upd f 0 ((f 0) + (km_r w f 64 0))) 1 (((upd f 0 ((f 0) + (km_r w f 64 0))) 1) + (km_r w f 64 1))) 2) + (km_r w f 64 2))) 3 (((upd (upd (upd f 0 ((f 0) + (km_r w f 64 0))) 1 (((upd f 0 ((f 0) + (km_r w f 64 0))) 1) + (km_r w f 64 1))) 2 (((upd (upd f 0 ((f 0) + (km_r w f 64 0))) 1 (((upd f 0 ((f 0) + (km_r w f 64 0))) 1) + (km_r w f 64 1))) 2) + (km_r w f 64 2))) 3) + (km_r w f 64 3))) 4 (((upd (upd (upd (upd f 0 ((f 0) + (km_r w f 64 0))) 1 (((upd f 0 ((f 0) + (km_r w f 64 0))) 1) + (km_r w f 64 1))) 2 (((upd (upd f 0 ((f 0) + (km_r w f 64 0))) 1 (((upd f 0 ((f 0) + (km_r w f 64 0))) 1) + (km_r w f 64 1))) 2) + (km_r w f 64 2))) 3 (((upd (upd (upd f 0 ((f 0) + (km_r w f 64 0))) 1 (((upd f 0 ((f 0) + (km_r w f 64 0))) 1) + (km_r w f 64 1))) 2 (((upd (upd f 0 ((f 0) + (km_r w f 64 0))) 1 (((upd f 0 ((f 0) + (km_r w f 64 0))) 1) + (km_r w f 64 1))) 2) + (km_r w f 64 2))) 3) + (km_r w f 64 3))) 4) + (km_r w f 64 4))) 5) + (km_r w f 64 5))) 6 (((upd (upd (upd (upd (upd (upd f 0 ((f 0) + (km_r w f 64 0))) 1 (((upd f 0 ((f 0) + (km_r w f 64 0))) 1) + (km_r w f 64 1))) 2 (((upd (upd f 0 ((f 0) + (km_r w f 64 0))) 1 (((upd f 0 ((f 0) + (km_r w f 64 0))) 1) + (km_r w f 64 1))) 2) + (km_r w f 64 2))) 3 (((upd (upd (upd f 0 ((f 0) + (km_r w f 64 0))) 1 (((upd f 0 ((f 0) + (km_r w f 64 0))) 1) + (km_r w f 64 1))) 2 (((upd (upd f 0 ((f 0) + (km_r w f 64 0))) 1 (((upd f 0 ((f 0) + (km_r w f 64 0))) 1) + (km_r w f 64 1))) 2) + (km_r w f 64 2))) 3) + (km_r w f 64 3))) 4 (((upd (upd (upd (upd f 0 ((f 0) + (km_r w f 64 0))) 1 (((upd f 0 ((f 0) + (km_r w f 64 0))) 1) + (km_r w f 64 1))) 2 (((upd (upd f 0 ((f 0) + (km_r w f 64 0))) 1 (((upd f 0 ((f 0) + (km_r w f 64 0))) 1) + (km_r w f 64 1))) 2) + (km_r w f 64 2))) 3 (((upd (upd (upd f 0 ((f 0) + (km_r w f 64 0))) 1 (((upd f 0 ((f 0) + (km_r w f 64 0))) 1) + (km_r w f 64 1))) 2 (((upd (upd f 0 ((f 0) + (km_r w f 64 0))) 1 (((upd f 0 ((f 0) + (km_r w f 64 0))) 1) + (km_r w f 64 1))) 2) + (km_r w f 64 2))) 3) + (km_r w f 64 3))) 4) + (km_r w f 64 4))) 5 (((upd (upd (upd (upd (upd f 0 ((f 0) + (km_r w f 64 0))) 1 (((upd f 0 ((f 0) + (km_r w f 64 0))) 1) + (km_r w f 64 1))) 2 (((upd (upd f 0 ((f 0) + (km_r w f 64 0))) 1 (((upd f 0 ((f 0) + (km_r w f 64 0))) 1) + (km_r w f 64 1))) 2) + (km_r w f 64 2))) 3 (((upd (upd (upd f 0 ((f 0) + (km_r w f 64 0))) 1 (((upd f 0 ((f 0) + (km_r w f 64 0))) 1) + (km_r w f 64 1))) 2 (((upd (upd f 0 ((f 0) + (km_r w f 64 0))) 1 (((upd f 0 ((f 0) + (km_r w f 64 0))) 1) + (km_r w f 64 1))) 2) + (km_r w f 64 2))) 3) + (km_r w f 64 3))) 4 (((upd (upd (upd (upd f 0 ((f 0) + (km_r w f 64 0))) 1 (((upd f 0 ((f 0) + (km_r w f 64 0))) 1) + (km_r w f 64 1))) 2 (((upd (upd f 0 ((f 0) + (km_r w f 64 0))) 1 (((upd f 0 ((f 0) + (km_r w f 64 0))) 1) + (km_r w f 64 1))) 2) + (km_r w f 64 2))) 3 (((upd (upd (upd f 0 ((f 0) + (km_r w f 64 0))) 1 (((upd f 0 ((f 0) + (km_r w f 64 0))) 1) + (km_r w f 64 1))) 2 (((upd (upd f 0 ((f 0) + (km_r w f 64 0))) 1 (((upd f 0 ((f 0) + (km_r w f 64 0))) 1) + (km_r w f 64 1))) 2) + (km_r w f 64 2))) 3) + (km_r w f 64 3))) 4) + (km_r w f 64 4))) 5) + (km_r w f 64 5))) 6) + (km_r w f 64 6))) (x := ((upd (upd (upd (upd (upd (upd (upd f 0 ((f 0) + (km_r w f 64 0))) 1 (((upd f 0 ((f 0) + (km_r w f 64 0))) 1) + (km_r w f 64 1))) 2 (((upd (upd f 0 ((f 0) + (km_r w f 64 0))) 1 (((upd f 0 ((f 0) + (km_r w f 64 0))) 1) + (km_r w f 64 1))) 2) + (km_r w f 64 2))) 3 (((upd (upd (upd f 0 ((f 0) + (km_r w f 64 0))) 1 (((upd f 0 ((f 0) + (km_r w f 64 0))) 1) + (km_r w f 64 1))) 2 (((upd (upd f 0 ((f 0) + (km_r w f 64 0))) 1 (((upd f 0 ((f 0) + (km_r w f 64 0))) 1) + (km_r w f 64 1))) 2) + (km_r w f 64 2))) 3) + (km_r w f 64 3))) 4 (((upd (upd (upd (upd f 0 ((f 0) + (km_r w f 64 0))) 1 (((upd f 0 ((f 0) + (km_r w f 64 0))) 1) + (km_r w f 64 1))) 2 (((upd (upd f 0 ((f 0) + (km_r w f 64 0))) 1 (((upd f 0 ((f 0) + (km_r w f 64 0))) 1) + (km_r w f 64 1))) 2) + (km_r w f 64 2))) 3 (((upd (upd (upd f 0 ((f 0) + (km_r w f 64 0))) 1 (((upd f 0 ((f 0) + (km_r w f 64 0))) 1) + (km_r w f 64 1))) 2 (((upd (upd f 0 ((f 0) + (km_r w f 64 0))) 1 (((upd f 0 ((f 0) + (km_r w f 64 0))) 1) + (km_r w f 64 1))) 2) + (km_r w f 64 2))) 3) + (km_r w f 64 3))) 4) + (km_r w f 64 4))) 5 (((upd (upd (upd (upd (upd f 0 ((f 0) + (km_r w f 64 0))) 1 (((upd f 0 ((f 0) + (km_r w f 64 0))) 1) + (km_r w f 64 1))) 2 (((upd (upd f 0 ((f 0) + (km_r w f 64 0))) 1 (((upd f 0 ((f 0) + (km_r w f 64 0))) 1) + (km_r w f 64 1))) 2) + (km_r w f 64 2))) 3 (((upd (upd (upd f 0 ((f 0) + (km_r w f 64 0))) 1 (((upd f 0 ((f 0) + (km_r w f 64 0))) 1) + (km_r w f 64 1))) 2 (((upd (upd f 0 ((f 0) + (km_r w f 64 0))) 1 (((upd f 0 ((f 0) + (km_r w f 64 0))) 1) + (km_r w f 64 1))) 2) + (km_r w f 64 2))) 3) + (km_r w f 64 3))) 4 (((upd (upd (upd (upd f 0 ((f 0) + (km_r w f 64 0))) 1 (((upd f 0 ((f 0) + (km_r w f 64 0))) 1) + (km_r w f 64 1))) 2 (((upd (upd f 0 ((f 0) + (km_r w f 64 0))) 1 (((upd f 0 ((f 0) + (km_r w f 64 0))) 1) + (km_r w f 64 1))) 2) + (km_r w f 64 2))) 3 (((upd (upd (upd f 0 ((f 0) + (km_r w f 64 0))) 1 (((upd f 0 ((f 0) + (km_r w f 64 0))) 1) + (km_r w f 64 1))) 2 (((upd (upd f 0 ((f 0) + (km_r w f 64 0))) 1 (((upd f 0 ((f 0) + (km_r w f 64 0))) 1) + (km_r w f 64 1))) 2) + (km_r w f 64 2))) 3) + (km_r w f 64 3))) 4) + (km_r w f 64 4))) 5) + (km_r w f 64 5))) 6 (((upd (upd (upd (upd (upd (upd f 0 ((f 0) + (km_r w f 64 0))) 1 (((upd f 0 ((f 0) + (km_r w f 64 0))) 1) + (km_r w f 64 1))) 2 (((upd (upd f 0 ((f 0) + (km_r w f 64 0))) 1 (((upd f 0 ((f 0) + (km_r w f 64 0))) 1) + (km_r w f 64 1))) 2) + (km_r w f 64 2))) 3 (((upd (upd (upd f 0 ((f 0) + (km_r w f 64 0))) 1 (((upd f 0 ((f 0) + (km_r w f 64 0))) 1) + (km_r w f 64 1))) 2 (((upd (upd f 0 ((f 0) + (km_r w f 64 0))) 1 (((upd f 0 ((f 0) + (km_r w f 64 0))) 1) + (km_r w f 64 1))) 2) + (km_r w f 64 2))) 3) + (km_r w f 64 3))) 4 (((upd (upd (upd (upd f 0 ((f 0) + (km_r w f 64 0))) 1 (((upd f 0 ((f 0) + (km_r w f 64 0))) 1) + (km_r w f 64 1))) 2 (((upd (upd f 0 ((f 0) + (km_r w f 64 0))) 1 (((upd f 0 ((f 0) + (km_r w f 64 0))) 1) + (km_r w f 64 1))) 2) + (km_r w f 64 2))) 3 (((upd (upd (upd f 0 ((f 0) + (km_r w f 64 0))) 1 (((upd f 0 ((f 0) + (km_r w f 64 0))) 1) + (km_r w f 64 1))) 2 (((upd (upd f 0 ((f 0) + (km_r w f 64 0))) 1 (((upd f 0 ((f 0) + (km_r w f 64 0))) 1) + (km_r w f 64 1))) 2) + (km_r w f 64 2))) 3) + (km_r w f 64 3))) 4) + (km_r w f 64 4))) 5 (((upd (upd (upd (upd (upd f 0 ((f 0) + (km_r w f 64 0))) 1 (((upd f 0 ((f 0) + (km_r w f 64 0))) 1) + (km_r w f 64 1))) 2 (((upd (upd f 0 ((f 0) + (km_r w f 64 0))) 1 (((upd f 0 ((f 0) + (km_r w f 64 0))) 1) + (km_r w f 64 1))) 2) + (km_r w f 64 2))) 3 (((upd (upd (upd f 0 ((f 0) + (km_r w f 64 0))) 1 (((upd f 0 ((f 0) + (km_r w f 64 0))) 1) + (km_r w f 64 1))) 2 (((upd (upd f 0 ((f 0) + (km_r w f 64 0))) 1 (((upd f 0 ((f 0) + (km_r w f 64 0))) 1) + (km_r w f 64 1))) 2) + (km_r w f 64 2))) 3) + (km_r w f 64 3))) 4 (((upd (upd (upd (upd f 0 ((f 0) + (km_r w f 64 0))) 1 (((upd f 0 ((f 0) + (km_r w f 64 0))) 1) + (km_r w f 64 1))) 2 (((upd (upd f 0 ((f 0) + (km_r w f 64 0))) 1 (((upd f 0 ((f 0) + (km_r w f 64 0))) 1) + (km_r w f 64 1))) 2) + (km_r w f 64 2))) 3 (((upd (upd (upd f 0 ((f 0) + (km_r w f 64 0))) 1 (((upd f 0 ((f 0) + (km_r w f 64 0))) 1) + (km_r w f 64 1))) 2 (((upd (upd f 0 ((f 0) + (km_r w f 64 0))) 1 (((upd f 0 ((f 0) + (km_r w f 64 0))) 1) + (km_r w f 64 1))) 2) + (km_r w f 64 2))) 3) + (km_r w f 64 3))) 4) + (km_r w f 64 4))) 5) + (km_r w f 64 5))) 6) + (km_r w f 64 6))) 7) + (km_r w f 64 7)) hx hb hK hP hD hS 1 0 rfl rfl (by omega) (by omega) d_Summer_mixWords_254 (fun H locs hP hD hS => ?_)
    have hP : va_P G classes [(q0, .inr (1, [.ref q1, .ref q2, .int tk])), (q1, .inl (cI, 8, .inl (upd (upd (upd (upd (upd (upd (upd (upd f 0 ((f 0) + (km_r w f 64 0))) 1 (((upd f 0 ((f 0) + (km_r w f 64 0))) 1) + (km_r w f 64 1))) 2 (((upd (upd f 0 ((f 0) + (km_r w f 64 0))) 1 (((upd f 0 ((f 0) + (km_r w f 64 0))) 1) + (km_r w f 64 1))) 2) + (km_r w f 64 2))) 3 (((upd (upd (upd f 0 ((f 0) + (km_r w f 64 0))) 1 (((upd f 0 ((f 0) + (km_r w f 64 0))) 1) + (km_r w f 64 1))) 2 (((upd (upd f 0 ((f 0) + (km_r w f 64 0))) 1 (((upd f 0 ((f 0) + (km_r w f 64 0))) 1) + (km_r w f 64 1))) 2) + (km_r w f 64 2))) 3) + (km_r w f 64 3))) 4 (((upd (upd (upd (upd f 0 ((f 0) + (km_r w f 64 0))) 1 (((upd f 0 ((f 0) + (km_r w f 64 0))) 1) + (km_r w f 64 1))) 2 (((upd (upd f 0 ((f 0) + (km_r w f 64 0))) 1 (((upd f 0 ((f 0) + (km_r w f 64 0))) 1) + (km_r w f 64 1))) 2) + (km_r w f 64 2))) 3 (((upd (upd (upd f 0 ((f 0) + (km_r w f 64 0))) 1 (((upd f 0 ((f 0) + (km_r w f 64 0))) 1) + (km_r w f 64 1))) 2 (((upd (upd f 0 ((f 0) + (km_r w f 64 0))) 1 (((upd f 0 ((f 0) + (km_r w f 64 0))) 1) + (km_r w f 64 1))) 2) + (km_r w f 64 2))) 3) + (km_r w f 64 3))) 4) + (km_r w f 64 4))) 5 (((upd (upd (upd (upd (upd f 0 ((f 0) + (km_r w f 64 0))) 1 (((upd f 0 ((f 0) + (km_r w f 64 0))) 1) + (km_r w f 64 1))) 2 (((upd (upd f 0 ((f 0) + (km_r w f 64 0))) 1 (((upd f 0 ((f 0) + (km_r w f 64 0))) 1) + (km_r w f 64 1))) 2) + (km_r w f 64 2))) 3 (((upd (upd (upd f 0 ((f 0) + (km_r w f 64 0))) 1 (((upd f 0 ((f 0) + (km_r w f 64 0))) 1) + (km_r w f 64 1))) 2 (((upd (upd f 0 ((f 0) + (km_r w f 64 0))) 1 (((upd f 0 ((f 0) + (km_r w f 64 0))) 1) + (km_r w f 64 1))) 2) + (km_r w f 64 2))) 3) + (km_r w f 64 3))) 4 (((upd (upd (upd (upd f 0 ((f 0) + (km_r w f 64 0))) 1 (((upd f 0 ((f 0) + (km_r w f 64 0))) 1) + (km_r w f 64 1))) 2 (((upd (upd f 0 ((f 0) + (km_r w f 64 0))) 1 (((upd f 0 ((f 0) + (km_r w f 64 0))) 1) + (km_r w f 64 1))) 2) + (km_r w f 64 2))) 3 (((upd (upd (upd f 0 ((f 0) + (km_r w f 64 0))) 1 (((upd f 0 ((f 0) + (km_r w f 64 0))) 1) + (km_r w f 64 1))) 2 (((upd (upd f 0 ((f 0) + (km_r w f 64 0))) 1 (((upd f 0 ((f 0) + (km_r w f 64 0))) 1) + (km_r w f 64 1))) 2) + (km_r w f 64 2))) 3) + (km_r w f 64 3))) 4) + (km_r w f 64 4))) 5) + (km_r w f 64 5))) 6 (((upd (upd (upd (upd (upd (upd f 0 ((f 0) + (km_r w f 64 0))) 1 (((upd f 0 ((f 0) + (km_r w f 64 0))) 1) + (km_r w f 64 1))) 2 (((upd (upd f 0 ((f 0) + (km_r w f 64 0))) 1 (((upd f 0 ((f 0) + (km_r w f 64 0))) 1) + (km_r w f 64 1))) 2) + (km_r w f 64 2))) 3 (((upd (upd (upd f 0 ((f 0) + (km_r w f 64 0))) 1 (((upd f 0 ((f 0) + (km_r w f 64 0))) 1) + (km_r w f 64 1))) 2 (((upd (upd f 0 ((f 0) + (km_r w f 64 0))) 1 (((upd f 0 ((f 0) + (km_r w f 64 0))) 1) + (km_r w f 64 1))) 2) + (km_r w f 64 2))) 3) + (km_r w f 64 3))) 4 (((upd (upd (upd (upd f 0 ((f 0) + (km_r w f 64 0))) 1 (((upd f 0 ((f 0) + (km_r w f 64 0))) 1) + (km_r w f 64 1))) 2 (((upd (upd f 0 ((f 0) + (km_r w f 64 0))) 1 (((upd f 0 ((f 0) + (km_r w f 64 0))) 1) + (km_r w f 64 1))) 2) + (km_r w f 64 2))) 3 (((upd (upd (upd f 0 ((f 0) + (km_r w f 64 0))) 1 (((upd f 0 ((f 0) + (km_r w f 64 0))) 1) + (km_r w f 64 1))) 2 (((upd (upd f 0 ((f 0) + (km_r w f 64 0))) 1 (((upd f 0 ((f 0) + (km_r w f 64 0))) 1) + (km_r w f 64 1))) 2) + (km_r w f 64 2))) 3) + (km_r w f 64 3))) 4) + (km_r w f 64 4))) 5 (((upd (upd (upd (upd (upd f 0 ((f 0) + (km_r w f 64 0))) 1 (((upd f 0 ((f 0) + (km_r w f 64 0))) 1) + (km_r w f 64 1))) 2 (((upd (upd f 0 ((f 0) + (km_r w f 64 0))) 1 (((upd f 0 ((f 0) + (km_r w f 64 0))) 1) + (km_r w f 64 1))) 2) + (km_r w f 64 2))) 3 (((upd (upd (upd f 0 ((f 0) + (km_r w f 64 0))) 1 (((upd f 0 ((f 0) + (km_r w f 64 0))) 1) + (km_r w f 64 1))) 2 (((upd (upd f 0 ((f 0) + (km_r w f 64 0))) 1 (((upd f 0 ((f 0) + (km_r w f 64 0))) 1) + (km_r w f 64 1))) 2) + (km_r w f 64 2))) 3) + (km_r w f 64 3))) 4 (((upd (upd (upd (upd f 0 ((f 0) + (km_r w f 64 0))) 1 (((upd f 0 ((f 0) + (km_r w f 64 0))) 1) + (km_r w f 64 1))) 2 (((upd (upd f 0 ((f 0) + (km_r w f 64 0))) 1 (((upd f 0 ((f 0) + (km_r w f 64 0))) 1) + (km_r w f 64 1))) 2) + (km_r w f 64 2))) 3 (((upd (upd (upd f 0 ((f 0) + (km_r w f 64 0))) 1 (((upd f 0 ((f 0) + (km_r w f 64 0))) 1) + (km_r w f 64 1))) 2 (((upd (upd f 0 ((f 0) + (km_r w f 64 0))) 1 (((upd f 0 ((f 0) + (km_r w f 64 0))) 1) + (km_r w f 64 1))) 2) + (km_r w f 64 2))) 3) + (km_r w f 64 3))) 4) + (km_r w f 64 4))) 5) + (km_r w f 64 5))) 6) + (km_r w f 64 6))) 7 (((upd (upd (upd (upd (upd (upd (upd f 0 ((f 0) + (km_r w f 64 0))) 1 (((upd f 0 ((f 0) + (km_r w f 64 0))) 1) + (km_r w f 64 1))) 2 (((upd (upd f 0 ((f 0) + (km_r w f 64 0))) 1 (((upd f 0 ((f 0) + (km_r w f 64 0))) 1) + (km_r w f 64 1))) 2) + (km_r w f 64 2))) 3 (((upd (upd (upd f 0 ((f 0) + (km_r w f 64 0))) 1 (((upd f 0 ((f 0) + (km_r w f 64 0))) 1) + (km_r w f 64 1))) 2 (((upd (upd f 0 ((f 0) + (km_r w f 64 0))) 1 (((upd f 0 ((f 0) + (km_r w f 64 0))) 1) + (km_r w f 64 1))) 2) + (km_r w f 64 2))) 3) + (km_r w f 64 3))) 4 (((upd (upd (upd (upd f 0 ((f 0) + (km_r w f 64 0))) 1 (((upd f 0 ((f 0) + (km_r w f 64 0))) 1) + (km_r w f 64 1))) 2 (((upd (upd f 0 ((f 0) + (km_r w f 64 0))) 1 (((upd f 0 ((f 0) + (km_r w f 64 0))) 1) + (km_r w f 64 1))) 2) + (km_r w f 64 2))) 3 (((upd (upd (upd f 0 ((f 0) + (km_r w f 64 0))) 1 (((upd f 0 ((f 0) + (km_r w f 64 0))) 1) + (km_r w f 64 1))) 2 (((upd (upd f 0 ((f 0) + (km_r w f 64 0))) 1 (((upd f 0 ((f 0) + (km_r w f 64 0))) 1) + (km_r w f 64 1))) 2) + (km_r w f 64 2))) 3) + (km_r w f 64 3))) 4) + (km_r w f 64 4))) 5 (((upd (upd (upd (upd (upd f 0 ((f 0) + (km_r w f 64 0))) 1 (((upd f 0 ((f 0) + (km_r w f 64 0))) 1) + (km_r w f 64 1))) 2 (((upd (upd f 0 ((f 0) + (km_r w f 64 0))) 1 (((upd f 0 ((f 0) + (km_r w f 64 0))) 1) + (km_r w f 64 1))) 2) + (km_r w f 64 2))) 3 (((upd (upd (upd f 0 ((f 0) + (km_r w f 64 0))) 1 (((upd f 0 ((f 0) + (km_r w f 64 0))) 1) + (km_r w f 64 1))) 2 (((upd (upd f 0 ((f 0) + (km_r w f 64 0))) 1 (((upd f 0 ((f 0) + (km_r w f 64 0))) 1) + (km_r w f 64 1))) 2) + (km_r w f 64 2))) 3) + (km_r w f 64 3))) 4 (((upd (upd (upd (upd f 0 ((f 0) + (km_r w f 64 0))) 1 (((upd f 0 ((f 0) + (km_r w f 64 0))) 1) + (km_r w f 64 1))) 2 (((upd (upd f 0 ((f 0) + (km_r w f 64 0))) 1 (((upd f 0 ((f 0) + (km_r w f 64 0))) 1) + (km_r w f 64 1))) 2) + (km_r w f 64 2))) 3 (((upd (upd (upd f 0 ((f 0) + (km_r w f 64 0))) 1 (((upd f 0 ((f 0) + (km_r w f 64 0))) 1) + (km_r w f 64 1))) 2 (((upd (upd f 0 ((f 0) + (km_r w f 64 0))) 1 (((upd f 0 ((f 0) + (km_r w f 64 0))) 1) + (km_r w f 64 1))) 2) + (km_r w f 64 2))) 3) + (km_r w f 64 3))) 4) + (km_r w f 64 4))) 5) + (km_r w f 64 5))) 6 (((upd (upd (upd (upd (upd (upd f 0 ((f 0) + (km_r w f 64 0))) 1 (((upd f 0 ((f 0) + (km_r w f 64 0))) 1) + (km_r w f 64 1))) 2 (((upd (upd f 0 ((f 0) + (km_r w f 64 0))) 1 (((upd f 0 ((f 0) + (km_r w f 64 0))) 1) + (km_r w f 64 1))) 2) + (km_r w f 64 2))) 3 (((upd (upd (upd f 0 ((f 0) + (km_r w f 64 0))) 1 (((upd f 0 ((f 0) + (km_r w f 64 0))) 1) + (km_r w f 64 1))) 2 (((upd (upd f 0 ((f 0) + (km_r w f 64 0))) 1 (((upd f 0 ((f 0) + (km_r w f 64 0))) 1) + (km_r w f 64 1))) 2) + (km_r w f 64 2))) 3) + (km_r w f 64 3))) 4 (((upd (upd (upd (upd f 0 ((f 0) + (km_r w f 64 0))) 1 (((upd f 0 ((f 0) + (km_r w f 64 0))) 1) + (km_r w f 64 1))) 2 (((upd (upd f 0 ((f 0) + (km_r w f 64 0))) 1 (((upd f 0 ((f 0) + (km_r w f 64 0))) 1) + (km_r w f 64 1))) 2) + (km_r w f 64 2))) 3 (((upd (upd (upd f 0 ((f 0) + (km_r w f 64 0))) 1 (((upd f 0 ((f 0) + (km_r w f 64 0))) 1) + (km_r w f 64 1))) 2 (((upd (upd f 0 ((f 0) + (km_r w f 64 0))) 1 (((upd f 0 ((f 0) + (km_r w f 64 0))) 1) + (km_r w f 64 1))) 2) + (km_r w f 64 2))) 3) + (km_r w f 64 3))) 4) + (km_r w f 64 4))) 5 (((upd (upd (upd (upd (upd f 0 ((f 0) + (km_r w f 64 0))) 1 (((upd f 0 ((f 0) + (km_r w f 64 0))) 1) + (km_r w f 64 1))) 2 (((upd (upd f 0 ((f 0) + (km_r w f 64 0))) 1 (((upd f 0 ((f 0) + (km_r w f 64 0))) 1) + (km_r w f 64 1))) 2) + (km_r w f 64 2))) 3 (((upd (upd (upd f 0 ((f 0) + (km_r w f 64 0))) 1 (((upd f 0 ((f 0) + (km_r w f 64 0))) 1) + (km_r w f 64 1))) 2 (((upd (upd f 0 ((f 0) + (km_r w f 64 0))) 1 (((upd f 0 ((f 0) + (km_r w f 64 0))) 1) + (km_r w f 64 1))) 2) + (km_r w f 64 2))) 3) + (km_r w f 64 3))) 4 (((upd (upd (upd (upd f 0 ((f 0) + (km_r w f 64 0))) 1 (((upd f 0 ((f 0) + (km_r w f 64 0))) 1) + (km_r w f 64 1))) 2 (((upd (upd f 0 ((f 0) + (km_r w f 64 0))) 1 (((upd f 0 ((f 0) + (km_r w f 64 0))) 1) + (km_r w f 64 1))) 2) + (km_r w f 64 2))) 3 (((upd (upd (upd f 0 ((f 0) + (km_r w f 64 0))) 1 (((upd f 0 ((f 0) + (km_r w f 64 0))) 1) + (km_r w f 64 1))) 2 (((upd (upd f 0 ((f 0) + (km_r w f 64 0))) 1 (((upd f 0 ((f 0) + (km_r w f 64 0))) 1) + (km_r w f 64 1))) 2) + (km_r w f 64 2))) 3) + (km_r w f 64 3))) 4) + (km_r w f 64 4))) 5) + (km_r w f 64 5))) 6) + (km_r w f 64 6))) 7) + (km_r w f 64 7))))), (q2, .inl (cI, 64, .inl w))] H := hP
    have hD : va_D A [(q0, .inr (1, [.ref q1, .ref q2, .int tk])), (q1, .inl (cI, 8, .inl (upd (upd (upd (upd (upd (upd (upd (upd f 0 ((f 0) + (km_r w f 64 0))) 1 (((upd f 0 ((f 0) + (km_r w f 64 0))) 1) + (km_r w f 64 1))) 2 (((upd (upd f 0 ((f 0) + (km_r w f 64 0))) 1 (((upd f 0 ((f 0) + (km_r w f 64 0))) 1) + (km_r w f 64 1))) 2) + (km_r w f 64 2))) 3 (((upd (upd (upd f 0 ((f 0) + (km_r w f 64 0))) 1 (((upd f 0 ((f 0) + (km_r w f 64 0))) 1) + (km_r w f 64 1))) 2 (((upd (upd f 0 ((f 0) + (km_r w f 64 0))) 1 (((upd f 0 ((f 0) + (km_r w f 64 0))) 1) + (km_r w f 64 1))) 2) + (km_r w f 64 2))) 3) + (km_r w f 64 3))) 4 (((upd (upd (upd (upd f 0 ((f 0) + (km_r w f 64 0))) 1 (((upd f 0 ((f 0) + (km_r w f 64 0))) 1) + (km_r w f 64 1))) 2 (((upd (upd f 0 ((f 0) + (km_r w f 64 0))) 1 (((upd f 0 ((f 0) + (km_r w f 64 0))) 1) + (km_r w f 64 1))) 2) + (km_r w f 64 2))) 3 (((upd (upd (upd f 0 ((f 0) + (km_r w f 64 0))) 1 (((upd f 0 ((f 0) + (km_r w f 64 0))) 1) + (km_r w f 64 1))) 2 (((upd (upd f 0 ((f 0) + (km_r w f 64 0))) 1 (((upd f 0 ((f 0) + (km_r w f 64 0))) 1) + (km_r w f 64 1))) 2) + (km_r w f 64 2))) 3) + (km_r w f 64 3))) 4) + (km_r w f 64 4))) 5 (((upd (upd (upd (upd (upd f 0 ((f 0) + (km_r w f 64 0))) 1 (((upd f 0 ((f 0) + (km_r w f 64 0))) 1) + (km_r w f 64 1))) 2 (((upd (upd f 0 ((f 0) + (km_r w f 64 0))) 1 (((upd f 0 ((f 0) + (km_r w f 64 0))) 1) + (km_r w f 64 1))) 2) + (km_r w f 64 2))) 3 (((upd (upd (upd f 0 ((f 0) + (km_r w f 64 0))) 1 (((upd f 0 ((f 0) + (km_r w f 64 0))) 1) + (km_r w f 64 1))) 2 (((upd (upd f 0 ((f 0) + (km_r w f 64 0))) 1 (((upd f 0 ((f 0) + (km_r w f 64 0))) 1) + (km_r w f 64 1))) 2) + (km_r w f 64 2))) 3) + (km_r w f 64 3))) 4 (((upd (upd (upd (upd f 0 ((f 0) + (km_r w f 64 0))) 1 (((upd f 0 ((f 0) + (km_r w f 64 0))) 1) + (km_r w f 64 1))) 2 (((upd (upd f 0 ((f 0) + (km_r w f 64 0))) 1 (((upd f 0 ((f 0) + (km_r w f 64 0))) 1) + (km_r w f 64 1))) 2) + (km_r w f 64 2))) 3 (((upd (upd (upd f 0 ((f 0) + (km_r w f 64 0))) 1 (((upd f 0 ((f 0) + (km_r w f 64 0))) 1) + (km_r w f 64 1))) 2 (((upd (upd f 0 ((f 0) + (km_r w f 64 0))) 1 (((upd f 0 ((f 0) + (km_r w f 64 0))) 1) + (km_r w f 64 1))) 2) + (km_r w f 64 2))) 3) + (km_r w f 64 3))) 4) + (km_r w f 64 4))) 5) + (km_r w f 64 5))) 6 (((upd (upd (upd (upd (upd (upd f 0 ((f 0) + (km_r w f 64 0))) 1 (((upd f 0 ((f 0) + (km_r w f 64 0))) 1) + (km_r w f 64 1))) 2 (((upd (upd f 0 ((f 0) + (km_r w f 64 0))) 1 (((upd f 0 ((f 0) + (km_r w f 64 0))) 1) + (km_r w f 64 1))) 2) + (km_r w f 64 2))) 3 (((upd (upd (upd f 0 ((f 0) + (km_r w f 64 0))) 1 (((upd f 0 ((f 0) + (km_r w f 64 0))) 1) + (km_r w f 64 1))) 2 (((upd (upd f 0 ((f 0) + (km_r w f 64 0))) 1 (((upd f 0 ((f 0) + (km_r w f 64 0))) 1) + (km_r w f 64 1))) 2) + (km_r w f 64 2))) 3) + (km_r w f 64 3))) 4 (((upd (upd (upd (upd f 0 ((f 0) + (km_r w f 64 0))) 1 (((upd f 0 ((f 0) + (km_r w f 64 0))) 1) + (km_r w f 64 1))) 2 (((upd (upd f 0 ((f 0) + (km_r w f 64 0))) 1 (((upd f 0 ((f 0) + (km_r w f 64 0))) 1) + (km_r w f 64 1))) 2) + (km_r w f 64 2))) 3 (((upd (upd (upd f 0 ((f 0) + (km_r w f 64 0))) 1 (((upd f 0 ((f 0) + (km_r w f 64 0))) 1) + (km_r w f 64 1))) 2 (((upd (upd f 0 ((f 0) + (km_r w f 64 0))) 1 (((upd f 0 ((f 0) + (km_r w f 64 0))) 1) + (km_r w f 64 1))) 2) + (km_r w f 64 2))) 3) + (km_r w f 64 3))) 4) + (km_r w f 64 4))) 5 (((upd (upd (upd (upd (upd f 0 ((f 0) + (km_r w f 64 0))) 1 (((upd f 0 ((f 0) + (km_r w f 64 0))) 1) + (km_r w f 64 1))) 2 (((upd (upd f 0 ((f 0) + (km_r w f 64 0))) 1 (((upd f 0 ((f 0) + (km_r w f 64 0))) 1) + (km_r w f 64 1))) 2) + (km_r w f 64 2))) 3 (((upd (upd (upd f 0 ((f 0) + (km_r w f 64 0))) 1 (((upd f 0 ((f 0) + (km_r w f 64 0))) 1) + (km_r w f 64 1))) 2 (((upd (upd f 0 ((f 0) + (km_r w f 64 0))) 1 (((upd f 0 ((f 0) + (km_r w f 64 0))) 1) + (km_r w f 64 1))) 2) + (km_r w f 64 2))) 3) + (km_r w f 64 3))) 4 (((upd (upd (upd (upd f 0 ((f 0) + (km_r w f 64 0))) 1 (((upd f 0 ((f 0) + (km_r w f 64 0))) 1) + (km_r w f 64 1))) 2 (((upd (upd f 0 ((f 0) + (km_r w f 64 0))) 1 (((upd f 0 ((f 0) + (km_r w f 64 0))) 1) + (km_r w f 64 1))) 2) + (km_r w f 64 2))) 3 (((upd (upd (upd f 0 ((f 0) + (km_r w f 64 0))) 1 (((upd f 0 ((f 0) + (km_r w f 64 0))) 1) + (km_r w f 64 1))) 2 (((upd (upd f 0 ((f 0) + (km_r w f 64 0))) 1 (((upd f 0 ((f 0) + (km_r w f 64 0))) 1) + (km_r w f 64 1))) 2) + (km_r w f 64 2))) 3) + (km_r w f 64 3))) 4) + (km_r w f 64 4))) 5) + (km_r w f 64 5))) 6) + (km_r w f 64 6))) 7 (((upd (upd (upd (upd (upd (upd (upd f 0 ((f 0) + (km_r w f 64 0))) 1 (((upd f 0 ((f 0) + (km_r w f 64 0))) 1) + (km_r w f 64 1))) 2 (((upd (upd f 0 ((f 0) + (km_r w f 64 0))) 1 (((upd f 0 ((f 0) + (km_r w f 64 0))) 1) + (km_r w f 64 1))) 2) + (km_r w f 64 2))) 3 (((upd (upd (upd f 0 ((f 0) + (km_r w f 64 0))) 1 (((upd f 0 ((f 0) + (km_r w f 64 0))) 1) + (km_r w f 64 1))) 2 (((upd (upd f 0 ((f 0) + (km_r w f 64 0))) 1 (((upd f 0 ((f 0) + (km_r w f 64 0))) 1) + (km_r w f 64 1))) 2) + (km_r w f 64 2))) 3) + (km_r w f 64 3))) 4 (((upd (upd (upd (upd f 0 ((f 0) + (km_r w f 64 0))) 1 (((upd f 0 ((f 0) + (km_r w f 64 0))) 1) + (km_r w f 64 1))) 2 (((upd (upd f 0 ((f 0) + (km_r w f 64 0))) 1 (((upd f 0 ((f 0) + (km_r w f 64 0))) 1) + (km_r w f 64 1))) 2) + (km_r w f 64 2))) 3 (((upd (upd (upd f 0 ((f 0) + (km_r w f 64 0))) 1 (((upd f 0 ((f 0) + (km_r w f 64 0))) 1) + (km_r w f 64 1))) 2 (((upd (upd f 0 ((f 0) + (km_r w f 64 0))) 1 (((upd f 0 ((f 0) + (km_r w f 64 0))) 1) + (km_r w f 64 1))) 2) + (km_r w f 64 2))) 3) + (km_r w f 64 3))) 4) + (km_r w f 64 4))) 5 (((upd (upd (upd (upd (upd f 0 ((f 0) + (km_r w f 64 0))) 1 (((upd f 0 ((f 0) + (km_r w f 64 0))) 1) + (km_r w f 64 1))) 2 (((upd (upd f 0 ((f 0) + (km_r w f 64 0))) 1 (((upd f 0 ((f 0) + (km_r w f 64 0))) 1) + (km_r w f 64 1))) 2) + (km_r w f 64 2))) 3 (((upd (upd (upd f 0 ((f 0) + (km_r w f 64 0))) 1 (((upd f 0 ((f 0) + (km_r w f 64 0))) 1) + (km_r w f 64 1))) 2 (((upd (upd f 0 ((f 0) + (km_r w f 64 0))) 1 (((upd f 0 ((f 0) + (km_r w f 64 0))) 1) + (km_r w f 64 1))) 2) + (km_r w f 64 2))) 3) + (km_r w f 64 3))) 4 (((upd (upd (upd (upd f 0 ((f 0) + (km_r w f 64 0))) 1 (((upd f 0 ((f 0) + (km_r w f 64 0))) 1) + (km_r w f 64 1))) 2 (((upd (upd f 0 ((f 0) + (km_r w f 64 0))) 1 (((upd f 0 ((f 0) + (km_r w f 64 0))) 1) + (km_r w f 64 1))) 2) + (km_r w f 64 2))) 3 (((upd (upd (upd f 0 ((f 0) + (km_r w f 64 0))) 1 (((upd f 0 ((f 0) + (km_r w f 64 0))) 1) + (km_r w f 64 1))) 2 (((upd (upd f 0 ((f 0) + (km_r w f 64 0))) 1 (((upd f 0 ((f 0) + (km_r w f 64 0))) 1) + (km_r w f 64 1))) 2) + (km_r w f 64 2))) 3) + (km_r w f 64 3))) 4) + (km_r w f 64 4))) 5) + (km_r w f 64 5))) 6 (((upd (upd (upd (upd (upd (upd f 0 ((f 0) + (km_r w f 64 0))) 1 (((upd f 0 ((f 0) + (km_r w f 64 0))) 1) + (km_r w f 64 1))) 2 (((upd (upd f 0 ((f 0) + (km_r w f 64 0))) 1 (((upd f 0 ((f 0) + (km_r w f 64 0))) 1) + (km_r w f 64 1))) 2) + (km_r w f 64 2))) 3 (((upd (upd (upd f 0 ((f 0) + (km_r w f 64 0))) 1 (((upd f 0 ((f 0) + (km_r w f 64 0))) 1) + (km_r w f 64 1))) 2 (((upd (upd f 0 ((f 0) + (km_r w f 64 0))) 1 (((upd f 0 ((f 0) + (km_r w f 64 0))) 1) + (km_r w f 64 1))) 2) + (km_r w f 64 2))) 3) + (km_r w f 64 3))) 4 (((upd (upd (upd (upd f 0 ((f 0) + (km_r w f 64 0))) 1 (((upd f 0 ((f 0) + (km_r w f 64 0))) 1) + (km_r w f 64 1))) 2 (((upd (upd f 0 ((f 0) + (km_r w f 64 0))) 1 (((upd f 0 ((f 0) + (km_r w f 64 0))) 1) + (km_r w f 64 1))) 2) + (km_r w f 64 2))) 3 (((upd (upd (upd f 0 ((f 0) + (km_r w f 64 0))) 1 (((upd f 0 ((f 0) + (km_r w f 64 0))) 1) + (km_r w f 64 1))) 2 (((upd (upd f 0 ((f 0) + (km_r w f 64 0))) 1 (((upd f 0 ((f 0) + (km_r w f 64 0))) 1) + (km_r w f 64 1))) 2) + (km_r w f 64 2))) 3) + (km_r w f 64 3))) 4) + (km_r w f 64 4))) 5 (((upd (upd (upd (upd (upd f 0 ((f 0) + (km_r w f 64 0))) 1 (((upd f 0 ((f 0) + (km_r w f 64 0))) 1) + (km_r w f 64 1))) 2 (((upd (upd f 0 ((f 0) + (km_r w f 64 0))) 1 (((upd f 0 ((f 0) + (km_r w f 64 0))) 1) + (km_r w f 64 1))) 2) + (km_r w f 64 2))) 3 (((upd (upd (upd f 0 ((f 0) + (km_r w f 64 0))) 1 (((upd f 0 ((f 0) + (km_r w f 64 0))) 1) + (km_r w f 64 1))) 2 (((upd (upd f 0 ((f 0) + (km_r w f 64 0))) 1 (((upd f 0 ((f 0) + (km_r w f 64 0))) 1) + (km_r w f 64 1))) 2) + (km_r w f 64 2))) 3) + (km_r w f 64 3))) 4 (((upd (upd (upd (upd f 0 ((f 0) + (km_r w f 64 0))) 1 (((upd f 0 ((f 0) + (km_r w f 64 0))) 1) + (km_r w f 64 1))) 2 (((upd (upd f 0 ((f 0) + (km_r w f 64 0))) 1 (((upd f 0 ((f 0) + (km_r w f 64 0))) 1) + (km_r w f 64 1))) 2) + (km_r w f 64 2))) 3 (((upd (upd (upd f 0 ((f 0) + (km_r w f 64 0))) 1 (((upd f 0 ((f 0) + (km_r w f 64 0))) 1) + (km_r w f 64 1))) 2 (((upd (upd f 0 ((f 0) + (km_r w f 64 0))) 1 (((upd f 0 ((f 0) + (km_r w f 64 0))) 1) + (km_r w f 64 1))) 2) + (km_r w f 64 2))) 3) + (km_r w f 64 3))) 4) + (km_r w f 64 4))) 5) + (km_r w f 64 5))) 6) + (km_r w f 64 6))) 7) + (km_r w f 64 7))))), (q2, .inl (cI, 64, .inl w))] := hD
    have hP := xp_fun hP 1 (fun j => f j + km_r w f 64 j) rfl (fun j hj => by rcases (show j = 0 ∨ j = 1 ∨ j = 2 ∨ j = 3 ∨ j = 4 ∨ j = 5 ∨ j = 6 ∨ j = 7 by omega) with rfl | rfl | rfl | rfl | rfl | rfl | rfl | rfl <;> rfl)
    have hD := hD.set (p := 1) (e := .inl (cI, 8, .inl (fun j => f j + km_r w f 64 j))) rfl
    have hP : va_P G classes [(q0, .inr (1, [.ref q1, .ref q2, .int tk])), (q1, .inl (cI, 8, .inl (fun j => f j + km_r w f 64 j))), (q2, .inl (cI, 64, .inl w))] H := hP
    have hD : va_D A [(q0, .inr (1, [.ref q1, .ref q2, .int tk])), (q1, .inl (cI, 8, .inl (fun j => f j + km_r w f 64 j))), (q2, .inl (cI, 64, .inl w))] := hD
    exact xe_v (()) hx hb hr hlk hK (trivial) hP hD hS d_Summer_mixWords_255 (by decide) (by decide)
  · have hc1 : ¬ 64 ≤ t := fun z => hc1 ((nI_leI (a := 64) (b := t) (by omega) (by omega)).mpr z)
    refine lv_iload hx hb d_Summer_mixWords_73 (lv_at hl 8 rfl) ?_
    refine lv_iload hx hb d_Summer_mixWords_75 (lv_at hl 5 rfl) ?_
    refine xc_i (wr := [(q0, .inr (1, [.ref q1, .ref q2, .int tk])), (q1, .inl (cI, 8, .inl f)), (q2, .inl (cI, 64, .inl w))]) (va_runS (As := [.int (km_r w f t 4)]) (rest := [.int (km_r w f t 7)]) ⟨hx, hb, hml, hown, hts⟩ (c_y1 l G cI cB tK tH H.size (km_r w f t 4) ) (va_cwS 1 hts (xg_S tw_193 tw_194 tw_18 tw_195) rfl rfl rfl (by decide +kernel) ⟨Nat.le_of_ble_eq_true rfl, Nat.le_of_ble_eq_true rfl⟩) (xc_pre hK hst hA hP hD hS [] (by decide) rfl [.int (km_r w f t 4)]) rfl rfl hl.1 rfl (lv_room (Nat.le_of_ble_eq_true rfl)) d_Summer_mixWords_77 ⟨Nat.le_of_ble_eq_true rfl, Nat.le_of_ble_eq_true rfl⟩) hA hP hD hS [] [0, 1, 2] rfl rfl (by decide) (by decide) (fun r3 u2 H locs hp hP hD hS => ?_)
    have hP : va_P G classes [(q0, .inr (1, [.ref q1, .ref q2, .int tk])), (q1, .inl (cI, 8, .inl f)), (q2, .inl (cI, 64, .inl w))] H := hP
    have hD : va_D A [(q0, .inr (1, [.ref q1, .ref q2, .int tk])), (q1, .inl (cI, 8, .inl f)), (q2, .inl (cI, 64, .inl w))] := hD
    obtain rfl : r3 = km_y1 (km_r w f t 4) := hp
    refine lv_iadd hx hb d_Summer_mixWords_80 ?_
    refine lv_iload hx hb d_Summer_mixWords_81 (lv_at hl 5 rfl) ?_
    refine lv_iload hx hb d_Summer_mixWords_83 (lv_at hl 6 rfl) ?_
    refine lv_iand hx hb d_Summer_mixWords_85 ?_
    refine lv_iload hx hb d_Summer_mixWords_86 (lv_at hl 5 rfl) ?_
    refine lv_iconst (v := (-1)) hx hb d_Summer_mixWords_88 (by decide) ?_
    refine lv_ixor hx hb d_Summer_mixWords_89 ?_
    refine lv_iload hx hb d_Summer_mixWords_90 (lv_at hl 7 rfl) ?_
    refine lv_iand hx hb d_Summer_mixWords_92 ?_
    refine lv_ixor hx hb d_Summer_mixWords_93 ?_
    refine lv_iadd hx hb d_Summer_mixWords_94 ?_
    refine va_getsN hx hb hst.1 hS hown (va_Nw.use rfl (hst.nest 4 rfl)) (fun _ h9 => h9) d_Summer_mixWords_95 ?_
    refine lv_iload hx hb d_Summer_mixWords_98 (lv_at hl 0 rfl) ?_
    refine xa_ti (k := t) hx hb hst.2.2.1 hS (by omega) (by omega) d_Summer_mixWords_100 ?_
    refine lv_iadd hx hb d_Summer_mixWords_101 ?_
    refine lv_aload_n hx hb d_Summer_mixWords_102 rfl (lv_at hl 9 rfl) ?_
    refine va_get (D := G) (ci := 1) (v := .ref q2) (C := R_Summer) (T := F_Summer) (N := 3) hx hb hts hi_Summer hown hK hP 0 rfl rfl 1 (by decide) (hts _ tw_40) (fun _ h9 => h9) rfl d_Summer_mixWords_103 ?_
    refine lv_iload hx hb d_Summer_mixWords_106 (lv_at hl 0 rfl) ?_
    refine xa_iald (k := t) (f := w) hx hb hK hP 2 0 rfl rfl (by omega) (by omega) d_Summer_mixWords_108 ?_
    refine lv_iadd hx hb d_Summer_mixWords_109 ?_
    refine lv_topi (fun y4 ey4 => ?_)
    obtain rfl : y4 = km_u (kK t) (w t) (km_r w f t) := ey4.trans (rfl)
    refine lv_istore (lv' := [(10, .int (km_u (kK t) (w t) (km_r w f t))), (9, .int (nI t)), (1, .int (km_r w f t 0)), (2, .int (km_r w f t 1)), (3, .int (km_r w f t 2)), (4, .int (km_r w f t 3)), (5, .int (km_r w f t 4)), (6, .int (km_r w f t 5)), (7, .int (km_r w f t 6)), (8, .int (km_r w f t 7)), (0, .ref q0)]) hx hb d_Summer_mixWords_110 hl (by decide) rfl (fun ls hl => ?_)
    refine lv_iload_n hx hb d_Summer_mixWords_112 rfl (lv_at hl 2 rfl) ?_
    refine xc_i (wr := [(q0, .inr (1, [.ref q1, .ref q2, .int tk])), (q1, .inl (cI, 8, .inl f)), (q2, .inl (cI, 64, .inl w))]) (va_runS (As := [.int (km_r w f t 0)]) (rest := []) ⟨hx, hb, hml, hown, hts⟩ (c_y0 l G cI cB tK tH H.size (km_r w f t 0) ) (va_cwS 1 hts (xg_S tw_198 tw_199 tw_18 tw_200) rfl rfl rfl (by decide +kernel) ⟨Nat.le_of_ble_eq_true rfl, Nat.le_of_ble_eq_true rfl⟩) (xc_pre hK hst hA hP hD hS [] (by decide) rfl [.int (km_r w f t 0)]) rfl rfl hl.1 rfl (lv_room (Nat.le_of_ble_eq_true rfl)) d_Summer_mixWords_113 ⟨Nat.le_of_ble_eq_true rfl, Nat.le_of_ble_eq_true rfl⟩) hA hP hD hS [] [0, 1, 2] rfl rfl (by decide) (by decide) (fun r6 u5 H locs hp hP hD hS => ?_)
    have hP : va_P G classes [(q0, .inr (1, [.ref q1, .ref q2, .int tk])), (q1, .inl (cI, 8, .inl f)), (q2, .inl (cI, 64, .inl w))] H := hP
    have hD : va_D A [(q0, .inr (1, [.ref q1, .ref q2, .int tk])), (q1, .inl (cI, 8, .inl f)), (q2, .inl (cI, 64, .inl w))] := hD
    obtain rfl : r6 = km_y0 (km_r w f t 0) := hp
    refine lv_iload_n hx hb d_Summer_mixWords_116 rfl (lv_at hl 2 rfl) ?_
    refine lv_iload_n hx hb d_Summer_mixWords_117 rfl (lv_at hl 3 rfl) ?_
    refine lv_iand hx hb d_Summer_mixWords_118 ?_
    refine lv_iload_n hx hb d_Summer_mixWords_119 rfl (lv_at hl 2 rfl) ?_
    refine lv_iload_n hx hb d_Summer_mixWords_120 rfl (lv_at hl 4 rfl) ?_
    refine lv_iand hx hb d_Summer_mixWords_121 ?_
    refine lv_ixor hx hb d_Summer_mixWords_122 ?_
    refine lv_iload_n hx hb d_Summer_mixWords_123 rfl (lv_at hl 3 rfl) ?_
    refine lv_iload_n hx hb d_Summer_mixWords_124 rfl (lv_at hl 4 rfl) ?_
    refine lv_iand hx hb d_Summer_mixWords_125 ?_
    refine lv_ixor hx hb d_Summer_mixWords_126 ?_
    refine lv_iadd hx hb d_Summer_mixWords_127 ?_
    refine lv_topi (fun y7 ey7 => ?_)
    obtain rfl : y7 = km_v (km_r w f t) := ey7.trans (rfl)
    refine lv_istore (lv' := [(11, .int (km_v (km_r w f t))), (10, .int (km_u (kK t) (w t) (km_r w f t))), (9, .int (nI t)), (1, .int (km_r w f t 0)), (2, .int (km_r w f t 1)), (3, .int (km_r w f t 2)), (4, .int (km_r w f t 3)), (5, .int (km_r w f t 4)), (6, .int (km_r w f t 5)), (7, .int (km_r w f t 6)), (8, .int (km_r w f t 7)), (0, .ref q0)]) hx hb d_Summer_mixWords_128 hl (by decide) rfl (fun ls hl => ?_)
    refine lv_iload hx hb d_Summer_mixWords_130 (lv_at hl 9 rfl) ?_
    refine lv_istore (lv' := [(8, .int (km_r w f t 6)), (11, .int (km_v (km_r w f t))), (10, .int (km_u (kK t) (w t) (km_r w f t))), (9, .int (nI t)), (1, .int (km_r w f t 0)), (2, .int (km_r w f t 1)), (3, .int (km_r w f t 2)), (4, .int (km_r w f t 3)), (5, .int (km_r w f t 4)), (6, .int (km_r w f t 5)), (7, .int (km_r w f t 6)), (0, .ref q0)]) hx hb d_Summer_mixWords_132 hl (by decide) rfl (fun ls hl => ?_)
    refine lv_iload hx hb d_Summer_mixWords_134 (lv_at hl 9 rfl) ?_
    refine lv_istore (lv' := [(7, .int (km_r w f t 5)), (8, .int (km_r w f t 6)), (11, .int (km_v (km_r w f t))), (10, .int (km_u (kK t) (w t) (km_r w f t))), (9, .int (nI t)), (1, .int (km_r w f t 0)), (2, .int (km_r w f t 1)), (3, .int (km_r w f t 2)), (4, .int (km_r w f t 3)), (5, .int (km_r w f t 4)), (6, .int (km_r w f t 5)), (0, .ref q0)]) hx hb d_Summer_mixWords_136 hl (by decide) rfl (fun ls hl => ?_)
    refine lv_iload hx hb d_Summer_mixWords_138 (lv_at hl 9 rfl) ?_
    refine lv_istore (lv' := [(6, .int (km_r w f t 4)), (7, .int (km_r w f t 5)), (8, .int (km_r w f t 6)), (11, .int (km_v (km_r w f t))), (10, .int (km_u (kK t) (w t) (km_r w f t))), (9, .int (nI t)), (1, .int (km_r w f t 0)), (2, .int (km_r w f t 1)), (3, .int (km_r w f t 2)), (4, .int (km_r w f t 3)), (5, .int (km_r w f t 4)), (0, .ref q0)]) hx hb d_Summer_mixWords_140 hl (by decide) rfl (fun ls hl => ?_)
    refine lv_iload hx hb d_Summer_mixWords_142 (lv_at hl 9 rfl) ?_
    refine lv_iload hx hb d_Summer_mixWords_144 (lv_at hl 4 rfl) ?_
    refine lv_iadd hx hb d_Summer_mixWords_146 ?_
    refine lv_istore (lv' := [(5, .int ((km_r w f t 3) + (km_u (kK t) (w t) (km_r w f t)))), (6, .int (km_r w f t 4)), (7, .int (km_r w f t 5)), (8, .int (km_r w f t 6)), (11, .int (km_v (km_r w f t))), (10, .int (km_u (kK t) (w t) (km_r w f t))), (9, .int (nI t)), (1, .int (km_r w f t 0)), (2, .int (km_r w f t 1)), (3, .int (km_r w f t 2)), (4, .int (km_r w f t 3)), (0, .ref q0)]) hx hb d_Summer_mixWords_147 hl (by decide) rfl (fun ls hl => ?_)
    refine lv_iload_n hx hb d_Summer_mixWords_149 rfl (lv_at hl 9 rfl) ?_
    refine lv_istore (lv' := [(4, .int (km_r w f t 2)), (5, .int ((km_r w f t 3) + (km_u (kK t) (w t) (km_r w f t)))), (6, .int (km_r w f t 4)), (7, .int (km_r w f t 5)), (8, .int (km_r w f t 6)), (11, .int (km_v (km_r w f t))), (10, .int (km_u (kK t) (w t) (km_r w f t))), (9, .int (nI t)), (1, .int (km_r w f t 0)), (2, .int (km_r w f t 1)), (3, .int (km_r w f t 2)), (0, .ref q0)]) hx hb d_Summer_mixWords_150 hl (by decide) rfl (fun ls hl => ?_)
    refine lv_iload_n hx hb d_Summer_mixWords_152 rfl (lv_at hl 9 rfl) ?_
    refine lv_istore_n (lv' := [(3, .int (km_r w f t 1)), (4, .int (km_r w f t 2)), (5, .int ((km_r w f t 3) + (km_u (kK t) (w t) (km_r w f t)))), (6, .int (km_r w f t 4)), (7, .int (km_r w f t 5)), (8, .int (km_r w f t 6)), (11, .int (km_v (km_r w f t))), (10, .int (km_u (kK t) (w t) (km_r w f t))), (9, .int (nI t)), (1, .int (km_r w f t 0)), (2, .int (km_r w f t 1)), (0, .ref q0)]) hx hb d_Summer_mixWords_153 rfl hl (by decide) rfl (fun ls hl => ?_)
    refine lv_iload_n hx hb d_Summer_mixWords_154 rfl (lv_at hl 9 rfl) ?_
    refine lv_istore_n (lv' := [(2, .int (km_r w f t 0)), (3, .int (km_r w f t 1)), (4, .int (km_r w f t 2)), (5, .int ((km_r w f t 3) + (km_u (kK t) (w t) (km_r w f t)))), (6, .int (km_r w f t 4)), (7, .int (km_r w f t 5)), (8, .int (km_r w f t 6)), (11, .int (km_v (km_r w f t))), (10, .int (km_u (kK t) (w t) (km_r w f t))), (9, .int (nI t)), (1, .int (km_r w f t 0)), (0, .ref q0)]) hx hb d_Summer_mixWords_155 rfl hl (by decide) rfl (fun ls hl => ?_)
    refine lv_iload hx hb d_Summer_mixWords_156 (lv_at hl 8 rfl) ?_
    refine lv_iload hx hb d_Summer_mixWords_158 (lv_at hl 7 rfl) ?_
    refine lv_iadd hx hb d_Summer_mixWords_160 ?_
    refine lv_istore_n (lv' := [(1, .int ((km_u (kK t) (w t) (km_r w f t)) + (km_v (km_r w f t)))), (2, .int (km_r w f t 0)), (3, .int (km_r w f t 1)), (4, .int (km_r w f t 2)), (5, .int ((km_r w f t 3) + (km_u (kK t) (w t) (km_r w f t)))), (6, .int (km_r w f t 4)), (7, .int (km_r w f t 5)), (8, .int (km_r w f t 6)), (11, .int (km_v (km_r w f t))), (10, .int (km_u (kK t) (w t) (km_r w f t))), (9, .int (nI t)), (0, .ref q0)]) hx hb d_Summer_mixWords_161 rfl hl (by decide) rfl (fun ls hl => ?_)
    refine lv_iinc (k := 10) (v := nI (t + 1)) (lv' := [(9, .int (nI (t + 1))), (1, .int ((km_u (kK t) (w t) (km_r w f t)) + (km_v (km_r w f t)))), (2, .int (km_r w f t 0)), (3, .int (km_r w f t 1)), (4, .int (km_r w f t 2)), (5, .int ((km_r w f t 3) + (km_u (kK t) (w t) (km_r w f t)))), (6, .int (km_r w f t 4)), (7, .int (km_r w f t 5)), (8, .int (km_r w f t 6)), (11, .int (km_v (km_r w f t))), (10, .int (km_u (kK t) (w t) (km_r w f t))), (0, .ref q0)]) hx hb d_Summer_mixWords_162 hl rfl (nI_1 t) (by decide) rfl (fun ls hl => ?_)
    refine lv_goto (tgt := 66) hx hb d_Summer_mixWords_165 (by decide) ?_
    exact ih66 _ (by omega) _ _ _ ⟨t + 1, rfl, lv_sub hl [0, 1, 2, 3, 4, 5, 6, 7, 8, 11] rfl, hP, hD, hS, by omega⟩
set_option maxHeartbeats 4000000 in
set_option maxRecDepth 100000 in
theorem c_take (l : Launch) (G : va_G) (cI cB : ClassId) (tK tH sz : Nat) (q0 q1 q2 : Nat) (m w : Nat → Int32) (n : Nat) (hn : n < 1000) (hok : km_ok m n w) (hm : kr (m n)) : xMv l G cI cB tK tH y_Summer_take b_Summer_take 4 none ({ frames := 3, cells := 0, slots := 0, locals := 72 }) [.ref q0, .int (m n)] sz [(q0, .inr (1, [.ref q1, .ref q2, .int (nI n)])), (q1, .inl (cI, 8, .inl (km_h m (n / 64)))), (q2, .inl (cI, 64, .inl w))] (fun u => km_ok m (n + 1) u) (fun u : Nat → Int32 => [(q0, .inr (1, [.ref q1, .ref q2, .int (nI (n + 1))])), (q1, .inl (cI, 8, .inl (km_h m ((n + 1) / 64)))), (q2, .inl (cI, 64, .inl u))]) := by
  refine xMv.of (lv := [(0, .ref q0), (1, .int (m n))]) (by decide) (Nat.le_of_ble_eq_true rfl) rfl ?_
  intro pp ee ss mm bel met cod A ls H locs hx hb hml hr hlk hts hown hnm hA hK hst hP hD hS hl
  have hown : ss.vm.findClass R_Summer = some mm.cls := hown
  refine lv_aload_n hx hb d_Summer_take_0 rfl (lv_at hl 0 rfl) ?_
  refine va_get (D := G) (ci := 1) (v := .int (nI n)) (C := R_Summer) (T := F_Summer) (N := 3) hx hb hts hi_Summer hown hK hP 0 rfl rfl 2 (by decide) (hts _ tw_41) (fun _ h9 => h9) rfl d_Summer_take_1 ?_
  refine lv_bipush (v := 63) hx hb d_Summer_take_4 (by decide) ?_
  refine lv_iand hx hb d_Summer_take_6 ?_
  refine lv_topi (fun y1 ey1 => ?_)
  obtain rfl : y1 = nI (n % 64) := ey1.trans (pk_andN (by omega) 6 (by decide))
  refine lv_istore_n (lv' := [(2, .int (nI (n % 64))), (0, .ref q0), (1, .int (m n))]) hx hb d_Summer_take_7 rfl hl (by decide) rfl (fun ls hl => ?_)
  refine lv_iload_n hx hb d_Summer_take_8 rfl (lv_at hl 0 rfl) ?_
  refine lv_iconst (v := 4) hx hb d_Summer_take_9 (by decide) ?_
  refine lv_idiv hx hb d_Summer_take_10 (by decide) ?_
  refine lv_topi (fun y2 ey2 => ?_)
  obtain rfl : y2 = nI (n % 64 / 4) := ey2.trans (pk_div (a := n % 64) (d := 4) (by omega) (by omega) (by omega))
  refine lv_istore_n (lv' := [(3, .int (nI (n % 64 / 4))), (2, .int (nI (n % 64))), (0, .ref q0), (1, .int (m n))]) hx hb d_Summer_take_11 rfl hl (by decide) rfl (fun ls hl => ?_)
  refine lv_aload_n hx hb d_Summer_take_12 rfl (lv_at hl 2 rfl) ?_
  refine va_get (D := G) (ci := 1) (v := .ref q2) (C := R_Summer) (T := F_Summer) (N := 3) hx hb hts hi_Summer hown hK hP 0 rfl rfl 1 (by decide) (hts _ tw_40) (fun _ h9 => h9) rfl d_Summer_take_13 ?_
  refine lv_iload_n hx hb d_Summer_take_16 rfl (lv_at hl 0 rfl) ?_
  refine lv_aload_n hx hb d_Summer_take_17 rfl (lv_at hl 2 rfl) ?_
  refine va_get (D := G) (ci := 1) (v := .ref q2) (C := R_Summer) (T := F_Summer) (N := 3) hx hb hts hi_Summer hown hK hP 0 rfl rfl 1 (by decide) (hts _ tw_40) (fun _ h9 => h9) rfl d_Summer_take_18 ?_
  refine lv_iload_n hx hb d_Summer_take_21 rfl (lv_at hl 0 rfl) ?_
  refine xa_iald (k := n % 64 / 4) (f := w) hx hb hK hP 2 0 rfl rfl (by omega) (by omega) d_Summer_take_22 ?_
  refine lv_bipush (v := 8) hx hb d_Summer_take_23 (by decide) ?_
  refine lv_ishl hx hb d_Summer_take_25 ?_
  refine lv_iload_n hx hb d_Summer_take_26 rfl (lv_at hl 3 rfl) ?_
  refine lv_ior hx hb d_Summer_take_27 ?_
  refine xa_iast (k := n % 64 / 4) (f := w) (x := ((w (n % 64 / 4)) <<< (8 &&& 31)) ||| (m n)) hx hb hK hP hD hS 2 0 rfl rfl (by omega) (by omega) d_Summer_take_28 (fun H locs hP hD hS => ?_)
  have hP : va_P G classes [(q0, .inr (1, [.ref q1, .ref q2, .int (nI n)])), (q1, .inl (cI, 8, .inl (km_h m (n / 64)))), (q2, .inl (cI, 64, .inl (upd w (n % 64 / 4) (((w (n % 64 / 4)) <<< (8 &&& 31)) ||| (m n)))))] H := hP
  have hD : va_D A [(q0, .inr (1, [.ref q1, .ref q2, .int (nI n)])), (q1, .inl (cI, 8, .inl (km_h m (n / 64)))), (q2, .inl (cI, 64, .inl (upd w (n % 64 / 4) (((w (n % 64 / 4)) <<< (8 &&& 31)) ||| (m n)))))] := hD
  refine lv_aload_n hx hb d_Summer_take_29 rfl (lv_at hl 2 rfl) ?_
  refine lv_dup hx hb d_Summer_take_30 rfl ?_
  refine va_get (D := G) (ci := 1) (v := .int (nI n)) (C := R_Summer) (T := F_Summer) (N := 3) hx hb hts hi_Summer hown hK hP 0 rfl rfl 2 (by decide) (hts _ tw_41) (fun _ h9 => h9) rfl d_Summer_take_31 ?_
  refine lv_iconst (v := 1) hx hb d_Summer_take_34 (by decide) ?_
  refine lv_iadd hx hb d_Summer_take_35 ?_
  refine lv_topi (fun y3 ey3 => ?_)
  obtain rfl : y3 = nI (n + 1) := ey3.trans (nI_add n 1)
  refine va_put (D := G) (ci := 1) (v := .int (nI (n + 1))) (ty := .int) (C := R_Summer) (T := F_Summer) (N := 3) hx hb hts hi_Summer t_Summer t_Summer_ok n_Summer hown hK hP hD hS 0 rfl rfl 2 (by decide) (hts _ tw_41) (fun _ h9 => h9) rfl (by decide +kernel) rfl rfl (Nat.le_of_ble_eq_true rfl) d_Summer_take_36 (fun H locs hP hD hS => ?_)
  have hP : va_P G classes [(q0, .inr (1, [.ref q1, .ref q2, .int (nI (n + 1))])), (q1, .inl (cI, 8, .inl (km_h m (n / 64)))), (q2, .inl (cI, 64, .inl (upd w (n % 64 / 4) (((w (n % 64 / 4)) <<< (8 &&& 31)) ||| (m n)))))] H := hP
  have hD : va_D A [(q0, .inr (1, [.ref q1, .ref q2, .int (nI (n + 1))])), (q1, .inl (cI, 8, .inl (km_h m (n / 64)))), (q2, .inl (cI, 64, .inl (upd w (n % 64 / 4) (((w (n % 64 / 4)) <<< (8 &&& 31)) ||| (m n)))))] := hD
  refine lv_iload_n hx hb d_Summer_take_39 rfl (lv_at hl 1 rfl) ?_
  refine lv_bipush (v := 63) hx hb d_Summer_take_40 (by decide) ?_
  refine lv_icmp_ne (tgt := 53) hx hb d_Summer_take_42 (by decide) (fun hc => ?_) (fun hc => ?_)
  · have hc : ¬ (n % 64) = 63 := fun z => hc ((nI_eq (a := (n % 64)) (b := 63) (by omega) (by omega)).mpr z)
    have e1 : n / 64 = (n + 1) / 64 := by omega
    rw [e1] at hP hD
    exact xe_v (upd w (n % 64 / 4) (((w (n % 64 / 4)) <<< (8 &&& 31)) ||| (m n))) hx hb hr hlk hK (km_ok_next hok hm (by omega)) hP hD hS d_Summer_take_53 (by decide) (by decide)
  · have hc : (n % 64) = 63 := (nI_eq (a := (n % 64)) (b := 63) (by omega) (by omega)).mp hc
    refine lv_aload_n hx hb d_Summer_take_45 rfl (lv_at hl 2 rfl) ?_
    refine xc_v (wr := [(q1, .inl (cI, 8, .inl (km_h m (n / 64))))]) (va_runV (As := []) (rest := []) ⟨hx, hb, hml, hown, hts⟩ (c_spread l G cI cB tK tH H.size q0 q1 q2 (upd w (n % 64 / 4) (((w (n % 64 / 4)) <<< (8 &&& 31)) ||| (m n))) (nI (n + 1)) ) (cwV 0 hts (xg_V tw_176 tw_178 tw_3 tw_18 tw_179) rfl rfl rfl (by decide +kernel) ⟨Nat.le_of_ble_eq_true rfl, Nat.le_of_ble_eq_true rfl⟩) (xc_preV hK hst hA hP hD hS [0, 2] (by decide) rfl 0 rfl rfl) rfl rfl hl.1 rfl (lv_room (Nat.le_of_ble_eq_true rfl)) d_Summer_take_46 ⟨Nat.le_of_ble_eq_true rfl, Nat.le_of_ble_eq_true rfl⟩) hA hP hD hS [0, 2] [1] rfl rfl (by decide) (by decide) (fun u4 H locs hp5 hP hD hS => ?_)
    have hP : va_P G classes [(q1, .inl (cI, 8, .inl (km_h m (n / 64)))), (q0, .inr (1, [.ref q1, .ref q2, .int (nI (n + 1))])), (q2, .inl (cI, 64, .inl (km_W (upd w (n % 64 / 4) (((w (n % 64 / 4)) <<< (8 &&& 31)) ||| (m n))))))] H := hP
    have hD : va_D A [(q1, .inl (cI, 8, .inl (km_h m (n / 64)))), (q0, .inr (1, [.ref q1, .ref q2, .int (nI (n + 1))])), (q2, .inl (cI, 64, .inl (km_W (upd w (n % 64 / 4) (((w (n % 64 / 4)) <<< (8 &&& 31)) ||| (m n))))))] := hD
    refine lv_aload_n hx hb d_Summer_take_49 rfl (lv_at hl 2 rfl) ?_
    refine xc_v (wr := []) (va_runV (As := []) (rest := []) ⟨hx, hb, hml, hown, hts⟩ (c_mixW l G cI cB tK tH H.size q0 q1 q2 (km_h m (n / 64)) (km_W (upd w (n % 64 / 4) (((w (n % 64 / 4)) <<< (8 &&& 31)) ||| (m n)))) (nI (n + 1)) ) (cwV 0 hts (xg_V tw_189 tw_191 tw_4 tw_18 tw_192) rfl rfl rfl (by decide +kernel) ⟨Nat.le_of_ble_eq_true rfl, Nat.le_of_ble_eq_true rfl⟩) (xc_preV hK hst hA hP hD hS [1, 0, 2] (by decide) rfl 1 rfl rfl) rfl rfl hl.1 rfl (lv_room (Nat.le_of_ble_eq_true rfl)) d_Summer_take_50 ⟨Nat.le_of_ble_eq_true rfl, Nat.le_of_ble_eq_true rfl⟩) hA hP hD hS [1, 0, 2] [] rfl rfl (by decide) (by decide) (fun u7 H locs hp8 hP hD hS => ?_)
    have hP : va_P G classes [(q0, .inr (1, [.ref q1, .ref q2, .int (nI (n + 1))])), (q1, .inl (cI, 8, .inl (fun j => (km_h m (n / 64)) j + km_r (km_W (upd w (n % 64 / 4) (((w (n % 64 / 4)) <<< (8 &&& 31)) ||| (m n)))) (km_h m (n / 64)) 64 j))), (q2, .inl (cI, 64, .inl (km_W (upd w (n % 64 / 4) (((w (n % 64 / 4)) <<< (8 &&& 31)) ||| (m n))))))] H := hP
    have hD : va_D A [(q0, .inr (1, [.ref q1, .ref q2, .int (nI (n + 1))])), (q1, .inl (cI, 8, .inl (fun j => (km_h m (n / 64)) j + km_r (km_W (upd w (n % 64 / 4) (((w (n % 64 / 4)) <<< (8 &&& 31)) ||| (m n)))) (km_h m (n / 64)) 64 j))), (q2, .inl (cI, 64, .inl (km_W (upd w (n % 64 / 4) (((w (n % 64 / 4)) <<< (8 &&& 31)) ||| (m n))))))] := hD
    rw [km_ok_block hok hm hc] at hP hD
    exact xe_v (km_W (upd w (n % 64 / 4) (((w (n % 64 / 4)) <<< (8 &&& 31)) ||| (m n)))) hx hb hr hlk hK (km_ok_start m _ (by omega)) hP hD hS d_Summer_take_53 (by decide) (by decide)
set_option maxHeartbeats 4000000 in
set_option maxRecDepth 100000 in
theorem c_begin (l : Launch) (G : va_G) (cI cB : ClassId) (tK tH sz : Nat) (q0 q1 q2 : Nat) (f : Nat → Int32) (tk : Int32)  : xMv l G cI cB tK tH y_Summer_begin b_Summer_begin 1 none ({ frames := 1, cells := 0, slots := 0, locals := 60 }) [.ref q0] sz [(q0, .inr (1, [.ref q1, .ref q2, .int tk])), (q1, .inl (cI, 8, .inl f))] (fun _ => True) (fun u : Unit => [(q0, .inr (1, [.ref q1, .ref q2, .int 0])), (q1, .inl (cI, 8, .inl kH))]) := by
  refine xMv.of (lv := [(0, .ref q0)]) (by decide) (Nat.le_of_ble_eq_true rfl) rfl ?_
  intro pp ee ss mm bel met cod A ls H locs hx hb hml hr hlk hts hown hnm hA hK hst hP hD hS hl
  have hown : ss.vm.findClass R_Summer = some mm.cls := hown
  refine va_getsN hx hb hst.2.1 hS hown (va_Nw.use rfl (hst.nest 3 rfl)) (fun _ h9 => h9) d_Summer_begin_0 ?_
  refine lv_iconst (v := 0) hx hb d_Summer_begin_3 (by decide) ?_
  refine lv_aload_n hx hb d_Summer_begin_4 rfl (lv_at hl 0 rfl) ?_
  refine va_get (D := G) (ci := 1) (v := .ref q1) (C := R_Summer) (T := F_Summer) (N := 3) hx hb hts hi_Summer hown hK hP 0 rfl rfl 0 (by decide) (hts _ tw_39) (fun _ h9 => h9) rfl d_Summer_begin_5 ?_
  refine lv_iconst (v := 0) hx hb d_Summer_begin_8 (by decide) ?_
  refine lv_bipush (v := 8) hx hb d_Summer_begin_9 (by decide) ?_
  refine xa_copyt (sp := 0) (dp := 0) (n := 8) hx hb (by rw [hml]; exact hl.1.symm) hown (hts _ tw_165) (hts _ tw_167) (hts _ tw_166) (hts _ tw_22) hK hP hD hS hst.2.2.2.1 1 0 rfl rfl (by omega) (by omega) (by omega) (by omega) (by omega) (Nat.le_of_ble_eq_true rfl) (Nat.le_of_ble_eq_true rfl) d_Summer_begin_11 (fun H locs hP hD hS => ?_)
  have hP : va_P G classes [(q0, .inr (1, [.ref q1, .ref q2, .int tk])), (q1, .inl (cI, 8, .inl (va_cpy kH f 0 0 8)))] H := hP
  have hD : va_D A [(q0, .inr (1, [.ref q1, .ref q2, .int tk])), (q1, .inl (cI, 8, .inl (va_cpy kH f 0 0 8)))] := hD
  have hP := xp_fun hP 1 (kH) rfl (fun j hj => km_cpy0 kH _ hj)
  have hD := hD.set (p := 1) (e := .inl (cI, 8, .inl (kH))) rfl
  have hP : va_P G classes [(q0, .inr (1, [.ref q1, .ref q2, .int tk])), (q1, .inl (cI, 8, .inl kH))] H := hP
  have hD : va_D A [(q0, .inr (1, [.ref q1, .ref q2, .int tk])), (q1, .inl (cI, 8, .inl kH))] := hD
  refine lv_aload_n hx hb d_Summer_begin_14 rfl (lv_at hl 0 rfl) ?_
  refine lv_iconst (v := 0) hx hb d_Summer_begin_15 (by decide) ?_
  refine va_put (D := G) (ci := 1) (v := .int 0) (ty := .int) (C := R_Summer) (T := F_Summer) (N := 3) hx hb hts hi_Summer t_Summer t_Summer_ok n_Summer hown hK hP hD hS 0 rfl rfl 2 (by decide) (hts _ tw_41) (fun _ h9 => h9) rfl (by decide +kernel) rfl rfl (Nat.le_of_ble_eq_true rfl) d_Summer_begin_16 (fun H locs hP hD hS => ?_)
  have hP : va_P G classes [(q0, .inr (1, [.ref q1, .ref q2, .int 0])), (q1, .inl (cI, 8, .inl kH))] H := hP
  have hD : va_D A [(q0, .inr (1, [.ref q1, .ref q2, .int 0])), (q1, .inl (cI, 8, .inl kH))] := hD
  exact xe_v (()) hx hb hr hlk hK (trivial) hP hD hS d_Summer_begin_19 (by decide) (by decide)
set_option maxHeartbeats 4000000 in
set_option maxRecDepth 100000 in
theorem c_behind (l : Launch) (G : va_G) (cI cB : ClassId) (tK tH sz : Nat) (q0 q1 q2 : Nat) (q3 : Nat) (f g : Nat → Int32) (tk : Int32)  : xMv l G cI cB tK tH y_Summer_beginBehindBlock b_Summer_beginBehindBlock 2 none ({ frames := 1, cells := 0, slots := 0, locals := 60 }) [.ref q0, .ref q3] sz [(q0, .inr (1, [.ref q1, .ref q2, .int tk])), (q1, .inl (cI, 8, .inl f)), (q3, .inl (cI, 8, .inl g))] (fun _ => True) (fun u : Unit => [(q0, .inr (1, [.ref q1, .ref q2, .int 64])), (q1, .inl (cI, 8, .inl g)), (q3, .inl (cI, 8, .inl g))]) := by
  refine xMv.of (lv := [(0, .ref q0), (1, .ref q3)]) (by decide) (Nat.le_of_ble_eq_true rfl) rfl ?_
  intro pp ee ss mm bel met cod A ls H locs hx hb hml hr hlk hts hown hnm hA hK hst hP hD hS hl
  have hown : ss.vm.findClass R_Summer = some mm.cls := hown
  refine lv_aload_n hx hb d_Summer_beginBehindBlock_0 rfl (lv_at hl 1 rfl) ?_
  refine lv_iconst (v := 0) hx hb d_Summer_beginBehindBlock_1 (by decide) ?_
  refine lv_aload_n hx hb d_Summer_beginBehindBlock_2 rfl (lv_at hl 0 rfl) ?_
  refine va_get (D := G) (ci := 1) (v := .ref q1) (C := R_Summer) (T := F_Summer) (N := 3) hx hb hts hi_Summer hown hK hP 0 rfl rfl 0 (by decide) (hts _ tw_39) (fun _ h9 => h9) rfl d_Summer_beginBehindBlock_3 ?_
  refine lv_iconst (v := 0) hx hb d_Summer_beginBehindBlock_6 (by decide) ?_
  refine lv_bipush (v := 8) hx hb d_Summer_beginBehindBlock_7 (by decide) ?_
  refine xa_copy (sp := 0) (dp := 0) (n := 8) hx hb (by rw [hml]; exact hl.1.symm) hown (hts _ tw_165) (hts _ tw_167) (hts _ tw_166) (hts _ tw_22) hK hP hD hS 2 1 0 0 rfl rfl rfl rfl (by omega) (by omega) (by omega) (by omega) (by omega) (Nat.le_of_ble_eq_true rfl) (Nat.le_of_ble_eq_true rfl) d_Summer_beginBehindBlock_9 (fun H locs hP hD hS => ?_)
  have hP : va_P G classes [(q0, .inr (1, [.ref q1, .ref q2, .int tk])), (q1, .inl (cI, 8, .inl (va_cpy g f 0 0 8))), (q3, .inl (cI, 8, .inl g))] H := hP
  have hD : va_D A [(q0, .inr (1, [.ref q1, .ref q2, .int tk])), (q1, .inl (cI, 8, .inl (va_cpy g f 0 0 8))), (q3, .inl (cI, 8, .inl g))] := hD
  have hP := xp_fun hP 1 (g) rfl (fun j hj => km_cpy0 g _ hj)
  have hD := hD.set (p := 1) (e := .inl (cI, 8, .inl (g))) rfl
  have hP : va_P G classes [(q0, .inr (1, [.ref q1, .ref q2, .int tk])), (q1, .inl (cI, 8, .inl g)), (q3, .inl (cI, 8, .inl g))] H := hP
  have hD : va_D A [(q0, .inr (1, [.ref q1, .ref q2, .int tk])), (q1, .inl (cI, 8, .inl g)), (q3, .inl (cI, 8, .inl g))] := hD
  refine lv_aload_n hx hb d_Summer_beginBehindBlock_12 rfl (lv_at hl 0 rfl) ?_
  refine lv_bipush (v := 64) hx hb d_Summer_beginBehindBlock_13 (by decide) ?_
  refine va_put (D := G) (ci := 1) (v := .int 64) (ty := .int) (C := R_Summer) (T := F_Summer) (N := 3) hx hb hts hi_Summer t_Summer t_Summer_ok n_Summer hown hK hP hD hS 0 rfl rfl 2 (by decide) (hts _ tw_41) (fun _ h9 => h9) rfl (by decide +kernel) rfl rfl (Nat.le_of_ble_eq_true rfl) d_Summer_beginBehindBlock_15 (fun H locs hP hD hS => ?_)
  have hP : va_P G classes [(q0, .inr (1, [.ref q1, .ref q2, .int 64])), (q1, .inl (cI, 8, .inl g)), (q3, .inl (cI, 8, .inl g))] H := hP
  have hD : va_D A [(q0, .inr (1, [.ref q1, .ref q2, .int 64])), (q1, .inl (cI, 8, .inl g)), (q3, .inl (cI, 8, .inl g))] := hD
  exact xe_v (()) hx hb hr hlk hK (trivial) hP hD hS d_Summer_beginBehindBlock_18 (by decide) (by decide)
set_option maxHeartbeats 4000000 in
set_option maxRecDepth 100000 in
theorem c_keep (l : Launch) (G : va_G) (cI cB : ClassId) (tK tH sz : Nat) (q0 q1 q2 : Nat) (q3 : Nat) (f g : Nat → Int32) (tk : Int32)  : xMv l G cI cB tK tH y_Summer_keepState b_Summer_keepState 2 none ({ frames := 1, cells := 0, slots := 0, locals := 60 }) [.ref q0, .ref q3] sz [(q0, .inr (1, [.ref q1, .ref q2, .int tk])), (q1, .inl (cI, 8, .inl f)), (q3, .inl (cI, 8, .inl g))] (fun _ => True) (fun u : Unit => [(q0, .inr (1, [.ref q1, .ref q2, .int tk])), (q1, .inl (cI, 8, .inl f)), (q3, .inl (cI, 8, .inl f))]) := by
  refine xMv.of (lv := [(0, .ref q0), (1, .ref q3)]) (by decide) (Nat.le_of_ble_eq_true rfl) rfl ?_
  intro pp ee ss mm bel met cod A ls H locs hx hb hml hr hlk hts hown hnm hA hK hst hP hD hS hl
  have hown : ss.vm.findClass R_Summer = some mm.cls := hown
  refine lv_aload_n hx hb d_Summer_keepState_0 rfl (lv_at hl 0 rfl) ?_
  refine va_get (D := G) (ci := 1) (v := .ref q1) (C := R_Summer) (T := F_Summer) (N := 3) hx hb hts hi_Summer hown hK hP 0 rfl rfl 0 (by decide) (hts _ tw_39) (fun _ h9 => h9) rfl d_Summer_keepState_1 ?_
  refine lv_iconst (v := 0) hx hb d_Summer_keepState_4 (by decide) ?_
  refine lv_aload_n hx hb d_Summer_keepState_5 rfl (lv_at hl 1 rfl) ?_
  refine lv_iconst (v := 0) hx hb d_Summer_keepState_6 (by decide) ?_
  refine lv_bipush (v := 8) hx hb d_Summer_keepState_7 (by decide) ?_
  refine xa_copy (sp := 0) (dp := 0) (n := 8) hx hb (by rw [hml]; exact hl.1.symm) hown (hts _ tw_165) (hts _ tw_167) (hts _ tw_166) (hts _ tw_22) hK hP hD hS 1 2 0 0 rfl rfl rfl rfl (by omega) (by omega) (by omega) (by omega) (by omega) (Nat.le_of_ble_eq_true rfl) (Nat.le_of_ble_eq_true rfl) d_Summer_keepState_9 (fun H locs hP hD hS => ?_)
  have hP : va_P G classes [(q0, .inr (1, [.ref q1, .ref q2, .int tk])), (q1, .inl (cI, 8, .inl f)), (q3, .inl (cI, 8, .inl (va_cpy f g 0 0 8)))] H := hP
  have hD : va_D A [(q0, .inr (1, [.ref q1, .ref q2, .int tk])), (q1, .inl (cI, 8, .inl f)), (q3, .inl (cI, 8, .inl (va_cpy f g 0 0 8)))] := hD
  have hP := xp_fun hP 2 (f) rfl (fun j hj => km_cpy0 f _ hj)
  have hD := hD.set (p := 2) (e := .inl (cI, 8, .inl (f))) rfl
  have hP : va_P G classes [(q0, .inr (1, [.ref q1, .ref q2, .int tk])), (q1, .inl (cI, 8, .inl f)), (q3, .inl (cI, 8, .inl f))] H := hP
  have hD : va_D A [(q0, .inr (1, [.ref q1, .ref q2, .int tk])), (q1, .inl (cI, 8, .inl f)), (q3, .inl (cI, 8, .inl f))] := hD
  exact xe_v (()) hx hb hr hlk hK (trivial) hP hD hS d_Summer_keepState_12 (by decide) (by decide)
set_option maxHeartbeats 4000000 in
set_option maxRecDepth 100000 in
theorem c_takeRow (l : Launch) (G : va_G) (cI cB : ClassId) (tK tH sz : Nat) (q0 q1 q2 : Nat) (q3 : Nat) (m w g : Nat → Int32) (n k N : Nat) (hn : n + k < 1000) (hN : k ≤ N) (hN2 : N < 1000) (hok : km_ok m n w) (hg : ∀ j, j < k → g j = m (n + j)) (hm : ∀ j, j < k → kr (m (n + j))) : xMv l G cI cB tK tH y_Summer_takeRow b_Summer_takeRow 4 none ({ frames := 4, cells := 0, slots := 0, locals := 95 }) [.ref q0, .ref q3, .int (nI k)] sz [(q0, .inr (1, [.ref q1, .ref q2, .int (nI n)])), (q1, .inl (cI, 8, .inl (km_h m (n / 64)))), (q2, .inl (cI, 64, .inl w)), (q3, .inl (cI, N, .inl g))] (fun u => km_ok m (n + k) u) (fun u : Nat → Int32 => [(q0, .inr (1, [.ref q1, .ref q2, .int (nI (n + k))])), (q1, .inl (cI, 8, .inl (km_h m ((n + k) / 64)))), (q2, .inl (cI, 64, .inl u)), (q3, .inl (cI, N, .inl g))]) := by
  refine xMv.of (lv := [(0, .ref q0), (1, .ref q3), (2, .int (nI k))]) (by decide) (Nat.le_of_ble_eq_true rfl) rfl ?_
  intro pp ee ss mm bel met cod A ls H locs hx hb hml hr hlk hts hown hnm hA hK hst hP hD hS hl
  have hown : ss.vm.findClass R_Summer = some mm.cls := hown
  refine lv_iconst (v := 0) hx hb d_Summer_takeRow_0 (by decide) ?_
  refine lv_istore_n (lv' := [(3, .int 0), (0, .ref q0), (1, .ref q3), (2, .int (nI k))]) hx hb d_Summer_takeRow_1 rfl hl (by decide) rfl (fun ls hl => ?_)
  refine xl (pc := 2) (I := fun NN ls H locs => ∃ (i : Nat) (v : Nat → Int32), k - i = NN ∧ lv_has ls 4 [(3, .int (nI i)), (0, .ref q0), (1, .ref q3), (2, .int (nI k))] ∧ va_P G classes [(q0, .inr (1, [.ref q1, .ref q2, .int (nI (n + i))])), (q1, .inl (cI, 8, .inl (km_h m ((n + i) / 64)))), (q2, .inl (cI, 64, .inl v)), (q3, .inl (cI, N, .inl g))] H ∧ va_D A [(q0, .inr (1, [.ref q1, .ref q2, .int (nI (n + i))])), (q1, .inl (cI, 8, .inl (km_h m ((n + i) / 64)))), (q2, .inl (cI, 64, .inl v)), (q3, .inl (cI, N, .inl g))] ∧ va_S A ss.heap H locs ∧ (i ≤ k) ∧ (km_ok m (n + i) v)) [] ?_ _ _ _ _ ⟨0, w, rfl, lv_sub hl [0, 1, 2, 3] rfl, hP, hD, hS, by omega, hok⟩
  intro NN ih2 ls H locs hI
  obtain ⟨i, v, hN, hl, hP, hD, hS, hi, hv⟩ := hI
  refine lv_iload_n hx hb d_Summer_takeRow_2 rfl (lv_at hl 0 rfl) ?_
  refine lv_iload_n hx hb d_Summer_takeRow_3 rfl (lv_at hl 3 rfl) ?_
  refine lv_icmp_ge (tgt := 20) hx hb d_Summer_takeRow_4 (by decide) (fun hc1 => ?_) (fun hc1 => ?_)
  · have hc1 : k ≤ i := (nI_leI (a := k) (b := i) (by omega) (by omega)).mp hc1
    obtain rfl : i = k := by omega
    exact xe_v (v) hx hb hr hlk hK (hv) hP hD hS d_Summer_takeRow_20 (by decide) (by decide)
  · have hc1 : ¬ k ≤ i := fun z => hc1 ((nI_leI (a := k) (b := i) (by omega) (by omega)).mpr z)
    refine lv_aload_n hx hb d_Summer_takeRow_7 rfl (lv_at hl 1 rfl) ?_
    refine lv_aload_n hx hb d_Summer_takeRow_8 rfl (lv_at hl 2 rfl) ?_
    refine lv_iload_n hx hb d_Summer_takeRow_9 rfl (lv_at hl 0 rfl) ?_
    refine xa_iald (k := i) (f := g) hx hb hK hP 3 0 rfl rfl (by omega) (by omega) d_Summer_takeRow_10 ?_
    refine lv_topi (fun y2 ey2 => ?_)
    obtain rfl : y2 = m (n + i) := ey2.trans (hg i (by omega))
    refine xc_v (wr := [(q3, .inl (cI, N, .inl g))]) (va_runV (As := [.int (m (n + i))]) (rest := []) ⟨hx, hb, hml, hown, hts⟩ (c_take l G cI cB tK tH H.size q0 q1 q2 m v (n + i) (by omega) hv (hm i (by omega))) (cwV 1 hts (xg_V tw_172 tw_174 tw_2 tw_18 tw_175) rfl rfl rfl (by decide +kernel) ⟨Nat.le_of_ble_eq_true rfl, Nat.le_of_ble_eq_true rfl⟩) (xc_preV hK hst hA hP hD hS [0, 1, 2] (by decide) rfl 0 rfl rfl) rfl rfl hl.1 rfl (lv_room (Nat.le_of_ble_eq_true rfl)) d_Summer_takeRow_11 ⟨Nat.le_of_ble_eq_true rfl, Nat.le_of_ble_eq_true rfl⟩) hA hP hD hS [0, 1, 2] [3] rfl rfl (by decide) (by decide) (fun u3 H locs hp hP hD hS => ?_)
    have hP : va_P G classes [(q3, .inl (cI, N, .inl g)), (q0, .inr (1, [.ref q1, .ref q2, .int (nI (n + i + 1))])), (q1, .inl (cI, 8, .inl (km_h m ((n + i + 1) / 64)))), (q2, .inl (cI, 64, .inl u3))] H := hP
    have hD : va_D A [(q3, .inl (cI, N, .inl g)), (q0, .inr (1, [.ref q1, .ref q2, .int (nI (n + i + 1))])), (q1, .inl (cI, 8, .inl (km_h m ((n + i + 1) / 64)))), (q2, .inl (cI, 64, .inl u3))] := hD
    refine lv_iinc (k := 0) (v := nI (i + 1)) (lv' := [(3, .int (nI (i + 1))), (0, .ref q0), (1, .ref q3), (2, .int (nI k))]) hx hb d_Summer_takeRow_14 hl rfl (nI_1 i) (by decide) rfl (fun ls hl => ?_)
    refine lv_goto (tgt := 2) hx hb d_Summer_takeRow_17 (by decide) ?_
    exact ih2 _ (by omega) _ _ _ ⟨i + 1, u3, rfl, lv_sub hl [0, 1, 2, 3] rfl, hP.sub [1, 2, 3, 0] rfl, hD.sub [1, 2, 3, 0] (by decide) rfl, hS, by omega, hp⟩
set_option maxHeartbeats 4000000 in
set_option maxRecDepth 100000 in
theorem c_finish (l : Launch) (G : va_G) (cI cB : ClassId) (tK tH sz : Nat) (q0 q1 q2 : Nat) (q3 : Nat) (b w g : Nat → Int32) (n N : Nat) (hn : n < 256) (hN : 32 ≤ N) (hN2 : N < 1000) (hok : km_ok (km_pad b n) n w) : xMv l G cI cB tK tH y_Summer_finish b_Summer_finish 6 none ({ frames := 4, cells := 0, slots := 0, locals := 95 }) [.ref q0, .ref q3] sz [(q0, .inr (1, [.ref q1, .ref q2, .int (nI n)])), (q1, .inl (cI, 8, .inl (km_h (km_pad b n) (n / 64)))), (q2, .inl (cI, 64, .inl w)), (q3, .inl (cI, N, .inl g))] (fun _ => True) (fun u : (Nat → Int32) × (Nat → Int32) × Int32 => [(q0, .inr (1, [.ref q1, .ref q2, .int u.2.2])), (q1, .inl (cI, 8, .inl u.1)), (q2, .inl (cI, 64, .inl u.2.1)), (q3, .inl (cI, N, .inl (km_sum b n g)))]) := by
  refine xMv.of (lv := [(0, .ref q0), (1, .ref q3)]) (by decide) (Nat.le_of_ble_eq_true rfl) rfl ?_
  intro pp ee ss mm bel met cod A ls H locs hx hb hml hr hlk hts hown hnm hA hK hst hP hD hS hl
  have hown : ss.vm.findClass R_Summer = some mm.cls := hown
  have hq1 := km_q_lt n
  have hq2 := km_q_le n
  refine lv_ldc2 (v := 8) hx hb hown (hts _ tw_205) d_Summer_finish_0 ?_
  refine lv_aload_n hx hb d_Summer_finish_3 rfl (lv_at hl 0 rfl) ?_
  refine va_get (D := G) (ci := 1) (v := .int (nI n)) (C := R_Summer) (T := F_Summer) (N := 3) hx hb hts hi_Summer hown hK hP 0 rfl rfl 2 (by decide) (hts _ tw_41) (fun _ h9 => h9) rfl d_Summer_finish_4 ?_
  refine lv_i2l (v := (nI n).toInt64) hx hb d_Summer_finish_7 rfl ?_
  refine lv_lmul hx hb d_Summer_finish_8 ?_
  refine lv_lstore_n (lv' := [(2, .long (8 * ((nI n).toInt64))), (0, .ref q0), (1, .ref q3)]) hx hb d_Summer_finish_9 rfl hl (by decide) rfl (fun ls hl => ?_)
  refine lv_bipush (v := 55) hx hb d_Summer_finish_10 (by decide) ?_
  refine lv_aload_n hx hb d_Summer_finish_12 rfl (lv_at hl 1 rfl) ?_
  refine va_get (D := G) (ci := 1) (v := .int (nI n)) (C := R_Summer) (T := F_Summer) (N := 3) hx hb hts hi_Summer hown hK hP 0 rfl rfl 2 (by decide) (hts _ tw_41) (fun _ h9 => h9) rfl d_Summer_finish_13 ?_
  refine lv_isub hx hb d_Summer_finish_16 ?_
  refine lv_bipush (v := 63) hx hb d_Summer_finish_17 (by decide) ?_
  refine lv_iand hx hb d_Summer_finish_19 ?_
  refine lv_topi (fun y1 ey1 => ?_)
  obtain rfl : y1 = nI (64 * km_q n - 9 - n) := ey1.trans (km_zeros n (by omega))
  refine lv_istore (lv' := [(4, .int (nI (64 * km_q n - 9 - n))), (2, .long (8 * ((nI n).toInt64))), (0, .ref q0), (1, .ref q3)]) hx hb d_Summer_finish_20 hl (by decide) rfl (fun ls hl => ?_)
  refine lv_aload_n hx hb d_Summer_finish_22 rfl (lv_at hl 2 rfl) ?_
  refine lv_sipush (v := 128) hx hb d_Summer_finish_23 (by decide) ?_
  refine lv_topi (fun y2 ey2 => ?_)
  obtain rfl : y2 = km_pad b n n := ey2.trans ((km_pad_at b n).symm)
  refine xc_v (wr := [(q3, .inl (cI, N, .inl g))]) (va_runV (As := [.int (km_pad b n n)]) (rest := []) ⟨hx, hb, hml, hown, hts⟩ (c_take l G cI cB tK tH H.size q0 q1 q2 (km_pad b n) w n (by omega) hok (by rw [km_pad_at]; exact kr_128)) (cwV 1 hts (xg_V tw_172 tw_174 tw_2 tw_18 tw_175) rfl rfl rfl (by decide +kernel) ⟨Nat.le_of_ble_eq_true rfl, Nat.le_of_ble_eq_true rfl⟩) (xc_preV hK hst hA hP hD hS [0, 1, 2] (by decide) rfl 0 rfl rfl) rfl rfl hl.1 rfl (lv_room (Nat.le_of_ble_eq_true rfl)) d_Summer_finish_26 ⟨Nat.le_of_ble_eq_true rfl, Nat.le_of_ble_eq_true rfl⟩) hA hP hD hS [0, 1, 2] [3] rfl rfl (by decide) (by decide) (fun w1 H locs hok1 hP hD hS => ?_)
  have hP : va_P G classes [(q3, .inl (cI, N, .inl g)), (q0, .inr (1, [.ref q1, .ref q2, .int (nI (n + 1))])), (q1, .inl (cI, 8, .inl (km_h (km_pad b n) ((n + 1) / 64)))), (q2, .inl (cI, 64, .inl w1))] H := hP
  have hD : va_D A [(q3, .inl (cI, N, .inl g)), (q0, .inr (1, [.ref q1, .ref q2, .int (nI (n + 1))])), (q1, .inl (cI, 8, .inl (km_h (km_pad b n) ((n + 1) / 64)))), (q2, .inl (cI, 64, .inl w1))] := hD
  refine lv_iconst (v := 0) hx hb d_Summer_finish_29 (by decide) ?_
  refine lv_istore (lv' := [(5, .int 0), (4, .int (nI (64 * km_q n - 9 - n))), (2, .long (8 * ((nI n).toInt64))), (0, .ref q0), (1, .ref q3)]) hx hb d_Summer_finish_30 hl (by decide) rfl (fun ls hl => ?_)
  refine xl (pc := 32) (I := fun NN ls H locs => ∃ (i : Nat) (v : Nat → Int32), 64 * km_q n - 9 - n - i = NN ∧ lv_has ls 6 [(5, .int (nI i)), (4, .int (nI (64 * km_q n - 9 - n))), (2, .long (8 * ((nI n).toInt64))), (0, .ref q0), (1, .ref q3)] ∧ va_P G classes [(q0, .inr (1, [.ref q1, .ref q2, .int (nI (n + 1 + i))])), (q1, .inl (cI, 8, .inl (km_h (km_pad b n) ((n + 1 + i) / 64)))), (q2, .inl (cI, 64, .inl v)), (q3, .inl (cI, N, .inl g))] H ∧ va_D A [(q0, .inr (1, [.ref q1, .ref q2, .int (nI (n + 1 + i))])), (q1, .inl (cI, 8, .inl (km_h (km_pad b n) ((n + 1 + i) / 64)))), (q2, .inl (cI, 64, .inl v)), (q3, .inl (cI, N, .inl g))] ∧ va_S A ss.heap H locs ∧ (i ≤ 64 * km_q n - 9 - n) ∧ (km_ok (km_pad b n) (n + 1 + i) v)) [] ?_ _ _ _ _ ⟨0, w1, rfl, lv_sub hl [0, 1, 2, 3, 4] rfl, hP.sub [1, 2, 3, 0] rfl, hD.sub [1, 2, 3, 0] (by decide) rfl, hS, by omega, hok1⟩
  intro NN ih32 ls H locs hI
  obtain ⟨i, v, hN, hl, hP, hD, hS, hi, hv⟩ := hI
  refine lv_iload hx hb d_Summer_finish_32 (lv_at hl 0 rfl) ?_
  refine lv_iload hx hb d_Summer_finish_34 (lv_at hl 1 rfl) ?_
  refine lv_icmp_ge (tgt := 50) hx hb d_Summer_finish_36 (by decide) (fun hc4 => ?_) (fun hc4 => ?_)
  · have hc4 : (64 * km_q n - 9 - n) ≤ i := (nI_leI (a := (64 * km_q n - 9 - n)) (b := i) (by omega) (by omega)).mp hc4
    have e1 : n + 1 + i = 64 * km_q n - 8 + 0 := by omega
    rw [e1] at hP hD hv
    refine lv_bipush (v := 56) hx hb d_Summer_finish_50 (by decide) ?_
    refine lv_istore (lv' := [(5, .int 56), (4, .int (nI (64 * km_q n - 9 - n))), (2, .long (8 * ((nI n).toInt64))), (0, .ref q0), (1, .ref q3)]) hx hb d_Summer_finish_52 hl (by decide) rfl (fun ls hl => ?_)
    refine xl (pc := 54) (I := fun NN ls H locs => ∃ (i : Nat) (v : Nat → Int32), 8 - i = NN ∧ lv_has ls 6 [(5, .int (km_sh i)), (2, .long (8 * ((nI n).toInt64))), (0, .ref q0), (1, .ref q3)] ∧ va_P G classes [(q0, .inr (1, [.ref q1, .ref q2, .int (nI (64 * km_q n - 8 + i))])), (q1, .inl (cI, 8, .inl (km_h (km_pad b n) ((64 * km_q n - 8 + i) / 64)))), (q2, .inl (cI, 64, .inl v)), (q3, .inl (cI, N, .inl g))] H ∧ va_D A [(q0, .inr (1, [.ref q1, .ref q2, .int (nI (64 * km_q n - 8 + i))])), (q1, .inl (cI, 8, .inl (km_h (km_pad b n) ((64 * km_q n - 8 + i) / 64)))), (q2, .inl (cI, 64, .inl v)), (q3, .inl (cI, N, .inl g))] ∧ va_S A ss.heap H locs ∧ (i ≤ 8) ∧ (km_ok (km_pad b n) (64 * km_q n - 8 + i) v)) [] ?_ _ _ _ _ ⟨0, v, rfl, lv_sub hl [0, 2, 3, 4] rfl, hP, hD, hS, by omega, hv⟩
    intro NN ih54 ls H locs hI
    obtain ⟨i, v, hN, hl, hP, hD, hS, hi, hv⟩ := hI
    refine lv_iload hx hb d_Summer_finish_54 (lv_at hl 0 rfl) ?_
    refine lv_if_lt (tgt := 78) hx hb d_Summer_finish_56 (by decide) (fun hc => ?_) (fun hc => ?_)
    · have hc : i = 8 := (km_sh_lt i (by omega)).mp hc
      have e1 : (64 * km_q n - 8 + i) / 64 = km_q n := by omega
      rw [e1] at hP hD
      refine lv_iconst (v := 0) hx hb d_Summer_finish_78 (by decide) ?_
      refine lv_istore (lv' := [(5, .int 0), (2, .long (8 * ((nI n).toInt64))), (0, .ref q0), (1, .ref q3)]) hx hb d_Summer_finish_79 hl (by decide) rfl (fun ls hl => ?_)
      refine xl (pc := 81) (I := fun NN ls H locs => ∃ (k : Nat), 8 - k = NN ∧ lv_has ls 6 [(5, .int (nI k)), (0, .ref q0), (1, .ref q3)] ∧ va_P G classes [(q0, .inr (1, [.ref q1, .ref q2, .int (nI (64 * km_q n - 8 + i))])), (q1, .inl (cI, 8, .inl (km_h (km_pad b n) (km_q n)))), (q2, .inl (cI, 64, .inl v)), (q3, .inl (cI, N, .inl (km_fin (km_h (km_pad b n) (km_q n)) g k)))] H ∧ va_D A [(q0, .inr (1, [.ref q1, .ref q2, .int (nI (64 * km_q n - 8 + i))])), (q1, .inl (cI, 8, .inl (km_h (km_pad b n) (km_q n)))), (q2, .inl (cI, 64, .inl v)), (q3, .inl (cI, N, .inl (km_fin (km_h (km_pad b n) (km_q n)) g k)))] ∧ va_S A ss.heap H locs ∧ (k ≤ 8)) [] ?_ _ _ _ _ ⟨0, rfl, lv_sub hl [0, 2, 3] rfl, hP, hD, hS, by omega⟩
      intro NN ih81 ls H locs hI
      obtain ⟨k, hN, hl, hP, hD, hS, hk⟩ := hI
      refine lv_iload hx hb d_Summer_finish_81 (lv_at hl 0 rfl) ?_
      refine lv_bipush (v := 8) hx hb d_Summer_finish_83 (by decide) ?_
      refine lv_icmp_ge (tgt := 109) hx hb d_Summer_finish_85 (by decide) (fun hc5 => ?_) (fun hc5 => ?_)
      · have hc5 : 8 ≤ k := (nI_leI (a := 8) (b := k) (by omega) (by omega)).mp hc5
        obtain rfl : k = 8 := by omega
        exact xe_v (km_h (km_pad b n) (km_q n), v, nI (64 * km_q n - 8 + i)) hx hb hr hlk hK (trivial) hP hD hS d_Summer_finish_109 (by decide) (by decide)
      · have hc5 : ¬ 8 ≤ k := fun z => hc5 ((nI_leI (a := 8) (b := k) (by omega) (by omega)).mpr z)
        refine lv_aload_n hx hb d_Summer_finish_88 rfl (lv_at hl 1 rfl) ?_
        refine va_get (D := G) (ci := 1) (v := .ref q1) (C := R_Summer) (T := F_Summer) (N := 3) hx hb hts hi_Summer hown hK hP 0 rfl rfl 0 (by decide) (hts _ tw_39) (fun _ h9 => h9) rfl d_Summer_finish_89 ?_
        refine lv_iload hx hb d_Summer_finish_92 (lv_at hl 0 rfl) ?_
        refine xa_iald (k := k) (f := km_h (km_pad b n) (km_q n)) hx hb hK hP 1 0 rfl rfl (by omega) (by omega) d_Summer_finish_94 ?_
        refine lv_aload_n hx hb d_Summer_finish_95 rfl (lv_at hl 2 rfl) ?_
        refine lv_iload hx hb d_Summer_finish_96 (lv_at hl 0 rfl) ?_
        refine lv_iconst (v := 4) hx hb d_Summer_finish_98 (by decide) ?_
        refine lv_imul hx hb d_Summer_finish_99 ?_
        refine lv_topi (fun y6 ey6 => ?_)
        obtain rfl : y6 = nI (k * 4) := ey6.trans (pk_mul k 4)
        refine xc_v (wr := [(q0, .inr (1, [.ref q1, .ref q2, .int (nI (64 * km_q n - 8 + i))])), (q1, .inl (cI, 8, .inl (km_h (km_pad b n) (km_q n)))), (q2, .inl (cI, 64, .inl v))]) (va_runSN (As := [.int ((km_h (km_pad b n) (km_q n)) k), .ref q3, .int (nI (k * 4))]) (rest := []) ⟨hx, hb, hml, hown, hts⟩ (c_putWord l G cI cB tK tH H.size q3 N (k * 4) (km_fin (km_h (km_pad b n) (km_q n)) g k) (km_h (km_pad b n) (km_q n) k) (by omega) (by omega)) ⟨va_cnB 3 hts (xg_c tw_138) rfl rfl rfl (hst.nest 5 rfl) (hts _ tw_17) (by decide +kernel) ⟨Nat.le_of_ble_eq_true rfl, Nat.le_of_ble_eq_true rfl⟩, hts _ tw_137, trivial⟩ (xc_pre hK hst hA hP hD hS [3] (by decide) rfl [.int ((km_h (km_pad b n) (km_q n)) k), .ref q3, .int (nI (k * 4))]) rfl rfl hl.1 rfl (lv_room (Nat.le_of_ble_eq_true rfl)) d_Summer_finish_100 ⟨Nat.le_of_ble_eq_true rfl, Nat.le_of_ble_eq_true rfl⟩) hA hP hD hS [3] [0, 1, 2] rfl rfl (by decide) (by decide) (fun u7 H locs hp8 hP hD hS => ?_)
        have hP : va_P G classes [(q0, .inr (1, [.ref q1, .ref q2, .int (nI (64 * km_q n - 8 + i))])), (q1, .inl (cI, 8, .inl (km_h (km_pad b n) (km_q n)))), (q2, .inl (cI, 64, .inl v)), (q3, .inl (cI, N, .inl (km_put (km_fin (km_h (km_pad b n) (km_q n)) g k) (k * 4) (km_h (km_pad b n) (km_q n) k))))] H := hP
        have hD : va_D A [(q0, .inr (1, [.ref q1, .ref q2, .int (nI (64 * km_q n - 8 + i))])), (q1, .inl (cI, 8, .inl (km_h (km_pad b n) (km_q n)))), (q2, .inl (cI, 64, .inl v)), (q3, .inl (cI, N, .inl (km_put (km_fin (km_h (km_pad b n) (km_q n)) g k) (k * 4) (km_h (km_pad b n) (km_q n) k))))] := hD
        have hP := xp_fun hP 3 (km_fin (km_h (km_pad b n) (km_q n)) g (k + 1)) rfl (fun j _ => km_fin_next _ _ k j)
        have hD := hD.set (p := 3) (e := .inl (cI, N, .inl (km_fin (km_h (km_pad b n) (km_q n)) g (k + 1)))) rfl
        have hP : va_P G classes [(q0, .inr (1, [.ref q1, .ref q2, .int (nI (64 * km_q n - 8 + i))])), (q1, .inl (cI, 8, .inl (km_h (km_pad b n) (km_q n)))), (q2, .inl (cI, 64, .inl v)), (q3, .inl (cI, N, .inl (km_fin (km_h (km_pad b n) (km_q n)) g (k + 1))))] H := hP
        have hD : va_D A [(q0, .inr (1, [.ref q1, .ref q2, .int (nI (64 * km_q n - 8 + i))])), (q1, .inl (cI, 8, .inl (km_h (km_pad b n) (km_q n)))), (q2, .inl (cI, 64, .inl v)), (q3, .inl (cI, N, .inl (km_fin (km_h (km_pad b n) (km_q n)) g (k + 1))))] := hD
        refine lv_iinc (k := 0) (v := nI (k + 1)) (lv' := [(5, .int (nI (k + 1))), (0, .ref q0), (1, .ref q3)]) hx hb d_Summer_finish_103 hl rfl (nI_1 k) (by decide) rfl (fun ls hl => ?_)
        refine lv_goto (tgt := 81) hx hb d_Summer_finish_106 (by decide) ?_
        exact ih81 _ (by omega) _ _ _ ⟨k + 1, rfl, lv_sub hl [0, 1, 2] rfl, hP, hD, hS, by omega⟩
    · have hc : ¬ i = 8 := fun z => hc ((km_sh_lt i (by omega)).mpr z)
      refine lv_aload_n hx hb d_Summer_finish_59 rfl (lv_at hl 2 rfl) ?_
      refine lv_lload_n hx hb d_Summer_finish_60 rfl (lv_at hl 1 rfl) ?_
      refine lv_iload hx hb d_Summer_finish_61 (lv_at hl 0 rfl) ?_
      refine lv_topi (fun y10 ey10 => ?_)
      obtain rfl : y10 = nI (56 - 8 * i) := ey10.trans (km_sh_at i (by omega))
      refine lv_lushr (v := ((8 * ((nI n).toInt64)).toUInt64 >>> ((nI (56 - 8 * i)).toInt64.toUInt64 &&& Int64.toUInt64 63)).toInt64) hx hb d_Summer_finish_63 rfl ?_
      refine lv_l2i (v := (((8 * ((nI n).toInt64)).toUInt64 >>> ((nI (56 - 8 * i)).toInt64.toUInt64 &&& Int64.toUInt64 63)).toInt64).toInt32) hx hb d_Summer_finish_64 rfl ?_
      refine lv_sipush (v := 255) hx hb d_Summer_finish_65 (by decide) ?_
      refine lv_iand hx hb d_Summer_finish_68 ?_
      refine lv_topi (fun y11 ey11 => ?_)
      obtain rfl : y11 = km_pad b n (64 * km_q n - 8 + i) := ey11.trans ((km_bits n (by omega) i (by omega)).trans (km_pad_l b n (by omega)).symm)
      refine xc_v (wr := [(q3, .inl (cI, N, .inl g))]) (va_runV (As := [.int (km_pad b n (64 * km_q n - 8 + i))]) (rest := []) ⟨hx, hb, hml, hown, hts⟩ (c_take l G cI cB tK tH H.size q0 q1 q2 (km_pad b n) v (64 * km_q n - 8 + i) (by omega) hv (by rw [km_pad_l b n (i := i) (by omega)]; exact km_len_kr (by omega) _)) (cwV 1 hts (xg_V tw_172 tw_174 tw_2 tw_18 tw_175) rfl rfl rfl (by decide +kernel) ⟨Nat.le_of_ble_eq_true rfl, Nat.le_of_ble_eq_true rfl⟩) (xc_preV hK hst hA hP hD hS [0, 1, 2] (by decide) rfl 0 rfl rfl) rfl rfl hl.1 rfl (lv_room (Nat.le_of_ble_eq_true rfl)) d_Summer_finish_69 ⟨Nat.le_of_ble_eq_true rfl, Nat.le_of_ble_eq_true rfl⟩) hA hP hD hS [0, 1, 2] [3] rfl rfl (by decide) (by decide) (fun u12 H locs hp hP hD hS => ?_)
      have hP : va_P G classes [(q3, .inl (cI, N, .inl g)), (q0, .inr (1, [.ref q1, .ref q2, .int (nI (64 * km_q n - 8 + i + 1))])), (q1, .inl (cI, 8, .inl (km_h (km_pad b n) ((64 * km_q n - 8 + i + 1) / 64)))), (q2, .inl (cI, 64, .inl u12))] H := hP
      have hD : va_D A [(q3, .inl (cI, N, .inl g)), (q0, .inr (1, [.ref q1, .ref q2, .int (nI (64 * km_q n - 8 + i + 1))])), (q1, .inl (cI, 8, .inl (km_h (km_pad b n) ((64 * km_q n - 8 + i + 1) / 64)))), (q2, .inl (cI, 64, .inl u12))] := hD
      refine lv_iinc (k := 0) (v := km_sh (i + 1)) (lv' := [(5, .int (km_sh (i + 1))), (2, .long (8 * ((nI n).toInt64))), (0, .ref q0), (1, .ref q3)]) hx hb d_Summer_finish_72 hl rfl (km_sh_next i (by omega)) (by decide) rfl (fun ls hl => ?_)
      refine lv_goto (tgt := 54) hx hb d_Summer_finish_75 (by decide) ?_
      exact ih54 _ (by omega) _ _ _ ⟨i + 1, u12, rfl, lv_sub hl [0, 1, 2, 3] rfl, hP.sub [1, 2, 3, 0] rfl, hD.sub [1, 2, 3, 0] (by decide) rfl, hS, by omega, hp⟩
  · have hc4 : ¬ (64 * km_q n - 9 - n) ≤ i := fun z => hc4 ((nI_leI (a := (64 * km_q n - 9 - n)) (b := i) (by omega) (by omega)).mpr z)
    refine lv_aload_n hx hb d_Summer_finish_39 rfl (lv_at hl 3 rfl) ?_
    refine lv_iconst (v := 0) hx hb d_Summer_finish_40 (by decide) ?_
    refine lv_topi (fun y14 ey14 => ?_)
    obtain rfl : y14 = km_pad b n (n + 1 + i) := ey14.trans ((km_pad_z b (by omega) (by omega)).symm)
    refine xc_v (wr := [(q3, .inl (cI, N, .inl g))]) (va_runV (As := [.int (km_pad b n (n + 1 + i))]) (rest := []) ⟨hx, hb, hml, hown, hts⟩ (c_take l G cI cB tK tH H.size q0 q1 q2 (km_pad b n) v (n + 1 + i) (by omega) hv (by rw [km_pad_z b (by omega) (by omega)]; exact kr_zero)) (cwV 1 hts (xg_V tw_172 tw_174 tw_2 tw_18 tw_175) rfl rfl rfl (by decide +kernel) ⟨Nat.le_of_ble_eq_true rfl, Nat.le_of_ble_eq_true rfl⟩) (xc_preV hK hst hA hP hD hS [0, 1, 2] (by decide) rfl 0 rfl rfl) rfl rfl hl.1 rfl (lv_room (Nat.le_of_ble_eq_true rfl)) d_Summer_finish_41 ⟨Nat.le_of_ble_eq_true rfl, Nat.le_of_ble_eq_true rfl⟩) hA hP hD hS [0, 1, 2] [3] rfl rfl (by decide) (by decide) (fun u15 H locs hp hP hD hS => ?_)
    have hP : va_P G classes [(q3, .inl (cI, N, .inl g)), (q0, .inr (1, [.ref q1, .ref q2, .int (nI (n + 1 + i + 1))])), (q1, .inl (cI, 8, .inl (km_h (km_pad b n) ((n + 1 + i + 1) / 64)))), (q2, .inl (cI, 64, .inl u15))] H := hP
    have hD : va_D A [(q3, .inl (cI, N, .inl g)), (q0, .inr (1, [.ref q1, .ref q2, .int (nI (n + 1 + i + 1))])), (q1, .inl (cI, 8, .inl (km_h (km_pad b n) ((n + 1 + i + 1) / 64)))), (q2, .inl (cI, 64, .inl u15))] := hD
    refine lv_iinc (k := 0) (v := nI (i + 1)) (lv' := [(5, .int (nI (i + 1))), (4, .int (nI (64 * km_q n - 9 - n))), (2, .long (8 * ((nI n).toInt64))), (0, .ref q0), (1, .ref q3)]) hx hb d_Summer_finish_44 hl rfl (nI_1 i) (by decide) rfl (fun ls hl => ?_)
    refine lv_goto (tgt := 32) hx hb d_Summer_finish_47 (by decide) ?_
    exact ih32 _ (by omega) _ _ _ ⟨i + 1, u15, rfl, lv_sub hl [0, 1, 2, 3, 4] rfl, hP.sub [1, 2, 3, 0] rfl, hD.sub [1, 2, 3, 0] (by decide) rfl, hS, by omega, hp⟩
set_option maxHeartbeats 4000000 in
set_option maxRecDepth 100000 in
theorem c_writeSum (l : Launch) (G : va_G) (cI cB : ClassId) (tK tH sz : Nat) (q0 q1 q2 : Nat) (q3 q4 : Nat) (f w b g : Nat → Int32) (tk : Int32) (n N N2 : Nat) (hn : n < 256) (hN : n ≤ N) (hN1 : N < 1000) (hN2 : 32 ≤ N2) (hN3 : N2 < 1000) (hb_ : ∀ j, j < n → kr (b j)) : xMv l G cI cB tK tH y_Summer_writeSum b_Summer_writeSum 4 none ({ frames := 5, cells := 0, slots := 0, locals := 120 }) [.ref q0, .ref q3, .int (nI n), .ref q4] sz [(q0, .inr (1, [.ref q1, .ref q2, .int tk])), (q1, .inl (cI, 8, .inl f)), (q2, .inl (cI, 64, .inl w)), (q3, .inl (cI, N, .inl b)), (q4, .inl (cI, N2, .inl g))] (fun _ => True) (fun u : (Nat → Int32) × (Nat → Int32) × Int32 => [(q0, .inr (1, [.ref q1, .ref q2, .int u.2.2])), (q1, .inl (cI, 8, .inl u.1)), (q2, .inl (cI, 64, .inl u.2.1)), (q3, .inl (cI, N, .inl b)), (q4, .inl (cI, N2, .inl (km_sum b n g)))]) := by
  refine xMv.of (lv := [(0, .ref q0), (1, .ref q3), (2, .int (nI n)), (3, .ref q4)]) (by decide) (Nat.le_of_ble_eq_true rfl) rfl ?_
  intro pp ee ss mm bel met cod A ls H locs hx hb hml hr hlk hts hown hnm hA hK hst hP hD hS hl
  have hown : ss.vm.findClass R_Summer = some mm.cls := hown
  refine lv_aload_n hx hb d_Summer_writeSum_0 rfl (lv_at hl 0 rfl) ?_
  refine xc_v (wr := [(q2, .inl (cI, 64, .inl w)), (q3, .inl (cI, N, .inl b)), (q4, .inl (cI, N2, .inl g))]) (va_runV (As := []) (rest := []) ⟨hx, hb, hml, hown, hts⟩ (c_begin l G cI cB tK tH H.size q0 q1 q2 f tk ) (cwV 0 hts (xg_V tw_159 tw_160 tw_161 tw_18 tw_162) rfl rfl rfl (by decide +kernel) ⟨Nat.le_of_ble_eq_true rfl, Nat.le_of_ble_eq_true rfl⟩) (xc_preV hK hst hA hP hD hS [0, 1] (by decide) rfl 0 rfl rfl) rfl rfl hl.1 rfl (lv_room (Nat.le_of_ble_eq_true rfl)) d_Summer_writeSum_1 ⟨Nat.le_of_ble_eq_true rfl, Nat.le_of_ble_eq_true rfl⟩) hA hP hD hS [0, 1] [2, 3, 4] rfl rfl (by decide) (by decide) (fun u1 H locs hp2 hP hD hS => ?_)
  have hP : va_P G classes [(q2, .inl (cI, 64, .inl w)), (q3, .inl (cI, N, .inl b)), (q4, .inl (cI, N2, .inl g)), (q0, .inr (1, [.ref q1, .ref q2, .int 0])), (q1, .inl (cI, 8, .inl kH))] H := hP
  have hD : va_D A [(q2, .inl (cI, 64, .inl w)), (q3, .inl (cI, N, .inl b)), (q4, .inl (cI, N2, .inl g)), (q0, .inr (1, [.ref q1, .ref q2, .int 0])), (q1, .inl (cI, 8, .inl kH))] := hD
  refine lv_aload_n hx hb d_Summer_writeSum_4 rfl (lv_at hl 0 rfl) ?_
  refine lv_aload_n hx hb d_Summer_writeSum_5 rfl (lv_at hl 1 rfl) ?_
  refine lv_iload_n hx hb d_Summer_writeSum_6 rfl (lv_at hl 2 rfl) ?_
  refine xc_v (wr := [(q4, .inl (cI, N2, .inl g))]) (va_runV (As := [.ref q3, .int (nI n)]) (rest := []) ⟨hx, hb, hml, hown, hts⟩ (c_takeRow l G cI cB tK tH H.size q0 q1 q2 q3 (km_pad b n) w b 0 n N (by omega) (by omega) (by omega) (km_ok_start _ _ rfl) (fun j hj => by rw [Nat.zero_add, km_pad_in b hj]) (fun j hj => by rw [Nat.zero_add, km_pad_in b hj]; exact hb_ j hj)) (cwV 2 hts (xg_V tw_168 tw_169 tw_170 tw_18 tw_171) rfl rfl rfl (by decide +kernel) ⟨Nat.le_of_ble_eq_true rfl, Nat.le_of_ble_eq_true rfl⟩) (xc_preV hK hst hA hP hD hS [3, 4, 0, 1] (by decide) rfl 3 rfl rfl) rfl rfl hl.1 rfl (lv_room (Nat.le_of_ble_eq_true rfl)) d_Summer_writeSum_7 ⟨Nat.le_of_ble_eq_true rfl, Nat.le_of_ble_eq_true rfl⟩) hA hP hD hS [3, 4, 0, 1] [2] rfl rfl (by decide) (by decide) (fun w1 H locs hok1 hP hD hS => ?_)
  have hP : va_P G classes [(q4, .inl (cI, N2, .inl g)), (q0, .inr (1, [.ref q1, .ref q2, .int (nI (0 + n))])), (q1, .inl (cI, 8, .inl (km_h (km_pad b n) ((0 + n) / 64)))), (q2, .inl (cI, 64, .inl w1)), (q3, .inl (cI, N, .inl b))] H := hP
  have hD : va_D A [(q4, .inl (cI, N2, .inl g)), (q0, .inr (1, [.ref q1, .ref q2, .int (nI (0 + n))])), (q1, .inl (cI, 8, .inl (km_h (km_pad b n) ((0 + n) / 64)))), (q2, .inl (cI, 64, .inl w1)), (q3, .inl (cI, N, .inl b))] := hD
  rw [Nat.zero_add] at hP hD hok1
  refine lv_aload_n hx hb d_Summer_writeSum_10 rfl (lv_at hl 0 rfl) ?_
  refine lv_aload_n hx hb d_Summer_writeSum_11 rfl (lv_at hl 3 rfl) ?_
  refine xc_v (wr := [(q3, .inl (cI, N, .inl b))]) (va_runV (As := [.ref q4]) (rest := []) ⟨hx, hb, hml, hown, hts⟩ (c_finish l G cI cB tK tH H.size q0 q1 q2 q4 b w1 g n N2 (by omega) (by omega) (by omega) hok1) (cwV 1 hts (xg_V tw_201 tw_202 tw_203 tw_18 tw_204) rfl rfl rfl (by decide +kernel) ⟨Nat.le_of_ble_eq_true rfl, Nat.le_of_ble_eq_true rfl⟩) (xc_preV hK hst hA hP hD hS [1, 2, 3, 0] (by decide) rfl 1 rfl rfl) rfl rfl hl.1 rfl (lv_room (Nat.le_of_ble_eq_true rfl)) d_Summer_writeSum_12 ⟨Nat.le_of_ble_eq_true rfl, Nat.le_of_ble_eq_true rfl⟩) hA hP hD hS [1, 2, 3, 0] [4] rfl rfl (by decide) (by decide) (fun uf H locs hp5 hP hD hS => ?_)
  obtain ⟨f2, w2, tk2⟩ := uf
  have hP : va_P G classes [(q3, .inl (cI, N, .inl b)), (q0, .inr (1, [.ref q1, .ref q2, .int tk2])), (q1, .inl (cI, 8, .inl f2)), (q2, .inl (cI, 64, .inl w2)), (q4, .inl (cI, N2, .inl (km_sum b n g)))] H := hP
  have hD : va_D A [(q3, .inl (cI, N, .inl b)), (q0, .inr (1, [.ref q1, .ref q2, .int tk2])), (q1, .inl (cI, 8, .inl f2)), (q2, .inl (cI, 64, .inl w2)), (q4, .inl (cI, N2, .inl (km_sum b n g)))] := hD
  exact xe_v (f2, w2, tk2) hx hb hr hlk hK (trivial) (hP.sub (ws' := [(q0, .inr (1, [.ref q1, .ref q2, .int tk2])), (q1, .inl (cI, 8, .inl f2)), (q2, .inl (cI, 64, .inl w2)), (q3, .inl (cI, N, .inl b)), (q4, .inl (cI, N2, .inl (km_sum b n g)))]) [1, 2, 3, 0, 4] rfl) (hD.sub (ws' := [(q0, .inr (1, [.ref q1, .ref q2, .int tk2])), (q1, .inl (cI, 8, .inl f2)), (q2, .inl (cI, 64, .inl w2)), (q3, .inl (cI, N, .inl b)), (q4, .inl (cI, N2, .inl (km_sum b n g)))]) [1, 2, 3, 0, 4] (by decide) rfl) hS d_Summer_writeSum_15 (by decide) (by decide)
end
section
/-! Marker, and the constructors of Summer and Marker -/
set_option maxHeartbeats 4000000 in
set_option maxRecDepth 100000 in
theorem c_keepB (l : Launch) (G : va_G) (cI cB : ClassId) (tK tH sz : Nat) (q0 q1 q2 q3 q4 q5 q6 q7 q8 : Nat) (q9 : Nat) (f w k bk g : Nat → Int32) (tk x : Int32) (hk : ∀ j, j < 64 → kr (k j)) (hxx : kr x) : xMv l G cI cB tK tH y_Marker_keepStateBehindKey b_Marker_keepStateBehindKey 4 none ({ frames := 5, cells := 0, slots := 0, locals := 118 }) [.ref q0, .int x, .ref q9] sz [(q0, .inr (0, [.ref q1, .ref q4, .ref q5, .ref q6, .ref q7, .ref q8])), (q1, .inr (1, [.ref q2, .ref q3, .int tk])), (q2, .inl (cI, 8, .inl f)), (q3, .inl (cI, 64, .inl w)), (q4, .inl (cI, 64, .inl k)), (q5, .inl (cI, 64, .inl bk)), (q9, .inl (cI, 8, .inl g))] (fun _ => True) (fun u : (Nat → Int32) × (Nat → Int32) × Int32 × (Nat → Int32) => [(q0, .inr (0, [.ref q1, .ref q4, .ref q5, .ref q6, .ref q7, .ref q8])), (q1, .inr (1, [.ref q2, .ref q3, .int u.2.2.1])), (q2, .inl (cI, 8, .inl u.1)), (q3, .inl (cI, 64, .inl u.2.1)), (q4, .inl (cI, 64, .inl k)), (q5, .inl (cI, 64, .inl u.2.2.2)), (q9, .inl (cI, 8, .inl (km_h (fun j => k j ^^^ x) 1)))]) := by
  refine xMv.of (lv := [(0, .ref q0), (1, .int x), (2, .ref q9)]) (by decide) (Nat.le_of_ble_eq_true rfl) rfl ?_
  intro pp ee ss mm bel met cod A ls H locs hx hb hml hr hlk hts hown hnm hA hK hst hP hD hS hl
  have hown : ss.vm.findClass R_Marker = some mm.cls := hown
  refine lv_iconst (v := 0) hx hb d_Marker_keepStateBehindKey_0 (by decide) ?_
  refine lv_istore_n (lv' := [(3, .int 0), (0, .ref q0), (1, .int x), (2, .ref q9)]) hx hb d_Marker_keepStateBehindKey_1 rfl hl (by decide) rfl (fun ls hl => ?_)
  refine xl (pc := 2) (I := fun NN ls H locs => ∃ (i : Nat) (h : Nat → Int32), 64 - i = NN ∧ lv_has ls 4 [(3, .int (nI i)), (0, .ref q0), (1, .int x), (2, .ref q9)] ∧ va_P G classes [(q0, .inr (0, [.ref q1, .ref q4, .ref q5, .ref q6, .ref q7, .ref q8])), (q1, .inr (1, [.ref q2, .ref q3, .int tk])), (q2, .inl (cI, 8, .inl f)), (q3, .inl (cI, 64, .inl w)), (q4, .inl (cI, 64, .inl k)), (q5, .inl (cI, 64, .inl h)), (q9, .inl (cI, 8, .inl g))] H ∧ va_D A [(q0, .inr (0, [.ref q1, .ref q4, .ref q5, .ref q6, .ref q7, .ref q8])), (q1, .inr (1, [.ref q2, .ref q3, .int tk])), (q2, .inl (cI, 8, .inl f)), (q3, .inl (cI, 64, .inl w)), (q4, .inl (cI, 64, .inl k)), (q5, .inl (cI, 64, .inl h)), (q9, .inl (cI, 8, .inl g))] ∧ va_S A ss.heap H locs ∧ (i ≤ 64) ∧ (∀ j, j < i → h j = k j ^^^ x)) [] ?_ _ _ _ _ ⟨0, bk, rfl, lv_sub hl [0, 1, 2, 3] rfl, hP, hD, hS, by omega, fun j hj => by omega⟩
  intro NN ih2 ls H locs hI
  obtain ⟨i, h, hN, hl, hP, hD, hS, hi, hh⟩ := hI
  refine lv_iload_n hx hb d_Marker_keepStateBehindKey_2 rfl (lv_at hl 0 rfl) ?_
  refine lv_bipush (v := 64) hx hb d_Marker_keepStateBehindKey_3 (by decide) ?_
  refine lv_icmp_ge (tgt := 28) hx hb d_Marker_keepStateBehindKey_5 (by decide) (fun hc1 => ?_) (fun hc1 => ?_)
  · have hc1 : 64 ≤ i := (nI_leI (a := 64) (b := i) (by omega) (by omega)).mp hc1
    have hP := xp_fun hP 5 (fun j => k j ^^^ x) rfl (fun j hj => hh j (by omega))
    have hD := hD.set (p := 5) (e := .inl (cI, 64, .inl (fun j => k j ^^^ x))) rfl
    have hP : va_P G classes [(q0, .inr (0, [.ref q1, .ref q4, .ref q5, .ref q6, .ref q7, .ref q8])), (q1, .inr (1, [.ref q2, .ref q3, .int tk])), (q2, .inl (cI, 8, .inl f)), (q3, .inl (cI, 64, .inl w)), (q4, .inl (cI, 64, .inl k)), (q5, .inl (cI, 64, .inl (fun j => k j ^^^ x))), (q9, .inl (cI, 8, .inl g))] H := hP
    have hD : va_D A [(q0, .inr (0, [.ref q1, .ref q4, .ref q5, .ref q6, .ref q7, .ref q8])), (q1, .inr (1, [.ref q2, .ref q3, .int tk])), (q2, .inl (cI, 8, .inl f)), (q3, .inl (cI, 64, .inl w)), (q4, .inl (cI, 64, .inl k)), (q5, .inl (cI, 64, .inl (fun j => k j ^^^ x))), (q9, .inl (cI, 8, .inl g))] := hD
    refine lv_aload_n hx hb d_Marker_keepStateBehindKey_28 rfl (lv_at hl 1 rfl) ?_
    refine va_get (D := G) (ci := 0) (v := .ref q1) (C := R_Marker) (T := F_Marker) (N := 6) hx hb hts hi_Marker hown hK hP 0 rfl rfl 0 (by decide) (hts _ tw_58) (fun _ h9 => h9) rfl d_Marker_keepStateBehindKey_29 ?_
    refine xc_v (wr := [(q0, .inr (0, [.ref q1, .ref q4, .ref q5, .ref q6, .ref q7, .ref q8])), (q3, .inl (cI, 64, .inl w)), (q4, .inl (cI, 64, .inl k)), (q5, .inl (cI, 64, .inl (fun j => k j ^^^ x))), (q9, .inl (cI, 8, .inl g))]) (va_runV (As := []) (rest := []) ⟨hx, hb, hml, hown, hts⟩ (c_begin l G cI cB tK tH H.size q1 q2 q3 f tk ) (cwV 0 hts (xg_V tw_212 tw_160 tw_161 tw_18 tw_162) rfl rfl rfl (by decide +kernel) ⟨Nat.le_of_ble_eq_true rfl, Nat.le_of_ble_eq_true rfl⟩) (xc_preV hK hst hA hP hD hS [1, 2] (by decide) rfl 1 rfl rfl) rfl rfl hl.1 rfl (lv_room (Nat.le_of_ble_eq_true rfl)) d_Marker_keepStateBehindKey_32 ⟨Nat.le_of_ble_eq_true rfl, Nat.le_of_ble_eq_true rfl⟩) hA hP hD hS [1, 2] [0, 3, 4, 5, 6] rfl rfl (by decide) (by decide) (fun u2 H locs hp3 hP hD hS => ?_)
    have hP : va_P G classes [(q0, .inr (0, [.ref q1, .ref q4, .ref q5, .ref q6, .ref q7, .ref q8])), (q3, .inl (cI, 64, .inl w)), (q4, .inl (cI, 64, .inl k)), (q5, .inl (cI, 64, .inl (fun j => k j ^^^ x))), (q9, .inl (cI, 8, .inl g)), (q1, .inr (1, [.ref q2, .ref q3, .int 0])), (q2, .inl (cI, 8, .inl kH))] H := hP
    have hD : va_D A [(q0, .inr (0, [.ref q1, .ref q4, .ref q5, .ref q6, .ref q7, .ref q8])), (q3, .inl (cI, 64, .inl w)), (q4, .inl (cI, 64, .inl k)), (q5, .inl (cI, 64, .inl (fun j => k j ^^^ x))), (q9, .inl (cI, 8, .inl g)), (q1, .inr (1, [.ref q2, .ref q3, .int 0])), (q2, .inl (cI, 8, .inl kH))] := hD
    refine lv_aload_n hx hb d_Marker_keepStateBehindKey_35 rfl (lv_at hl 1 rfl) ?_
    refine va_get (D := G) (ci := 0) (v := .ref q1) (C := R_Marker) (T := F_Marker) (N := 6) hx hb hts hi_Marker hown hK hP 0 rfl rfl 0 (by decide) (hts _ tw_58) (fun _ h9 => h9) rfl d_Marker_keepStateBehindKey_36 ?_
    refine lv_aload_n hx hb d_Marker_keepStateBehindKey_39 rfl (lv_at hl 1 rfl) ?_
    refine va_get (D := G) (ci := 0) (v := .ref q5) (C := R_Marker) (T := F_Marker) (N := 6) hx hb hts hi_Marker hown hK hP 0 rfl rfl 2 (by decide) (hts _ tw_60) (fun _ h9 => h9) rfl d_Marker_keepStateBehindKey_40 ?_
    refine lv_bipush (v := 64) hx hb d_Marker_keepStateBehindKey_43 (by decide) ?_
    refine xc_v (wr := [(q0, .inr (0, [.ref q1, .ref q4, .ref q5, .ref q6, .ref q7, .ref q8])), (q4, .inl (cI, 64, .inl k)), (q9, .inl (cI, 8, .inl g))]) (va_runV (As := [.ref q5, .int 64]) (rest := []) ⟨hx, hb, hml, hown, hts⟩ (c_takeRow l G cI cB tK tH H.size q1 q2 q3 q5 (fun j => k j ^^^ x) w (fun j => k j ^^^ x) 0 64 64 (by omega) (by omega) (by omega) (km_ok_start _ _ rfl) (fun j _ => by simp only [Nat.zero_add]) (fun j hj => by rw [Nat.zero_add]; exact kr_xor (hk j hj) hxx)) (cwV 2 hts (xg_V tw_213 tw_169 tw_170 tw_18 tw_171) rfl rfl rfl (by decide +kernel) ⟨Nat.le_of_ble_eq_true rfl, Nat.le_of_ble_eq_true rfl⟩) (xc_preV hK hst hA hP hD hS [5, 6, 1, 3] (by decide) rfl 5 rfl rfl) rfl rfl hl.1 rfl (lv_room (Nat.le_of_ble_eq_true rfl)) d_Marker_keepStateBehindKey_45 ⟨Nat.le_of_ble_eq_true rfl, Nat.le_of_ble_eq_true rfl⟩) hA hP hD hS [5, 6, 1, 3] [0, 2, 4] rfl rfl (by decide) (by decide) (fun w1 H locs hp5 hP hD hS => ?_)
    have hP : va_P G classes [(q0, .inr (0, [.ref q1, .ref q4, .ref q5, .ref q6, .ref q7, .ref q8])), (q4, .inl (cI, 64, .inl k)), (q9, .inl (cI, 8, .inl g)), (q1, .inr (1, [.ref q2, .ref q3, .int (nI (0 + 64))])), (q2, .inl (cI, 8, .inl (km_h (fun j => k j ^^^ x) ((0 + 64) / 64)))), (q3, .inl (cI, 64, .inl w1)), (q5, .inl (cI, 64, .inl (fun j => k j ^^^ x)))] H := hP
    have hD : va_D A [(q0, .inr (0, [.ref q1, .ref q4, .ref q5, .ref q6, .ref q7, .ref q8])), (q4, .inl (cI, 64, .inl k)), (q9, .inl (cI, 8, .inl g)), (q1, .inr (1, [.ref q2, .ref q3, .int (nI (0 + 64))])), (q2, .inl (cI, 8, .inl (km_h (fun j => k j ^^^ x) ((0 + 64) / 64)))), (q3, .inl (cI, 64, .inl w1)), (q5, .inl (cI, 64, .inl (fun j => k j ^^^ x)))] := hD
    refine lv_aload_n hx hb d_Marker_keepStateBehindKey_48 rfl (lv_at hl 1 rfl) ?_
    refine va_get (D := G) (ci := 0) (v := .ref q1) (C := R_Marker) (T := F_Marker) (N := 6) hx hb hts hi_Marker hown hK hP 0 rfl rfl 0 (by decide) (hts _ tw_58) (fun _ h9 => h9) rfl d_Marker_keepStateBehindKey_49 ?_
    refine lv_aload_n hx hb d_Marker_keepStateBehindKey_52 rfl (lv_at hl 3 rfl) ?_
    refine xc_v (wr := [(q0, .inr (0, [.ref q1, .ref q4, .ref q5, .ref q6, .ref q7, .ref q8])), (q4, .inl (cI, 64, .inl k)), (q3, .inl (cI, 64, .inl w1)), (q5, .inl (cI, 64, .inl (fun j => k j ^^^ x)))]) (va_runV (As := [.ref q9]) (rest := []) ⟨hx, hb, hml, hown, hts⟩ (c_keep l G cI cB tK tH H.size q1 q2 q3 q9 (km_h (fun j => k j ^^^ x) ((0 + 64) / 64)) g (nI (0 + 64)) ) (cwV 1 hts (xg_V tw_214 tw_215 tw_216 tw_18 tw_217) rfl rfl rfl (by decide +kernel) ⟨Nat.le_of_ble_eq_true rfl, Nat.le_of_ble_eq_true rfl⟩) (xc_preV hK hst hA hP hD hS [3, 4, 2] (by decide) rfl 3 rfl rfl) rfl rfl hl.1 rfl (lv_room (Nat.le_of_ble_eq_true rfl)) d_Marker_keepStateBehindKey_53 ⟨Nat.le_of_ble_eq_true rfl, Nat.le_of_ble_eq_true rfl⟩) hA hP hD hS [3, 4, 2] [0, 1, 5, 6] rfl rfl (by decide) (by decide) (fun u7 H locs hp8 hP hD hS => ?_)
    have hP : va_P G classes [(q0, .inr (0, [.ref q1, .ref q4, .ref q5, .ref q6, .ref q7, .ref q8])), (q4, .inl (cI, 64, .inl k)), (q3, .inl (cI, 64, .inl w1)), (q5, .inl (cI, 64, .inl (fun j => k j ^^^ x))), (q1, .inr (1, [.ref q2, .ref q3, .int (nI (0 + 64))])), (q2, .inl (cI, 8, .inl (km_h (fun j => k j ^^^ x) ((0 + 64) / 64)))), (q9, .inl (cI, 8, .inl (km_h (fun j => k j ^^^ x) ((0 + 64) / 64))))] H := hP
    have hD : va_D A [(q0, .inr (0, [.ref q1, .ref q4, .ref q5, .ref q6, .ref q7, .ref q8])), (q4, .inl (cI, 64, .inl k)), (q3, .inl (cI, 64, .inl w1)), (q5, .inl (cI, 64, .inl (fun j => k j ^^^ x))), (q1, .inr (1, [.ref q2, .ref q3, .int (nI (0 + 64))])), (q2, .inl (cI, 8, .inl (km_h (fun j => k j ^^^ x) ((0 + 64) / 64)))), (q9, .inl (cI, 8, .inl (km_h (fun j => k j ^^^ x) ((0 + 64) / 64))))] := hD
    exact xe_v (km_h (fun j => k j ^^^ x) ((0 + 64) / 64), w1, nI (0 + 64), fun j => k j ^^^ x) hx hb hr hlk hK (trivial) (hP.sub (ws' := [(q0, .inr (0, [.ref q1, .ref q4, .ref q5, .ref q6, .ref q7, .ref q8])), (q1, .inr (1, [.ref q2, .ref q3, .int (nI (0 + 64))])), (q2, .inl (cI, 8, .inl (km_h (fun j => k j ^^^ x) ((0 + 64) / 64)))), (q3, .inl (cI, 64, .inl w1)), (q4, .inl (cI, 64, .inl k)), (q5, .inl (cI, 64, .inl (fun j => k j ^^^ x))), (q9, .inl (cI, 8, .inl (km_h (fun j => k j ^^^ x) ((0 + 64) / 64))))]) [0, 4, 5, 2, 1, 3, 6] rfl) (hD.sub (ws' := [(q0, .inr (0, [.ref q1, .ref q4, .ref q5, .ref q6, .ref q7, .ref q8])), (q1, .inr (1, [.ref q2, .ref q3, .int (nI (0 + 64))])), (q2, .inl (cI, 8, .inl (km_h (fun j => k j ^^^ x) ((0 + 64) / 64)))), (q3, .inl (cI, 64, .inl w1)), (q4, .inl (cI, 64, .inl k)), (q5, .inl (cI, 64, .inl (fun j => k j ^^^ x))), (q9, .inl (cI, 8, .inl (km_h (fun j => k j ^^^ x) ((0 + 64) / 64))))]) [0, 4, 5, 2, 1, 3, 6] (by decide) rfl) hS d_Marker_keepStateBehindKey_56 (by decide) (by decide)
  · have hc1 : ¬ 64 ≤ i := fun z => hc1 ((nI_leI (a := 64) (b := i) (by omega) (by omega)).mpr z)
    refine lv_aload_n hx hb d_Marker_keepStateBehindKey_8 rfl (lv_at hl 1 rfl) ?_
    refine va_get (D := G) (ci := 0) (v := .ref q5) (C := R_Marker) (T := F_Marker) (N := 6) hx hb hts hi_Marker hown hK hP 0 rfl rfl 2 (by decide) (hts _ tw_60) (fun _ h9 => h9) rfl d_Marker_keepStateBehindKey_9 ?_
    refine lv_iload_n hx hb d_Marker_keepStateBehindKey_12 rfl (lv_at hl 0 rfl) ?_
    refine lv_aload_n hx hb d_Marker_keepStateBehindKey_13 rfl (lv_at hl 1 rfl) ?_
    refine va_get (D := G) (ci := 0) (v := .ref q4) (C := R_Marker) (T := F_Marker) (N := 6) hx hb hts hi_Marker hown hK hP 0 rfl rfl 1 (by decide) (hts _ tw_59) (fun _ h9 => h9) rfl d_Marker_keepStateBehindKey_14 ?_
    refine lv_iload_n hx hb d_Marker_keepStateBehindKey_17 rfl (lv_at hl 0 rfl) ?_
    refine xa_iald (k := i) (f := k) hx hb hK hP 4 0 rfl rfl (by omega) (by omega) d_Marker_keepStateBehindKey_18 ?_
    refine lv_iload_n hx hb d_Marker_keepStateBehindKey_19 rfl (lv_at hl 2 rfl) ?_
    refine lv_ixor hx hb d_Marker_keepStateBehindKey_20 ?_
    refine xa_iast (k := i) (f := h) (x := (k i) ^^^ x) hx hb hK hP hD hS 5 0 rfl rfl (by omega) (by omega) d_Marker_keepStateBehindKey_21 (fun H locs hP hD hS => ?_)
    have hP : va_P G classes [(q0, .inr (0, [.ref q1, .ref q4, .ref q5, .ref q6, .ref q7, .ref q8])), (q1, .inr (1, [.ref q2, .ref q3, .int tk])), (q2, .inl (cI, 8, .inl f)), (q3, .inl (cI, 64, .inl w)), (q4, .inl (cI, 64, .inl k)), (q5, .inl (cI, 64, .inl (upd h i ((k i) ^^^ x)))), (q9, .inl (cI, 8, .inl g))] H := hP
    have hD : va_D A [(q0, .inr (0, [.ref q1, .ref q4, .ref q5, .ref q6, .ref q7, .ref q8])), (q1, .inr (1, [.ref q2, .ref q3, .int tk])), (q2, .inl (cI, 8, .inl f)), (q3, .inl (cI, 64, .inl w)), (q4, .inl (cI, 64, .inl k)), (q5, .inl (cI, 64, .inl (upd h i ((k i) ^^^ x)))), (q9, .inl (cI, 8, .inl g))] := hD
    refine lv_iinc (k := 0) (v := nI (i + 1)) (lv' := [(3, .int (nI (i + 1))), (0, .ref q0), (1, .int x), (2, .ref q9)]) hx hb d_Marker_keepStateBehindKey_22 hl rfl (nI_1 i) (by decide) rfl (fun ls hl => ?_)
    refine lv_goto (tgt := 2) hx hb d_Marker_keepStateBehindKey_25 (by decide) ?_
    exact ih2 _ (by omega) _ _ _ ⟨i + 1, _, rfl, lv_sub hl [0, 1, 2, 3] rfl, hP, hD, hS, by omega, fun j hj => by
          by_cases e : j = i
          · subst e; exact pk_us
          · rw [pk_un e]; exact hh j (by omega)⟩
set_option maxHeartbeats 4000000 in
set_option maxRecDepth 100000 in
theorem c_takeKey (l : Launch) (G : va_G) (cI cB : ClassId) (tK tH sz : Nat) (q0 q1 q2 q3 q4 q5 q6 q7 q8 : Nat) (q9 : Nat) (f w k bk g1 g2 p : Nat → Int32) (tk : Int32) (np N : Nat) (hn : np < 256) (hN : np ≤ N) (hN2 : N < 1000) (hpp : ∀ j, j < np → kr (p j)) : xMv l G cI cB tK tH y_Marker_takeKey b_Marker_takeKey 3 none ({ frames := 6, cells := 0, slots := 0, locals := 143 }) [.ref q0, .ref q9, .int (nI np)] sz [(q0, .inr (0, [.ref q1, .ref q4, .ref q5, .ref q6, .ref q7, .ref q8])), (q1, .inr (1, [.ref q2, .ref q3, .int tk])), (q2, .inl (cI, 8, .inl f)), (q3, .inl (cI, 64, .inl w)), (q4, .inl (cI, 64, .inl k)), (q5, .inl (cI, 64, .inl bk)), (q7, .inl (cI, 8, .inl g1)), (q8, .inl (cI, 8, .inl g2)), (q9, .inl (cI, N, .inl p))] (fun _ => True) (fun u : (Nat → Int32) × (Nat → Int32) × Int32 × (Nat → Int32) × (Nat → Int32) => [(q0, .inr (0, [.ref q1, .ref q4, .ref q5, .ref q6, .ref q7, .ref q8])), (q1, .inr (1, [.ref q2, .ref q3, .int u.2.2.1])), (q2, .inl (cI, 8, .inl u.1)), (q3, .inl (cI, 64, .inl u.2.1)), (q4, .inl (cI, 64, .inl u.2.2.2.1)), (q5, .inl (cI, 64, .inl u.2.2.2.2)), (q7, .inl (cI, 8, .inl (km_h (km_kx p np 54) 1))), (q8, .inl (cI, 8, .inl (km_h (km_kx p np 92) 1))), (q9, .inl (cI, N, .inl p))]) := by
  refine xMv.of (lv := [(0, .ref q0), (1, .ref q9), (2, .int (nI np))]) (by decide) (Nat.le_of_ble_eq_true rfl) rfl ?_
  intro pp ee ss mm bel met cod A ls H locs hx hb hml hr hlk hts hown hnm hA hK hst hP hD hS hl
  have hown : ss.vm.findClass R_Marker = some mm.cls := hown
  refine lv_aload_n hx hb d_Marker_takeKey_0 rfl (lv_at hl 0 rfl) ?_
  refine va_get (D := G) (ci := 0) (v := .ref q4) (C := R_Marker) (T := F_Marker) (N := 6) hx hb hts hi_Marker hown hK hP 0 rfl rfl 1 (by decide) (hts _ tw_59) (fun _ h9 => h9) rfl d_Marker_takeKey_1 ?_
  refine lv_iconst (v := 0) hx hb d_Marker_takeKey_4 (by decide) ?_
  refine xc_v (wr := [(q0, .inr (0, [.ref q1, .ref q4, .ref q5, .ref q6, .ref q7, .ref q8])), (q1, .inr (1, [.ref q2, .ref q3, .int tk])), (q2, .inl (cI, 8, .inl f)), (q3, .inl (cI, 64, .inl w)), (q5, .inl (cI, 64, .inl bk)), (q7, .inl (cI, 8, .inl g1)), (q8, .inl (cI, 8, .inl g2)), (q9, .inl (cI, N, .inl p))]) (va_runS (As := [.ref q4, .int 0]) (rest := []) ⟨hx, hb, hml, hown, hts⟩ (c_fill l G cI cB tK tH H.size q4 64 k 0 (by omega)) (va_cwS 2 hts (xg_S tw_154 tw_148 tw_21 tw_149) rfl rfl rfl (by decide +kernel) ⟨Nat.le_of_ble_eq_true rfl, Nat.le_of_ble_eq_true rfl⟩) (xc_pre hK hst hA hP hD hS [4] (by decide) rfl [.ref q4, .int 0]) rfl rfl hl.1 rfl (lv_room (Nat.le_of_ble_eq_true rfl)) d_Marker_takeKey_5 ⟨Nat.le_of_ble_eq_true rfl, Nat.le_of_ble_eq_true rfl⟩) hA hP hD hS [4] [0, 1, 2, 3, 5, 6, 7, 8] rfl rfl (by decide) (by decide) (fun u1 H locs hp2 hP hD hS => ?_)
  have hP : va_P G classes [(q0, .inr (0, [.ref q1, .ref q4, .ref q5, .ref q6, .ref q7, .ref q8])), (q1, .inr (1, [.ref q2, .ref q3, .int tk])), (q2, .inl (cI, 8, .inl f)), (q3, .inl (cI, 64, .inl w)), (q5, .inl (cI, 64, .inl bk)), (q7, .inl (cI, 8, .inl g1)), (q8, .inl (cI, 8, .inl g2)), (q9, .inl (cI, N, .inl p)), (q4, .inl (cI, 64, .inl (fun _ => 0)))] H := hP
  have hD : va_D A [(q0, .inr (0, [.ref q1, .ref q4, .ref q5, .ref q6, .ref q7, .ref q8])), (q1, .inr (1, [.ref q2, .ref q3, .int tk])), (q2, .inl (cI, 8, .inl f)), (q3, .inl (cI, 64, .inl w)), (q5, .inl (cI, 64, .inl bk)), (q7, .inl (cI, 8, .inl g1)), (q8, .inl (cI, 8, .inl g2)), (q9, .inl (cI, N, .inl p)), (q4, .inl (cI, 64, .inl (fun _ => 0)))] := hD
  refine lv_iload_n hx hb d_Marker_takeKey_8 rfl (lv_at hl 2 rfl) ?_
  refine lv_bipush (v := 64) hx hb d_Marker_takeKey_9 (by decide) ?_
  refine lv_icmp_le (tgt := 30) hx hb d_Marker_takeKey_11 (by decide) (fun hc => ?_) (fun hc => ?_)
  · have hc : np ≤ 64 := (nI_leI (a := np) (b := 64) (by omega) (by omega)).mp hc
    refine lv_aload_n hx hb d_Marker_takeKey_30 rfl (lv_at hl 1 rfl) ?_
    refine lv_iconst (v := 0) hx hb d_Marker_takeKey_31 (by decide) ?_
    refine lv_aload_n hx hb d_Marker_takeKey_32 rfl (lv_at hl 0 rfl) ?_
    refine va_get (D := G) (ci := 0) (v := .ref q4) (C := R_Marker) (T := F_Marker) (N := 6) hx hb hts hi_Marker hown hK hP 0 rfl rfl 1 (by decide) (hts _ tw_59) (fun _ h9 => h9) rfl d_Marker_takeKey_33 ?_
    refine lv_iconst (v := 0) hx hb d_Marker_takeKey_36 (by decide) ?_
    refine lv_iload_n hx hb d_Marker_takeKey_37 rfl (lv_at hl 2 rfl) ?_
    refine xa_copy (sp := 0) (dp := 0) (n := np) hx hb (by rw [hml]; exact hl.1.symm) hown (hts _ tw_207) (hts _ tw_167) (hts _ tw_166) (hts _ tw_22) hK hP hD hS 7 8 0 0 rfl rfl rfl rfl (by omega) (by omega) (by omega) (by omega) (by omega) (Nat.le_of_ble_eq_true rfl) (Nat.le_of_ble_eq_true rfl) d_Marker_takeKey_38 (fun H locs hP hD hS => ?_)
    have hP : va_P G classes [(q0, .inr (0, [.ref q1, .ref q4, .ref q5, .ref q6, .ref q7, .ref q8])), (q1, .inr (1, [.ref q2, .ref q3, .int tk])), (q2, .inl (cI, 8, .inl f)), (q3, .inl (cI, 64, .inl w)), (q5, .inl (cI, 64, .inl bk)), (q7, .inl (cI, 8, .inl g1)), (q8, .inl (cI, 8, .inl g2)), (q9, .inl (cI, N, .inl p)), (q4, .inl (cI, 64, .inl (va_cpy p (fun _ => 0) 0 0 np)))] H := hP
    have hD : va_D A [(q0, .inr (0, [.ref q1, .ref q4, .ref q5, .ref q6, .ref q7, .ref q8])), (q1, .inr (1, [.ref q2, .ref q3, .int tk])), (q2, .inl (cI, 8, .inl f)), (q3, .inl (cI, 64, .inl w)), (q5, .inl (cI, 64, .inl bk)), (q7, .inl (cI, 8, .inl g1)), (q8, .inl (cI, 8, .inl g2)), (q9, .inl (cI, N, .inl p)), (q4, .inl (cI, 64, .inl (va_cpy p (fun _ => 0) 0 0 np)))] := hD
    have hP := xp_fun hP 8 (km_kb p np) rfl (fun j hj => km_kb_short p (by omega) j)
    have hD := hD.set (p := 8) (e := .inl (cI, 64, .inl (km_kb p np))) rfl
    have hP : va_P G classes [(q0, .inr (0, [.ref q1, .ref q4, .ref q5, .ref q6, .ref q7, .ref q8])), (q1, .inr (1, [.ref q2, .ref q3, .int tk])), (q2, .inl (cI, 8, .inl f)), (q3, .inl (cI, 64, .inl w)), (q5, .inl (cI, 64, .inl bk)), (q7, .inl (cI, 8, .inl g1)), (q8, .inl (cI, 8, .inl g2)), (q9, .inl (cI, N, .inl p)), (q4, .inl (cI, 64, .inl (km_kb p np)))] H := hP
    have hD : va_D A [(q0, .inr (0, [.ref q1, .ref q4, .ref q5, .ref q6, .ref q7, .ref q8])), (q1, .inr (1, [.ref q2, .ref q3, .int tk])), (q2, .inl (cI, 8, .inl f)), (q3, .inl (cI, 64, .inl w)), (q5, .inl (cI, 64, .inl bk)), (q7, .inl (cI, 8, .inl g1)), (q8, .inl (cI, 8, .inl g2)), (q9, .inl (cI, N, .inl p)), (q4, .inl (cI, 64, .inl (km_kb p np)))] := hD
    refine lv_aload_n hx hb d_Marker_takeKey_41 rfl (lv_at hl 0 rfl) ?_
    refine lv_bipush (v := 54) hx hb d_Marker_takeKey_42 (by decide) ?_
    refine lv_aload_n hx hb d_Marker_takeKey_44 rfl (lv_at hl 0 rfl) ?_
    refine va_get (D := G) (ci := 0) (v := .ref q7) (C := R_Marker) (T := F_Marker) (N := 6) hx hb hts hi_Marker hown hK hP 0 rfl rfl 4 (by decide) (hts _ tw_62) (fun _ h9 => h9) rfl d_Marker_takeKey_45 ?_
    refine xc_v (wr := [(q8, .inl (cI, 8, .inl g2)), (q9, .inl (cI, N, .inl p))]) (va_runV (As := [.int 54, .ref q7]) (rest := []) ⟨hx, hb, hml, hown, hts⟩ (c_keepB l G cI cB tK tH H.size q0 q1 q2 q3 q4 q5 q6 q7 q8 q7 f w (km_kb p np) bk g1 tk 54 (fun j _ => km_kb_kr hpp j) kr_54) (cwV 2 hts (xg_V tw_208 tw_210 tw_5 tw_19 tw_211) rfl rfl rfl (by decide +kernel) ⟨Nat.le_of_ble_eq_true rfl, Nat.le_of_ble_eq_true rfl⟩) (xc_preV hK hst hA hP hD hS [0, 1, 2, 3, 8, 4, 5] (by decide) rfl 0 rfl rfl) rfl rfl hl.1 rfl (lv_room (Nat.le_of_ble_eq_true rfl)) d_Marker_takeKey_48 ⟨Nat.le_of_ble_eq_true rfl, Nat.le_of_ble_eq_true rfl⟩) hA hP hD hS [0, 1, 2, 3, 8, 4, 5] [6, 7] rfl rfl (by decide) (by decide) (fun u4 H locs hp5 hP hD hS => ?_)
    obtain ⟨f54, w54, tk54, bk54⟩ := u4
    have hP : va_P G classes [(q8, .inl (cI, 8, .inl g2)), (q9, .inl (cI, N, .inl p)), (q0, .inr (0, [.ref q1, .ref q4, .ref q5, .ref q6, .ref q7, .ref q8])), (q1, .inr (1, [.ref q2, .ref q3, .int tk54])), (q2, .inl (cI, 8, .inl f54)), (q3, .inl (cI, 64, .inl w54)), (q4, .inl (cI, 64, .inl (km_kb p np))), (q5, .inl (cI, 64, .inl bk54)), (q7, .inl (cI, 8, .inl (km_h (fun j => (km_kb p np) j ^^^ 54) 1)))] H := hP
    have hD : va_D A [(q8, .inl (cI, 8, .inl g2)), (q9, .inl (cI, N, .inl p)), (q0, .inr (0, [.ref q1, .ref q4, .ref q5, .ref q6, .ref q7, .ref q8])), (q1, .inr (1, [.ref q2, .ref q3, .int tk54])), (q2, .inl (cI, 8, .inl f54)), (q3, .inl (cI, 64, .inl w54)), (q4, .inl (cI, 64, .inl (km_kb p np))), (q5, .inl (cI, 64, .inl bk54)), (q7, .inl (cI, 8, .inl (km_h (fun j => (km_kb p np) j ^^^ 54) 1)))] := hD
    refine lv_aload_n hx hb d_Marker_takeKey_51 rfl (lv_at hl 0 rfl) ?_
    refine lv_bipush (v := 92) hx hb d_Marker_takeKey_52 (by decide) ?_
    refine lv_aload_n hx hb d_Marker_takeKey_54 rfl (lv_at hl 0 rfl) ?_
    refine va_get (D := G) (ci := 0) (v := .ref q8) (C := R_Marker) (T := F_Marker) (N := 6) hx hb hts hi_Marker hown hK hP 2 rfl rfl 5 (by decide) (hts _ tw_63) (fun _ h9 => h9) rfl d_Marker_takeKey_55 ?_
    refine xc_v (wr := [(q9, .inl (cI, N, .inl p)), (q7, .inl (cI, 8, .inl (km_h (fun j => (km_kb p np) j ^^^ 54) 1)))]) (va_runV (As := [.int 92, .ref q8]) (rest := []) ⟨hx, hb, hml, hown, hts⟩ (c_keepB l G cI cB tK tH H.size q0 q1 q2 q3 q4 q5 q6 q7 q8 q8 f54 w54 (km_kb p np) bk54 g2 tk54 92 (fun j _ => km_kb_kr hpp j) kr_92) (cwV 2 hts (xg_V tw_208 tw_210 tw_5 tw_19 tw_211) rfl rfl rfl (by decide +kernel) ⟨Nat.le_of_ble_eq_true rfl, Nat.le_of_ble_eq_true rfl⟩) (xc_preV hK hst hA hP hD hS [2, 3, 4, 5, 6, 7, 0] (by decide) rfl 2 rfl rfl) rfl rfl hl.1 rfl (lv_room (Nat.le_of_ble_eq_true rfl)) d_Marker_takeKey_58 ⟨Nat.le_of_ble_eq_true rfl, Nat.le_of_ble_eq_true rfl⟩) hA hP hD hS [2, 3, 4, 5, 6, 7, 0] [1, 8] rfl rfl (by decide) (by decide) (fun u7 H locs hp8 hP hD hS => ?_)
    obtain ⟨f92, w92, tk92, bk92⟩ := u7
    have hP : va_P G classes [(q9, .inl (cI, N, .inl p)), (q7, .inl (cI, 8, .inl (km_h (fun j => (km_kb p np) j ^^^ 54) 1))), (q0, .inr (0, [.ref q1, .ref q4, .ref q5, .ref q6, .ref q7, .ref q8])), (q1, .inr (1, [.ref q2, .ref q3, .int tk92])), (q2, .inl (cI, 8, .inl f92)), (q3, .inl (cI, 64, .inl w92)), (q4, .inl (cI, 64, .inl (km_kb p np))), (q5, .inl (cI, 64, .inl bk92)), (q8, .inl (cI, 8, .inl (km_h (fun j => (km_kb p np) j ^^^ 92) 1)))] H := hP
    have hD : va_D A [(q9, .inl (cI, N, .inl p)), (q7, .inl (cI, 8, .inl (km_h (fun j => (km_kb p np) j ^^^ 54) 1))), (q0, .inr (0, [.ref q1, .ref q4, .ref q5, .ref q6, .ref q7, .ref q8])), (q1, .inr (1, [.ref q2, .ref q3, .int tk92])), (q2, .inl (cI, 8, .inl f92)), (q3, .inl (cI, 64, .inl w92)), (q4, .inl (cI, 64, .inl (km_kb p np))), (q5, .inl (cI, 64, .inl bk92)), (q8, .inl (cI, 8, .inl (km_h (fun j => (km_kb p np) j ^^^ 92) 1)))] := hD
    exact xe_v (f92, w92, tk92, km_kb p np, bk92) hx hb hr hlk hK (trivial) (hP.sub (ws' := [(q0, .inr (0, [.ref q1, .ref q4, .ref q5, .ref q6, .ref q7, .ref q8])), (q1, .inr (1, [.ref q2, .ref q3, .int tk92])), (q2, .inl (cI, 8, .inl f92)), (q3, .inl (cI, 64, .inl w92)), (q4, .inl (cI, 64, .inl (km_kb p np))), (q5, .inl (cI, 64, .inl bk92)), (q7, .inl (cI, 8, .inl (km_h (fun j => (km_kb p np) j ^^^ 54) 1))), (q8, .inl (cI, 8, .inl (km_h (fun j => (km_kb p np) j ^^^ 92) 1))), (q9, .inl (cI, N, .inl p))]) [2, 3, 4, 5, 6, 7, 1, 8, 0] rfl) (hD.sub (ws' := [(q0, .inr (0, [.ref q1, .ref q4, .ref q5, .ref q6, .ref q7, .ref q8])), (q1, .inr (1, [.ref q2, .ref q3, .int tk92])), (q2, .inl (cI, 8, .inl f92)), (q3, .inl (cI, 64, .inl w92)), (q4, .inl (cI, 64, .inl (km_kb p np))), (q5, .inl (cI, 64, .inl bk92)), (q7, .inl (cI, 8, .inl (km_h (fun j => (km_kb p np) j ^^^ 54) 1))), (q8, .inl (cI, 8, .inl (km_h (fun j => (km_kb p np) j ^^^ 92) 1))), (q9, .inl (cI, N, .inl p))]) [2, 3, 4, 5, 6, 7, 1, 8, 0] (by decide) rfl) hS d_Marker_takeKey_61 (by decide) (by decide)
  · have hc : ¬ np ≤ 64 := fun z => hc ((nI_leI (a := np) (b := 64) (by omega) (by omega)).mpr z)
    refine lv_aload_n hx hb d_Marker_takeKey_14 rfl (lv_at hl 0 rfl) ?_
    refine va_get (D := G) (ci := 0) (v := .ref q1) (C := R_Marker) (T := F_Marker) (N := 6) hx hb hts hi_Marker hown hK hP 0 rfl rfl 0 (by decide) (hts _ tw_58) (fun _ h9 => h9) rfl d_Marker_takeKey_15 ?_
    refine lv_aload_n hx hb d_Marker_takeKey_18 rfl (lv_at hl 1 rfl) ?_
    refine lv_iload_n hx hb d_Marker_takeKey_19 rfl (lv_at hl 2 rfl) ?_
    refine lv_aload_n hx hb d_Marker_takeKey_20 rfl (lv_at hl 0 rfl) ?_
    refine va_get (D := G) (ci := 0) (v := .ref q4) (C := R_Marker) (T := F_Marker) (N := 6) hx hb hts hi_Marker hown hK hP 0 rfl rfl 1 (by decide) (hts _ tw_59) (fun _ h9 => h9) rfl d_Marker_takeKey_21 ?_
    refine xc_v (wr := [(q0, .inr (0, [.ref q1, .ref q4, .ref q5, .ref q6, .ref q7, .ref q8])), (q5, .inl (cI, 64, .inl bk)), (q7, .inl (cI, 8, .inl g1)), (q8, .inl (cI, 8, .inl g2))]) (va_runV (As := [.ref q9, .int (nI np), .ref q4]) (rest := []) ⟨hx, hb, hml, hown, hts⟩ (c_writeSum l G cI cB tK tH H.size q1 q2 q3 q9 q4 f w p (fun _ => 0) tk np N 64 (by omega) (by omega) (by omega) (by omega) (by omega) hpp) (cwV 3 hts (xg_V tw_155 tw_156 tw_157 tw_18 tw_158) rfl rfl rfl (by decide +kernel) ⟨Nat.le_of_ble_eq_true rfl, Nat.le_of_ble_eq_true rfl⟩) (xc_preV hK hst hA hP hD hS [1, 2, 3, 7, 8] (by decide) rfl 1 rfl rfl) rfl rfl hl.1 rfl (lv_room (Nat.le_of_ble_eq_true rfl)) d_Marker_takeKey_24 ⟨Nat.le_of_ble_eq_true rfl, Nat.le_of_ble_eq_true rfl⟩) hA hP hD hS [1, 2, 3, 7, 8] [0, 4, 5, 6] rfl rfl (by decide) (by decide) (fun u10 H locs hp11 hP hD hS => ?_)
    obtain ⟨f1, w1, tk1⟩ := u10
    have hP : va_P G classes [(q0, .inr (0, [.ref q1, .ref q4, .ref q5, .ref q6, .ref q7, .ref q8])), (q5, .inl (cI, 64, .inl bk)), (q7, .inl (cI, 8, .inl g1)), (q8, .inl (cI, 8, .inl g2)), (q1, .inr (1, [.ref q2, .ref q3, .int tk1])), (q2, .inl (cI, 8, .inl f1)), (q3, .inl (cI, 64, .inl w1)), (q9, .inl (cI, N, .inl p)), (q4, .inl (cI, 64, .inl (km_sum p np (fun _ => 0))))] H := hP
    have hD : va_D A [(q0, .inr (0, [.ref q1, .ref q4, .ref q5, .ref q6, .ref q7, .ref q8])), (q5, .inl (cI, 64, .inl bk)), (q7, .inl (cI, 8, .inl g1)), (q8, .inl (cI, 8, .inl g2)), (q1, .inr (1, [.ref q2, .ref q3, .int tk1])), (q2, .inl (cI, 8, .inl f1)), (q3, .inl (cI, 64, .inl w1)), (q9, .inl (cI, N, .inl p)), (q4, .inl (cI, 64, .inl (km_sum p np (fun _ => 0))))] := hD
    have hP := xp_fun hP 8 (km_kb p np) rfl (fun j hj => km_kb_long p (by omega) j)
    have hD := hD.set (p := 8) (e := .inl (cI, 64, .inl (km_kb p np))) rfl
    have hP : va_P G classes [(q0, .inr (0, [.ref q1, .ref q4, .ref q5, .ref q6, .ref q7, .ref q8])), (q5, .inl (cI, 64, .inl bk)), (q7, .inl (cI, 8, .inl g1)), (q8, .inl (cI, 8, .inl g2)), (q1, .inr (1, [.ref q2, .ref q3, .int tk1])), (q2, .inl (cI, 8, .inl f1)), (q3, .inl (cI, 64, .inl w1)), (q9, .inl (cI, N, .inl p)), (q4, .inl (cI, 64, .inl (km_kb p np)))] H := hP
    have hD : va_D A [(q0, .inr (0, [.ref q1, .ref q4, .ref q5, .ref q6, .ref q7, .ref q8])), (q5, .inl (cI, 64, .inl bk)), (q7, .inl (cI, 8, .inl g1)), (q8, .inl (cI, 8, .inl g2)), (q1, .inr (1, [.ref q2, .ref q3, .int tk1])), (q2, .inl (cI, 8, .inl f1)), (q3, .inl (cI, 64, .inl w1)), (q9, .inl (cI, N, .inl p)), (q4, .inl (cI, 64, .inl (km_kb p np)))] := hD
    refine lv_goto (tgt := 41) hx hb d_Marker_takeKey_27 (by decide) ?_
    refine lv_aload_n hx hb d_Marker_takeKey_41 rfl (lv_at hl 0 rfl) ?_
    refine lv_bipush (v := 54) hx hb d_Marker_takeKey_42 (by decide) ?_
    refine lv_aload_n hx hb d_Marker_takeKey_44 rfl (lv_at hl 0 rfl) ?_
    refine va_get (D := G) (ci := 0) (v := .ref q7) (C := R_Marker) (T := F_Marker) (N := 6) hx hb hts hi_Marker hown hK hP 0 rfl rfl 4 (by decide) (hts _ tw_62) (fun _ h9 => h9) rfl d_Marker_takeKey_45 ?_
    refine xc_v (wr := [(q8, .inl (cI, 8, .inl g2)), (q9, .inl (cI, N, .inl p))]) (va_runV (As := [.int 54, .ref q7]) (rest := []) ⟨hx, hb, hml, hown, hts⟩ (c_keepB l G cI cB tK tH H.size q0 q1 q2 q3 q4 q5 q6 q7 q8 q7 f1 w1 (km_kb p np) bk g1 tk1 54 (fun j _ => km_kb_kr hpp j) kr_54) (cwV 2 hts (xg_V tw_208 tw_210 tw_5 tw_19 tw_211) rfl rfl rfl (by decide +kernel) ⟨Nat.le_of_ble_eq_true rfl, Nat.le_of_ble_eq_true rfl⟩) (xc_preV hK hst hA hP hD hS [0, 4, 5, 6, 8, 1, 2] (by decide) rfl 0 rfl rfl) rfl rfl hl.1 rfl (lv_room (Nat.le_of_ble_eq_true rfl)) d_Marker_takeKey_48 ⟨Nat.le_of_ble_eq_true rfl, Nat.le_of_ble_eq_true rfl⟩) hA hP hD hS [0, 4, 5, 6, 8, 1, 2] [3, 7] rfl rfl (by decide) (by decide) (fun u13 H locs hp14 hP hD hS => ?_)
    obtain ⟨f54, w54, tk54, bk54⟩ := u13
    have hP : va_P G classes [(q8, .inl (cI, 8, .inl g2)), (q9, .inl (cI, N, .inl p)), (q0, .inr (0, [.ref q1, .ref q4, .ref q5, .ref q6, .ref q7, .ref q8])), (q1, .inr (1, [.ref q2, .ref q3, .int tk54])), (q2, .inl (cI, 8, .inl f54)), (q3, .inl (cI, 64, .inl w54)), (q4, .inl (cI, 64, .inl (km_kb p np))), (q5, .inl (cI, 64, .inl bk54)), (q7, .inl (cI, 8, .inl (km_h (fun j => (km_kb p np) j ^^^ 54) 1)))] H := hP
    have hD : va_D A [(q8, .inl (cI, 8, .inl g2)), (q9, .inl (cI, N, .inl p)), (q0, .inr (0, [.ref q1, .ref q4, .ref q5, .ref q6, .ref q7, .ref q8])), (q1, .inr (1, [.ref q2, .ref q3, .int tk54])), (q2, .inl (cI, 8, .inl f54)), (q3, .inl (cI, 64, .inl w54)), (q4, .inl (cI, 64, .inl (km_kb p np))), (q5, .inl (cI, 64, .inl bk54)), (q7, .inl (cI, 8, .inl (km_h (fun j => (km_kb p np) j ^^^ 54) 1)))] := hD
    refine lv_aload_n hx hb d_Marker_takeKey_51 rfl (lv_at hl 0 rfl) ?_
    refine lv_bipush (v := 92) hx hb d_Marker_takeKey_52 (by decide) ?_
    refine lv_aload_n hx hb d_Marker_takeKey_54 rfl (lv_at hl 0 rfl) ?_
    refine va_get (D := G) (ci := 0) (v := .ref q8) (C := R_Marker) (T := F_Marker) (N := 6) hx hb hts hi_Marker hown hK hP 2 rfl rfl 5 (by decide) (hts _ tw_63) (fun _ h9 => h9) rfl d_Marker_takeKey_55 ?_
    refine xc_v (wr := [(q9, .inl (cI, N, .inl p)), (q7, .inl (cI, 8, .inl (km_h (fun j => (km_kb p np) j ^^^ 54) 1)))]) (va_runV (As := [.int 92, .ref q8]) (rest := []) ⟨hx, hb, hml, hown, hts⟩ (c_keepB l G cI cB tK tH H.size q0 q1 q2 q3 q4 q5 q6 q7 q8 q8 f54 w54 (km_kb p np) bk54 g2 tk54 92 (fun j _ => km_kb_kr hpp j) kr_92) (cwV 2 hts (xg_V tw_208 tw_210 tw_5 tw_19 tw_211) rfl rfl rfl (by decide +kernel) ⟨Nat.le_of_ble_eq_true rfl, Nat.le_of_ble_eq_true rfl⟩) (xc_preV hK hst hA hP hD hS [2, 3, 4, 5, 6, 7, 0] (by decide) rfl 2 rfl rfl) rfl rfl hl.1 rfl (lv_room (Nat.le_of_ble_eq_true rfl)) d_Marker_takeKey_58 ⟨Nat.le_of_ble_eq_true rfl, Nat.le_of_ble_eq_true rfl⟩) hA hP hD hS [2, 3, 4, 5, 6, 7, 0] [1, 8] rfl rfl (by decide) (by decide) (fun u16 H locs hp17 hP hD hS => ?_)
    obtain ⟨f92, w92, tk92, bk92⟩ := u16
    have hP : va_P G classes [(q9, .inl (cI, N, .inl p)), (q7, .inl (cI, 8, .inl (km_h (fun j => (km_kb p np) j ^^^ 54) 1))), (q0, .inr (0, [.ref q1, .ref q4, .ref q5, .ref q6, .ref q7, .ref q8])), (q1, .inr (1, [.ref q2, .ref q3, .int tk92])), (q2, .inl (cI, 8, .inl f92)), (q3, .inl (cI, 64, .inl w92)), (q4, .inl (cI, 64, .inl (km_kb p np))), (q5, .inl (cI, 64, .inl bk92)), (q8, .inl (cI, 8, .inl (km_h (fun j => (km_kb p np) j ^^^ 92) 1)))] H := hP
    have hD : va_D A [(q9, .inl (cI, N, .inl p)), (q7, .inl (cI, 8, .inl (km_h (fun j => (km_kb p np) j ^^^ 54) 1))), (q0, .inr (0, [.ref q1, .ref q4, .ref q5, .ref q6, .ref q7, .ref q8])), (q1, .inr (1, [.ref q2, .ref q3, .int tk92])), (q2, .inl (cI, 8, .inl f92)), (q3, .inl (cI, 64, .inl w92)), (q4, .inl (cI, 64, .inl (km_kb p np))), (q5, .inl (cI, 64, .inl bk92)), (q8, .inl (cI, 8, .inl (km_h (fun j => (km_kb p np) j ^^^ 92) 1)))] := hD
    exact xe_v (f92, w92, tk92, km_kb p np, bk92) hx hb hr hlk hK (trivial) (hP.sub (ws' := [(q0, .inr (0, [.ref q1, .ref q4, .ref q5, .ref q6, .ref q7, .ref q8])), (q1, .inr (1, [.ref q2, .ref q3, .int tk92])), (q2, .inl (cI, 8, .inl f92)), (q3, .inl (cI, 64, .inl w92)), (q4, .inl (cI, 64, .inl (km_kb p np))), (q5, .inl (cI, 64, .inl bk92)), (q7, .inl (cI, 8, .inl (km_h (fun j => (km_kb p np) j ^^^ 54) 1))), (q8, .inl (cI, 8, .inl (km_h (fun j => (km_kb p np) j ^^^ 92) 1))), (q9, .inl (cI, N, .inl p))]) [2, 3, 4, 5, 6, 7, 1, 8, 0] rfl) (hD.sub (ws' := [(q0, .inr (0, [.ref q1, .ref q4, .ref q5, .ref q6, .ref q7, .ref q8])), (q1, .inr (1, [.ref q2, .ref q3, .int tk92])), (q2, .inl (cI, 8, .inl f92)), (q3, .inl (cI, 64, .inl w92)), (q4, .inl (cI, 64, .inl (km_kb p np))), (q5, .inl (cI, 64, .inl bk92)), (q7, .inl (cI, 8, .inl (km_h (fun j => (km_kb p np) j ^^^ 54) 1))), (q8, .inl (cI, 8, .inl (km_h (fun j => (km_kb p np) j ^^^ 92) 1))), (q9, .inl (cI, N, .inl p))]) [2, 3, 4, 5, 6, 7, 1, 8, 0] (by decide) rfl) hS d_Marker_takeKey_61 (by decide) (by decide)
set_option maxHeartbeats 4000000 in
set_option maxRecDepth 100000 in
theorem c_markA (l : Launch) (G : va_G) (cI cB : ClassId) (tK tH sz : Nat) (q0 q1 q2 q3 q4 q5 q6 q7 q8 : Nat) (q9 q10 : Nat) (f w i p x g : Nat → Int32) (tk : Int32) (np n N : Nat) (hn : n < 150) (hpp : ∀ j, j < np → kr (p j)) (hxr : ∀ j, j < n → kr (x j)) (hN : n ≤ N) (hN2 : N < 1000) : xMv l G cI cB tK tH y_Marker_writeMark b_Marker_writeMark 4 none ({ frames := 5, cells := 0, slots := 0, locals := 120 }) [.ref q0, .ref q9, .int (nI n), .ref q10] sz [(q0, .inr (0, [.ref q1, .ref q4, .ref q5, .ref q6, .ref q7, .ref q8])), (q1, .inr (1, [.ref q2, .ref q3, .int tk])), (q2, .inl (cI, 8, .inl f)), (q3, .inl (cI, 64, .inl w)), (q6, .inl (cI, 32, .inl i)), (q7, .inl (cI, 8, .inl (km_h (km_kx p np 54) 1))), (q8, .inl (cI, 8, .inl (km_h (km_kx p np 92) 1))), (q9, .inl (cI, N, .inl x)), (q10, .inl (cI, 32, .inl g))] (fun _ => True) (fun u : (Nat → Int32) × (Nat → Int32) × Int32 × (Nat → Int32) => [(q0, .inr (0, [.ref q1, .ref q4, .ref q5, .ref q6, .ref q7, .ref q8])), (q1, .inr (1, [.ref q2, .ref q3, .int u.2.2.1])), (q2, .inl (cI, 8, .inl u.1)), (q3, .inl (cI, 64, .inl u.2.1)), (q6, .inl (cI, 32, .inl u.2.2.2)), (q7, .inl (cI, 8, .inl (km_h (km_kx p np 54) 1))), (q8, .inl (cI, 8, .inl (km_h (km_kx p np 92) 1))), (q9, .inl (cI, N, .inl x)), (q10, .inl (cI, 32, .inl (km_mk p np x n)))]) := by
  refine xMv.of (lv := [(0, .ref q0), (1, .ref q9), (2, .int (nI n)), (3, .ref q10)]) (by decide) (Nat.le_of_ble_eq_true rfl) rfl ?_
  intro pp ee ss mm bel met cod A ls H locs hx hb hml hr hlk hts hown hnm hA hK hst hP hD hS hl
  have hown : ss.vm.findClass R_Marker = some mm.cls := hown
  refine lv_aload_n hx hb d_Marker_writeMark_0 rfl (lv_at hl 0 rfl) ?_
  refine va_get (D := G) (ci := 0) (v := .ref q1) (C := R_Marker) (T := F_Marker) (N := 6) hx hb hts hi_Marker hown hK hP 0 rfl rfl 0 (by decide) (hts _ tw_58) (fun _ h9 => h9) rfl d_Marker_writeMark_1 ?_
  refine lv_aload_n hx hb d_Marker_writeMark_4 rfl (lv_at hl 0 rfl) ?_
  refine va_get (D := G) (ci := 0) (v := .ref q7) (C := R_Marker) (T := F_Marker) (N := 6) hx hb hts hi_Marker hown hK hP 0 rfl rfl 4 (by decide) (hts _ tw_62) (fun _ h9 => h9) rfl d_Marker_writeMark_5 ?_
  refine xc_v (wr := [(q0, .inr (0, [.ref q1, .ref q4, .ref q5, .ref q6, .ref q7, .ref q8])), (q3, .inl (cI, 64, .inl w)), (q6, .inl (cI, 32, .inl i)), (q8, .inl (cI, 8, .inl (km_h (km_kx p np 92) 1))), (q9, .inl (cI, N, .inl x)), (q10, .inl (cI, 32, .inl g))]) (va_runV (As := [.ref q7]) (rest := []) ⟨hx, hb, hml, hown, hts⟩ (c_behind l G cI cB tK tH H.size q1 q2 q3 q7 f (km_h (km_kx p np 54) 1) tk ) (cwV 1 hts (xg_V tw_234 tw_235 tw_236 tw_18 tw_237) rfl rfl rfl (by decide +kernel) ⟨Nat.le_of_ble_eq_true rfl, Nat.le_of_ble_eq_true rfl⟩) (xc_preV hK hst hA hP hD hS [1, 2, 5] (by decide) rfl 1 rfl rfl) rfl rfl hl.1 rfl (lv_room (Nat.le_of_ble_eq_true rfl)) d_Marker_writeMark_8 ⟨Nat.le_of_ble_eq_true rfl, Nat.le_of_ble_eq_true rfl⟩) hA hP hD hS [1, 2, 5] [0, 3, 4, 6, 7, 8] rfl rfl (by decide) (by decide) (fun u1 H locs hp2 hP hD hS => ?_)
  have hP : va_P G classes [(q0, .inr (0, [.ref q1, .ref q4, .ref q5, .ref q6, .ref q7, .ref q8])), (q3, .inl (cI, 64, .inl w)), (q6, .inl (cI, 32, .inl i)), (q8, .inl (cI, 8, .inl (km_h (km_kx p np 92) 1))), (q9, .inl (cI, N, .inl x)), (q10, .inl (cI, 32, .inl g)), (q1, .inr (1, [.ref q2, .ref q3, .int 64])), (q2, .inl (cI, 8, .inl (km_h (km_kx p np 54) 1))), (q7, .inl (cI, 8, .inl (km_h (km_kx p np 54) 1)))] H := hP
  have hD : va_D A [(q0, .inr (0, [.ref q1, .ref q4, .ref q5, .ref q6, .ref q7, .ref q8])), (q3, .inl (cI, 64, .inl w)), (q6, .inl (cI, 32, .inl i)), (q8, .inl (cI, 8, .inl (km_h (km_kx p np 92) 1))), (q9, .inl (cI, N, .inl x)), (q10, .inl (cI, 32, .inl g)), (q1, .inr (1, [.ref q2, .ref q3, .int 64])), (q2, .inl (cI, 8, .inl (km_h (km_kx p np 54) 1))), (q7, .inl (cI, 8, .inl (km_h (km_kx p np 54) 1)))] := hD
  have hP := xp_fun hP 7 (km_h (km_pad (km_cat (km_kx p np 54) 64 x) (64 + n)) (64 / 64)) rfl (fun j _ => congrFun (km_h_cat _ _ _).symm j)
  have hD := hD.set (p := 7) (e := .inl (cI, 8, .inl (km_h (km_pad (km_cat (km_kx p np 54) 64 x) (64 + n)) (64 / 64)))) rfl
  have hP : va_P G classes [(q0, .inr (0, [.ref q1, .ref q4, .ref q5, .ref q6, .ref q7, .ref q8])), (q3, .inl (cI, 64, .inl w)), (q6, .inl (cI, 32, .inl i)), (q8, .inl (cI, 8, .inl (km_h (km_kx p np 92) 1))), (q9, .inl (cI, N, .inl x)), (q10, .inl (cI, 32, .inl g)), (q1, .inr (1, [.ref q2, .ref q3, .int 64])), (q2, .inl (cI, 8, .inl (km_h (km_pad (km_cat (km_kx p np 54) 64 x) (64 + n)) (64 / 64)))), (q7, .inl (cI, 8, .inl (km_h (km_kx p np 54) 1)))] H := hP
  have hD : va_D A [(q0, .inr (0, [.ref q1, .ref q4, .ref q5, .ref q6, .ref q7, .ref q8])), (q3, .inl (cI, 64, .inl w)), (q6, .inl (cI, 32, .inl i)), (q8, .inl (cI, 8, .inl (km_h (km_kx p np 92) 1))), (q9, .inl (cI, N, .inl x)), (q10, .inl (cI, 32, .inl g)), (q1, .inr (1, [.ref q2, .ref q3, .int 64])), (q2, .inl (cI, 8, .inl (km_h (km_pad (km_cat (km_kx p np 54) 64 x) (64 + n)) (64 / 64)))), (q7, .inl (cI, 8, .inl (km_h (km_kx p np 54) 1)))] := hD
  refine lv_aload_n hx hb d_Marker_writeMark_11 rfl (lv_at hl 0 rfl) ?_
  refine va_get (D := G) (ci := 0) (v := .ref q1) (C := R_Marker) (T := F_Marker) (N := 6) hx hb hts hi_Marker hown hK hP 0 rfl rfl 0 (by decide) (hts _ tw_58) (fun _ h9 => h9) rfl d_Marker_writeMark_12 ?_
  refine lv_aload_n hx hb d_Marker_writeMark_15 rfl (lv_at hl 1 rfl) ?_
  refine lv_iload_n hx hb d_Marker_writeMark_16 rfl (lv_at hl 2 rfl) ?_
  refine xc_v (wr := [(q0, .inr (0, [.ref q1, .ref q4, .ref q5, .ref q6, .ref q7, .ref q8])), (q6, .inl (cI, 32, .inl i)), (q8, .inl (cI, 8, .inl (km_h (km_kx p np 92) 1))), (q10, .inl (cI, 32, .inl g)), (q7, .inl (cI, 8, .inl (km_h (km_kx p np 54) 1)))]) (va_runV (As := [.ref q9, .int (nI n)]) (rest := []) ⟨hx, hb, hml, hown, hts⟩ (c_takeRow l G cI cB tK tH H.size q1 q2 q3 q9 (km_pad (km_cat (km_kx p np 54) 64 x) (64 + n)) w x 64 n N (by omega) (by omega) (by omega) (km_ok_start _ _ rfl) (fun j hj => by rw [km_pad_in _ (by omega), km_cat_hi]) (fun j hj => by rw [km_pad_in _ (by omega), km_cat_hi]; exact hxr j hj)) (cwV 2 hts (xg_V tw_213 tw_169 tw_170 tw_18 tw_171) rfl rfl rfl (by decide +kernel) ⟨Nat.le_of_ble_eq_true rfl, Nat.le_of_ble_eq_true rfl⟩) (xc_preV hK hst hA hP hD hS [6, 7, 1, 4] (by decide) rfl 6 rfl rfl) rfl rfl hl.1 rfl (lv_room (Nat.le_of_ble_eq_true rfl)) d_Marker_writeMark_17 ⟨Nat.le_of_ble_eq_true rfl, Nat.le_of_ble_eq_true rfl⟩) hA hP hD hS [6, 7, 1, 4] [0, 2, 3, 5, 8] rfl rfl (by decide) (by decide) (fun w1 H locs hok1 hP hD hS => ?_)
  have hP : va_P G classes [(q0, .inr (0, [.ref q1, .ref q4, .ref q5, .ref q6, .ref q7, .ref q8])), (q6, .inl (cI, 32, .inl i)), (q8, .inl (cI, 8, .inl (km_h (km_kx p np 92) 1))), (q10, .inl (cI, 32, .inl g)), (q7, .inl (cI, 8, .inl (km_h (km_kx p np 54) 1))), (q1, .inr (1, [.ref q2, .ref q3, .int (nI (64 + n))])), (q2, .inl (cI, 8, .inl (km_h (km_pad (km_cat (km_kx p np 54) 64 x) (64 + n)) ((64 + n) / 64)))), (q3, .inl (cI, 64, .inl w1)), (q9, .inl (cI, N, .inl x))] H := hP
  have hD : va_D A [(q0, .inr (0, [.ref q1, .ref q4, .ref q5, .ref q6, .ref q7, .ref q8])), (q6, .inl (cI, 32, .inl i)), (q8, .inl (cI, 8, .inl (km_h (km_kx p np 92) 1))), (q10, .inl (cI, 32, .inl g)), (q7, .inl (cI, 8, .inl (km_h (km_kx p np 54) 1))), (q1, .inr (1, [.ref q2, .ref q3, .int (nI (64 + n))])), (q2, .inl (cI, 8, .inl (km_h (km_pad (km_cat (km_kx p np 54) 64 x) (64 + n)) ((64 + n) / 64)))), (q3, .inl (cI, 64, .inl w1)), (q9, .inl (cI, N, .inl x))] := hD
  refine lv_aload_n hx hb d_Marker_writeMark_20 rfl (lv_at hl 0 rfl) ?_
  refine va_get (D := G) (ci := 0) (v := .ref q1) (C := R_Marker) (T := F_Marker) (N := 6) hx hb hts hi_Marker hown hK hP 0 rfl rfl 0 (by decide) (hts _ tw_58) (fun _ h9 => h9) rfl d_Marker_writeMark_21 ?_
  refine lv_aload_n hx hb d_Marker_writeMark_24 rfl (lv_at hl 0 rfl) ?_
  refine va_get (D := G) (ci := 0) (v := .ref q6) (C := R_Marker) (T := F_Marker) (N := 6) hx hb hts hi_Marker hown hK hP 0 rfl rfl 3 (by decide) (hts _ tw_61) (fun _ h9 => h9) rfl d_Marker_writeMark_25 ?_
  refine xc_v (wr := [(q0, .inr (0, [.ref q1, .ref q4, .ref q5, .ref q6, .ref q7, .ref q8])), (q8, .inl (cI, 8, .inl (km_h (km_kx p np 92) 1))), (q10, .inl (cI, 32, .inl g)), (q7, .inl (cI, 8, .inl (km_h (km_kx p np 54) 1))), (q9, .inl (cI, N, .inl x))]) (va_runV (As := [.ref q6]) (rest := []) ⟨hx, hb, hml, hown, hts⟩ (c_finish l G cI cB tK tH H.size q1 q2 q3 q6 (km_cat (km_kx p np 54) 64 x) w1 i (64 + n) 32 (by omega) (by omega) (by omega) hok1) (cwV 1 hts (xg_V tw_238 tw_202 tw_203 tw_18 tw_204) rfl rfl rfl (by decide +kernel) ⟨Nat.le_of_ble_eq_true rfl, Nat.le_of_ble_eq_true rfl⟩) (xc_preV hK hst hA hP hD hS [5, 6, 7, 1] (by decide) rfl 5 rfl rfl) rfl rfl hl.1 rfl (lv_room (Nat.le_of_ble_eq_true rfl)) d_Marker_writeMark_28 ⟨Nat.le_of_ble_eq_true rfl, Nat.le_of_ble_eq_true rfl⟩) hA hP hD hS [5, 6, 7, 1] [0, 2, 3, 4, 8] rfl rfl (by decide) (by decide) (fun u5 H locs hp6 hP hD hS => ?_)
  obtain ⟨f2, w2, tk2⟩ := u5
  have hP : va_P G classes [(q0, .inr (0, [.ref q1, .ref q4, .ref q5, .ref q6, .ref q7, .ref q8])), (q8, .inl (cI, 8, .inl (km_h (km_kx p np 92) 1))), (q10, .inl (cI, 32, .inl g)), (q7, .inl (cI, 8, .inl (km_h (km_kx p np 54) 1))), (q9, .inl (cI, N, .inl x)), (q1, .inr (1, [.ref q2, .ref q3, .int tk2])), (q2, .inl (cI, 8, .inl f2)), (q3, .inl (cI, 64, .inl w2)), (q6, .inl (cI, 32, .inl (km_sum (km_cat (km_kx p np 54) 64 x) (64 + n) i)))] H := hP
  have hD : va_D A [(q0, .inr (0, [.ref q1, .ref q4, .ref q5, .ref q6, .ref q7, .ref q8])), (q8, .inl (cI, 8, .inl (km_h (km_kx p np 92) 1))), (q10, .inl (cI, 32, .inl g)), (q7, .inl (cI, 8, .inl (km_h (km_kx p np 54) 1))), (q9, .inl (cI, N, .inl x)), (q1, .inr (1, [.ref q2, .ref q3, .int tk2])), (q2, .inl (cI, 8, .inl f2)), (q3, .inl (cI, 64, .inl w2)), (q6, .inl (cI, 32, .inl (km_sum (km_cat (km_kx p np 54) 64 x) (64 + n) i)))] := hD
  have hP := xp_fun hP 8 (km_in p np x n) rfl (fun j hj => km_sum_lo _ _ _ hj)
  have hD := hD.set (p := 8) (e := .inl (cI, 32, .inl (km_in p np x n))) rfl
  have hP : va_P G classes [(q0, .inr (0, [.ref q1, .ref q4, .ref q5, .ref q6, .ref q7, .ref q8])), (q8, .inl (cI, 8, .inl (km_h (km_kx p np 92) 1))), (q10, .inl (cI, 32, .inl g)), (q7, .inl (cI, 8, .inl (km_h (km_kx p np 54) 1))), (q9, .inl (cI, N, .inl x)), (q1, .inr (1, [.ref q2, .ref q3, .int tk2])), (q2, .inl (cI, 8, .inl f2)), (q3, .inl (cI, 64, .inl w2)), (q6, .inl (cI, 32, .inl (km_in p np x n)))] H := hP
  have hD : va_D A [(q0, .inr (0, [.ref q1, .ref q4, .ref q5, .ref q6, .ref q7, .ref q8])), (q8, .inl (cI, 8, .inl (km_h (km_kx p np 92) 1))), (q10, .inl (cI, 32, .inl g)), (q7, .inl (cI, 8, .inl (km_h (km_kx p np 54) 1))), (q9, .inl (cI, N, .inl x)), (q1, .inr (1, [.ref q2, .ref q3, .int tk2])), (q2, .inl (cI, 8, .inl f2)), (q3, .inl (cI, 64, .inl w2)), (q6, .inl (cI, 32, .inl (km_in p np x n)))] := hD
  refine lv_aload_n hx hb d_Marker_writeMark_31 rfl (lv_at hl 0 rfl) ?_
  refine va_get (D := G) (ci := 0) (v := .ref q1) (C := R_Marker) (T := F_Marker) (N := 6) hx hb hts hi_Marker hown hK hP 0 rfl rfl 0 (by decide) (hts _ tw_58) (fun _ h9 => h9) rfl d_Marker_writeMark_32 ?_
  refine lv_aload_n hx hb d_Marker_writeMark_35 rfl (lv_at hl 0 rfl) ?_
  refine va_get (D := G) (ci := 0) (v := .ref q8) (C := R_Marker) (T := F_Marker) (N := 6) hx hb hts hi_Marker hown hK hP 0 rfl rfl 5 (by decide) (hts _ tw_63) (fun _ h9 => h9) rfl d_Marker_writeMark_36 ?_
  refine xc_v (wr := [(q0, .inr (0, [.ref q1, .ref q4, .ref q5, .ref q6, .ref q7, .ref q8])), (q10, .inl (cI, 32, .inl g)), (q7, .inl (cI, 8, .inl (km_h (km_kx p np 54) 1))), (q9, .inl (cI, N, .inl x)), (q3, .inl (cI, 64, .inl w2)), (q6, .inl (cI, 32, .inl (km_in p np x n)))]) (va_runV (As := [.ref q8]) (rest := []) ⟨hx, hb, hml, hown, hts⟩ (c_behind l G cI cB tK tH H.size q1 q2 q3 q8 f2 (km_h (km_kx p np 92) 1) tk2 ) (cwV 1 hts (xg_V tw_234 tw_235 tw_236 tw_18 tw_237) rfl rfl rfl (by decide +kernel) ⟨Nat.le_of_ble_eq_true rfl, Nat.le_of_ble_eq_true rfl⟩) (xc_preV hK hst hA hP hD hS [5, 6, 1] (by decide) rfl 5 rfl rfl) rfl rfl hl.1 rfl (lv_room (Nat.le_of_ble_eq_true rfl)) d_Marker_writeMark_39 ⟨Nat.le_of_ble_eq_true rfl, Nat.le_of_ble_eq_true rfl⟩) hA hP hD hS [5, 6, 1] [0, 2, 3, 4, 7, 8] rfl rfl (by decide) (by decide) (fun u8 H locs hp9 hP hD hS => ?_)
  have hP : va_P G classes [(q0, .inr (0, [.ref q1, .ref q4, .ref q5, .ref q6, .ref q7, .ref q8])), (q10, .inl (cI, 32, .inl g)), (q7, .inl (cI, 8, .inl (km_h (km_kx p np 54) 1))), (q9, .inl (cI, N, .inl x)), (q3, .inl (cI, 64, .inl w2)), (q6, .inl (cI, 32, .inl (km_in p np x n))), (q1, .inr (1, [.ref q2, .ref q3, .int 64])), (q2, .inl (cI, 8, .inl (km_h (km_kx p np 92) 1))), (q8, .inl (cI, 8, .inl (km_h (km_kx p np 92) 1)))] H := hP
  have hD : va_D A [(q0, .inr (0, [.ref q1, .ref q4, .ref q5, .ref q6, .ref q7, .ref q8])), (q10, .inl (cI, 32, .inl g)), (q7, .inl (cI, 8, .inl (km_h (km_kx p np 54) 1))), (q9, .inl (cI, N, .inl x)), (q3, .inl (cI, 64, .inl w2)), (q6, .inl (cI, 32, .inl (km_in p np x n))), (q1, .inr (1, [.ref q2, .ref q3, .int 64])), (q2, .inl (cI, 8, .inl (km_h (km_kx p np 92) 1))), (q8, .inl (cI, 8, .inl (km_h (km_kx p np 92) 1)))] := hD
  have hP := xp_fun hP 7 (km_h (km_pad (km_cat (km_kx p np 92) 64 (km_in p np x n)) (64 + 32)) (64 / 64)) rfl (fun j _ => congrFun (km_h_cat _ _ _).symm j)
  have hD := hD.set (p := 7) (e := .inl (cI, 8, .inl (km_h (km_pad (km_cat (km_kx p np 92) 64 (km_in p np x n)) (64 + 32)) (64 / 64)))) rfl
  have hP : va_P G classes [(q0, .inr (0, [.ref q1, .ref q4, .ref q5, .ref q6, .ref q7, .ref q8])), (q10, .inl (cI, 32, .inl g)), (q7, .inl (cI, 8, .inl (km_h (km_kx p np 54) 1))), (q9, .inl (cI, N, .inl x)), (q3, .inl (cI, 64, .inl w2)), (q6, .inl (cI, 32, .inl (km_in p np x n))), (q1, .inr (1, [.ref q2, .ref q3, .int 64])), (q2, .inl (cI, 8, .inl (km_h (km_pad (km_cat (km_kx p np 92) 64 (km_in p np x n)) (64 + 32)) (64 / 64)))), (q8, .inl (cI, 8, .inl (km_h (km_kx p np 92) 1)))] H := hP
  have hD : va_D A [(q0, .inr (0, [.ref q1, .ref q4, .ref q5, .ref q6, .ref q7, .ref q8])), (q10, .inl (cI, 32, .inl g)), (q7, .inl (cI, 8, .inl (km_h (km_kx p np 54) 1))), (q9, .inl (cI, N, .inl x)), (q3, .inl (cI, 64, .inl w2)), (q6, .inl (cI, 32, .inl (km_in p np x n))), (q1, .inr (1, [.ref q2, .ref q3, .int 64])), (q2, .inl (cI, 8, .inl (km_h (km_pad (km_cat (km_kx p np 92) 64 (km_in p np x n)) (64 + 32)) (64 / 64)))), (q8, .inl (cI, 8, .inl (km_h (km_kx p np 92) 1)))] := hD
  refine lv_aload_n hx hb d_Marker_writeMark_42 rfl (lv_at hl 0 rfl) ?_
  refine va_get (D := G) (ci := 0) (v := .ref q1) (C := R_Marker) (T := F_Marker) (N := 6) hx hb hts hi_Marker hown hK hP 0 rfl rfl 0 (by decide) (hts _ tw_58) (fun _ h9 => h9) rfl d_Marker_writeMark_43 ?_
  refine lv_aload_n hx hb d_Marker_writeMark_46 rfl (lv_at hl 0 rfl) ?_
  refine va_get (D := G) (ci := 0) (v := .ref q6) (C := R_Marker) (T := F_Marker) (N := 6) hx hb hts hi_Marker hown hK hP 0 rfl rfl 3 (by decide) (hts _ tw_61) (fun _ h9 => h9) rfl d_Marker_writeMark_47 ?_
  refine lv_bipush (v := 32) hx hb d_Marker_writeMark_50 (by decide) ?_
  refine xc_v (wr := [(q0, .inr (0, [.ref q1, .ref q4, .ref q5, .ref q6, .ref q7, .ref q8])), (q10, .inl (cI, 32, .inl g)), (q7, .inl (cI, 8, .inl (km_h (km_kx p np 54) 1))), (q9, .inl (cI, N, .inl x)), (q8, .inl (cI, 8, .inl (km_h (km_kx p np 92) 1)))]) (va_runV (As := [.ref q6, .int 32]) (rest := []) ⟨hx, hb, hml, hown, hts⟩ (c_takeRow l G cI cB tK tH H.size q1 q2 q3 q6 (km_pad (km_cat (km_kx p np 92) 64 (km_in p np x n)) (64 + 32)) w2 (km_in p np x n) 64 32 32 (by omega) (by omega) (by omega) (km_ok_start _ _ rfl) (fun j hj => by rw [km_pad_in _ (by omega), km_cat_hi]) (fun j hj => by rw [km_pad_in _ (by omega), km_cat_hi]; exact km_s_kr _ _ _)) (cwV 2 hts (xg_V tw_213 tw_169 tw_170 tw_18 tw_171) rfl rfl rfl (by decide +kernel) ⟨Nat.le_of_ble_eq_true rfl, Nat.le_of_ble_eq_true rfl⟩) (xc_preV hK hst hA hP hD hS [6, 7, 4, 5] (by decide) rfl 6 rfl rfl) rfl rfl hl.1 rfl (lv_room (Nat.le_of_ble_eq_true rfl)) d_Marker_writeMark_52 ⟨Nat.le_of_ble_eq_true rfl, Nat.le_of_ble_eq_true rfl⟩) hA hP hD hS [6, 7, 4, 5] [0, 1, 2, 3, 8] rfl rfl (by decide) (by decide) (fun w3 H locs hok2 hP hD hS => ?_)
  have hP : va_P G classes [(q0, .inr (0, [.ref q1, .ref q4, .ref q5, .ref q6, .ref q7, .ref q8])), (q10, .inl (cI, 32, .inl g)), (q7, .inl (cI, 8, .inl (km_h (km_kx p np 54) 1))), (q9, .inl (cI, N, .inl x)), (q8, .inl (cI, 8, .inl (km_h (km_kx p np 92) 1))), (q1, .inr (1, [.ref q2, .ref q3, .int (nI (64 + 32))])), (q2, .inl (cI, 8, .inl (km_h (km_pad (km_cat (km_kx p np 92) 64 (km_in p np x n)) (64 + 32)) ((64 + 32) / 64)))), (q3, .inl (cI, 64, .inl w3)), (q6, .inl (cI, 32, .inl (km_in p np x n)))] H := hP
  have hD : va_D A [(q0, .inr (0, [.ref q1, .ref q4, .ref q5, .ref q6, .ref q7, .ref q8])), (q10, .inl (cI, 32, .inl g)), (q7, .inl (cI, 8, .inl (km_h (km_kx p np 54) 1))), (q9, .inl (cI, N, .inl x)), (q8, .inl (cI, 8, .inl (km_h (km_kx p np 92) 1))), (q1, .inr (1, [.ref q2, .ref q3, .int (nI (64 + 32))])), (q2, .inl (cI, 8, .inl (km_h (km_pad (km_cat (km_kx p np 92) 64 (km_in p np x n)) (64 + 32)) ((64 + 32) / 64)))), (q3, .inl (cI, 64, .inl w3)), (q6, .inl (cI, 32, .inl (km_in p np x n)))] := hD
  refine lv_aload_n hx hb d_Marker_writeMark_55 rfl (lv_at hl 0 rfl) ?_
  refine va_get (D := G) (ci := 0) (v := .ref q1) (C := R_Marker) (T := F_Marker) (N := 6) hx hb hts hi_Marker hown hK hP 0 rfl rfl 0 (by decide) (hts _ tw_58) (fun _ h9 => h9) rfl d_Marker_writeMark_56 ?_
  refine lv_aload_n hx hb d_Marker_writeMark_59 rfl (lv_at hl 3 rfl) ?_
  refine xc_v (wr := [(q0, .inr (0, [.ref q1, .ref q4, .ref q5, .ref q6, .ref q7, .ref q8])), (q7, .inl (cI, 8, .inl (km_h (km_kx p np 54) 1))), (q9, .inl (cI, N, .inl x)), (q8, .inl (cI, 8, .inl (km_h (km_kx p np 92) 1))), (q6, .inl (cI, 32, .inl (km_in p np x n)))]) (va_runV (As := [.ref q10]) (rest := []) ⟨hx, hb, hml, hown, hts⟩ (c_finish l G cI cB tK tH H.size q1 q2 q3 q10 (km_cat (km_kx p np 92) 64 (km_in p np x n)) w3 g (64 + 32) 32 (by omega) (by omega) (by omega) hok2) (cwV 1 hts (xg_V tw_238 tw_202 tw_203 tw_18 tw_204) rfl rfl rfl (by decide +kernel) ⟨Nat.le_of_ble_eq_true rfl, Nat.le_of_ble_eq_true rfl⟩) (xc_preV hK hst hA hP hD hS [5, 6, 7, 1] (by decide) rfl 5 rfl rfl) rfl rfl hl.1 rfl (lv_room (Nat.le_of_ble_eq_true rfl)) d_Marker_writeMark_60 ⟨Nat.le_of_ble_eq_true rfl, Nat.le_of_ble_eq_true rfl⟩) hA hP hD hS [5, 6, 7, 1] [0, 2, 3, 4, 8] rfl rfl (by decide) (by decide) (fun u12 H locs hp13 hP hD hS => ?_)
  obtain ⟨f4, w4, tk4⟩ := u12
  have hP : va_P G classes [(q0, .inr (0, [.ref q1, .ref q4, .ref q5, .ref q6, .ref q7, .ref q8])), (q7, .inl (cI, 8, .inl (km_h (km_kx p np 54) 1))), (q9, .inl (cI, N, .inl x)), (q8, .inl (cI, 8, .inl (km_h (km_kx p np 92) 1))), (q6, .inl (cI, 32, .inl (km_in p np x n))), (q1, .inr (1, [.ref q2, .ref q3, .int tk4])), (q2, .inl (cI, 8, .inl f4)), (q3, .inl (cI, 64, .inl w4)), (q10, .inl (cI, 32, .inl (km_sum (km_cat (km_kx p np 92) 64 (km_in p np x n)) (64 + 32) g)))] H := hP
  have hD : va_D A [(q0, .inr (0, [.ref q1, .ref q4, .ref q5, .ref q6, .ref q7, .ref q8])), (q7, .inl (cI, 8, .inl (km_h (km_kx p np 54) 1))), (q9, .inl (cI, N, .inl x)), (q8, .inl (cI, 8, .inl (km_h (km_kx p np 92) 1))), (q6, .inl (cI, 32, .inl (km_in p np x n))), (q1, .inr (1, [.ref q2, .ref q3, .int tk4])), (q2, .inl (cI, 8, .inl f4)), (q3, .inl (cI, 64, .inl w4)), (q10, .inl (cI, 32, .inl (km_sum (km_cat (km_kx p np 92) 64 (km_in p np x n)) (64 + 32) g)))] := hD
  have hP := xp_fun hP 8 (km_mk p np x n) rfl (fun j hj => km_sum_lo _ _ _ hj)
  have hD := hD.set (p := 8) (e := .inl (cI, 32, .inl (km_mk p np x n))) rfl
  have hP : va_P G classes [(q0, .inr (0, [.ref q1, .ref q4, .ref q5, .ref q6, .ref q7, .ref q8])), (q7, .inl (cI, 8, .inl (km_h (km_kx p np 54) 1))), (q9, .inl (cI, N, .inl x)), (q8, .inl (cI, 8, .inl (km_h (km_kx p np 92) 1))), (q6, .inl (cI, 32, .inl (km_in p np x n))), (q1, .inr (1, [.ref q2, .ref q3, .int tk4])), (q2, .inl (cI, 8, .inl f4)), (q3, .inl (cI, 64, .inl w4)), (q10, .inl (cI, 32, .inl (km_mk p np x n)))] H := hP
  have hD : va_D A [(q0, .inr (0, [.ref q1, .ref q4, .ref q5, .ref q6, .ref q7, .ref q8])), (q7, .inl (cI, 8, .inl (km_h (km_kx p np 54) 1))), (q9, .inl (cI, N, .inl x)), (q8, .inl (cI, 8, .inl (km_h (km_kx p np 92) 1))), (q6, .inl (cI, 32, .inl (km_in p np x n))), (q1, .inr (1, [.ref q2, .ref q3, .int tk4])), (q2, .inl (cI, 8, .inl f4)), (q3, .inl (cI, 64, .inl w4)), (q10, .inl (cI, 32, .inl (km_mk p np x n)))] := hD
  exact xe_v (f4, w4, tk4, km_in p np x n) hx hb hr hlk hK (trivial) (hP.sub (ws' := [(q0, .inr (0, [.ref q1, .ref q4, .ref q5, .ref q6, .ref q7, .ref q8])), (q1, .inr (1, [.ref q2, .ref q3, .int tk4])), (q2, .inl (cI, 8, .inl f4)), (q3, .inl (cI, 64, .inl w4)), (q6, .inl (cI, 32, .inl (km_in p np x n))), (q7, .inl (cI, 8, .inl (km_h (km_kx p np 54) 1))), (q8, .inl (cI, 8, .inl (km_h (km_kx p np 92) 1))), (q9, .inl (cI, N, .inl x)), (q10, .inl (cI, 32, .inl (km_mk p np x n)))]) [0, 5, 6, 7, 4, 1, 3, 2, 8] rfl) (hD.sub (ws' := [(q0, .inr (0, [.ref q1, .ref q4, .ref q5, .ref q6, .ref q7, .ref q8])), (q1, .inr (1, [.ref q2, .ref q3, .int tk4])), (q2, .inl (cI, 8, .inl f4)), (q3, .inl (cI, 64, .inl w4)), (q6, .inl (cI, 32, .inl (km_in p np x n))), (q7, .inl (cI, 8, .inl (km_h (km_kx p np 54) 1))), (q8, .inl (cI, 8, .inl (km_h (km_kx p np 92) 1))), (q9, .inl (cI, N, .inl x)), (q10, .inl (cI, 32, .inl (km_mk p np x n)))]) [0, 5, 6, 7, 4, 1, 3, 2, 8] (by decide) rfl) hS d_Marker_writeMark_63 (by decide) (by decide)
set_option maxHeartbeats 4000000 in
set_option maxRecDepth 100000 in
theorem c_markB (l : Launch) (G : va_G) (cI cB : ClassId) (tK tH sz : Nat) (q0 q1 q2 q3 q4 q5 q6 q7 q8 : Nat) (q9 : Nat) (f w i p x : Nat → Int32) (tk : Int32) (np n : Nat) (hn : n < 150) (hpp : ∀ j, j < np → kr (p j)) (hxr : ∀ j, j < n → kr (x j)) (hN : n ≤ 32) : xMv l G cI cB tK tH y_Marker_writeMark b_Marker_writeMark 4 none ({ frames := 5, cells := 0, slots := 0, locals := 120 }) [.ref q0, .ref q9, .int (nI n), .ref q9] sz [(q0, .inr (0, [.ref q1, .ref q4, .ref q5, .ref q6, .ref q7, .ref q8])), (q1, .inr (1, [.ref q2, .ref q3, .int tk])), (q2, .inl (cI, 8, .inl f)), (q3, .inl (cI, 64, .inl w)), (q6, .inl (cI, 32, .inl i)), (q7, .inl (cI, 8, .inl (km_h (km_kx p np 54) 1))), (q8, .inl (cI, 8, .inl (km_h (km_kx p np 92) 1))), (q9, .inl (cI, 32, .inl x))] (fun _ => True) (fun u : (Nat → Int32) × (Nat → Int32) × Int32 × (Nat → Int32) => [(q0, .inr (0, [.ref q1, .ref q4, .ref q5, .ref q6, .ref q7, .ref q8])), (q1, .inr (1, [.ref q2, .ref q3, .int u.2.2.1])), (q2, .inl (cI, 8, .inl u.1)), (q3, .inl (cI, 64, .inl u.2.1)), (q6, .inl (cI, 32, .inl u.2.2.2)), (q7, .inl (cI, 8, .inl (km_h (km_kx p np 54) 1))), (q8, .inl (cI, 8, .inl (km_h (km_kx p np 92) 1))), (q9, .inl (cI, 32, .inl (km_mk p np x n)))]) := by
  refine xMv.of (lv := [(0, .ref q0), (1, .ref q9), (2, .int (nI n)), (3, .ref q9)]) (by decide) (Nat.le_of_ble_eq_true rfl) rfl ?_
  intro pp ee ss mm bel met cod A ls H locs hx hb hml hr hlk hts hown hnm hA hK hst hP hD hS hl
  have hown : ss.vm.findClass R_Marker = some mm.cls := hown
  refine lv_aload_n hx hb d_Marker_writeMark_0 rfl (lv_at hl 0 rfl) ?_
  refine va_get (D := G) (ci := 0) (v := .ref q1) (C := R_Marker) (T := F_Marker) (N := 6) hx hb hts hi_Marker hown hK hP 0 rfl rfl 0 (by decide) (hts _ tw_58) (fun _ h9 => h9) rfl d_Marker_writeMark_1 ?_
  refine lv_aload_n hx hb d_Marker_writeMark_4 rfl (lv_at hl 0 rfl) ?_
  refine va_get (D := G) (ci := 0) (v := .ref q7) (C := R_Marker) (T := F_Marker) (N := 6) hx hb hts hi_Marker hown hK hP 0 rfl rfl 4 (by decide) (hts _ tw_62) (fun _ h9 => h9) rfl d_Marker_writeMark_5 ?_
  refine xc_v (wr := [(q0, .inr (0, [.ref q1, .ref q4, .ref q5, .ref q6, .ref q7, .ref q8])), (q3, .inl (cI, 64, .inl w)), (q6, .inl (cI, 32, .inl i)), (q8, .inl (cI, 8, .inl (km_h (km_kx p np 92) 1))), (q9, .inl (cI, 32, .inl x))]) (va_runV (As := [.ref q7]) (rest := []) ⟨hx, hb, hml, hown, hts⟩ (c_behind l G cI cB tK tH H.size q1 q2 q3 q7 f (km_h (km_kx p np 54) 1) tk ) (cwV 1 hts (xg_V tw_234 tw_235 tw_236 tw_18 tw_237) rfl rfl rfl (by decide +kernel) ⟨Nat.le_of_ble_eq_true rfl, Nat.le_of_ble_eq_true rfl⟩) (xc_preV hK hst hA hP hD hS [1, 2, 5] (by decide) rfl 1 rfl rfl) rfl rfl hl.1 rfl (lv_room (Nat.le_of_ble_eq_true rfl)) d_Marker_writeMark_8 ⟨Nat.le_of_ble_eq_true rfl, Nat.le_of_ble_eq_true rfl⟩) hA hP hD hS [1, 2, 5] [0, 3, 4, 6, 7] rfl rfl (by decide) (by decide) (fun u1 H locs hp2 hP hD hS => ?_)
  have hP : va_P G classes [(q0, .inr (0, [.ref q1, .ref q4, .ref q5, .ref q6, .ref q7, .ref q8])), (q3, .inl (cI, 64, .inl w)), (q6, .inl (cI, 32, .inl i)), (q8, .inl (cI, 8, .inl (km_h (km_kx p np 92) 1))), (q9, .inl (cI, 32, .inl x)), (q1, .inr (1, [.ref q2, .ref q3, .int 64])), (q2, .inl (cI, 8, .inl (km_h (km_kx p np 54) 1))), (q7, .inl (cI, 8, .inl (km_h (km_kx p np 54) 1)))] H := hP
  have hD : va_D A [(q0, .inr (0, [.ref q1, .ref q4, .ref q5, .ref q6, .ref q7, .ref q8])), (q3, .inl (cI, 64, .inl w)), (q6, .inl (cI, 32, .inl i)), (q8, .inl (cI, 8, .inl (km_h (km_kx p np 92) 1))), (q9, .inl (cI, 32, .inl x)), (q1, .inr (1, [.ref q2, .ref q3, .int 64])), (q2, .inl (cI, 8, .inl (km_h (km_kx p np 54) 1))), (q7, .inl (cI, 8, .inl (km_h (km_kx p np 54) 1)))] := hD
  have hP := xp_fun hP 6 (km_h (km_pad (km_cat (km_kx p np 54) 64 x) (64 + n)) (64 / 64)) rfl (fun j _ => congrFun (km_h_cat _ _ _).symm j)
  have hD := hD.set (p := 6) (e := .inl (cI, 8, .inl (km_h (km_pad (km_cat (km_kx p np 54) 64 x) (64 + n)) (64 / 64)))) rfl
  have hP : va_P G classes [(q0, .inr (0, [.ref q1, .ref q4, .ref q5, .ref q6, .ref q7, .ref q8])), (q3, .inl (cI, 64, .inl w)), (q6, .inl (cI, 32, .inl i)), (q8, .inl (cI, 8, .inl (km_h (km_kx p np 92) 1))), (q9, .inl (cI, 32, .inl x)), (q1, .inr (1, [.ref q2, .ref q3, .int 64])), (q2, .inl (cI, 8, .inl (km_h (km_pad (km_cat (km_kx p np 54) 64 x) (64 + n)) (64 / 64)))), (q7, .inl (cI, 8, .inl (km_h (km_kx p np 54) 1)))] H := hP
  have hD : va_D A [(q0, .inr (0, [.ref q1, .ref q4, .ref q5, .ref q6, .ref q7, .ref q8])), (q3, .inl (cI, 64, .inl w)), (q6, .inl (cI, 32, .inl i)), (q8, .inl (cI, 8, .inl (km_h (km_kx p np 92) 1))), (q9, .inl (cI, 32, .inl x)), (q1, .inr (1, [.ref q2, .ref q3, .int 64])), (q2, .inl (cI, 8, .inl (km_h (km_pad (km_cat (km_kx p np 54) 64 x) (64 + n)) (64 / 64)))), (q7, .inl (cI, 8, .inl (km_h (km_kx p np 54) 1)))] := hD
  refine lv_aload_n hx hb d_Marker_writeMark_11 rfl (lv_at hl 0 rfl) ?_
  refine va_get (D := G) (ci := 0) (v := .ref q1) (C := R_Marker) (T := F_Marker) (N := 6) hx hb hts hi_Marker hown hK hP 0 rfl rfl 0 (by decide) (hts _ tw_58) (fun _ h9 => h9) rfl d_Marker_writeMark_12 ?_
  refine lv_aload_n hx hb d_Marker_writeMark_15 rfl (lv_at hl 1 rfl) ?_
  refine lv_iload_n hx hb d_Marker_writeMark_16 rfl (lv_at hl 2 rfl) ?_
  refine xc_v (wr := [(q0, .inr (0, [.ref q1, .ref q4, .ref q5, .ref q6, .ref q7, .ref q8])), (q6, .inl (cI, 32, .inl i)), (q8, .inl (cI, 8, .inl (km_h (km_kx p np 92) 1))), (q7, .inl (cI, 8, .inl (km_h (km_kx p np 54) 1)))]) (va_runV (As := [.ref q9, .int (nI n)]) (rest := []) ⟨hx, hb, hml, hown, hts⟩ (c_takeRow l G cI cB tK tH H.size q1 q2 q3 q9 (km_pad (km_cat (km_kx p np 54) 64 x) (64 + n)) w x 64 n 32 (by omega) (by omega) (by omega) (km_ok_start _ _ rfl) (fun j hj => by rw [km_pad_in _ (by omega), km_cat_hi]) (fun j hj => by rw [km_pad_in _ (by omega), km_cat_hi]; exact hxr j hj)) (cwV 2 hts (xg_V tw_213 tw_169 tw_170 tw_18 tw_171) rfl rfl rfl (by decide +kernel) ⟨Nat.le_of_ble_eq_true rfl, Nat.le_of_ble_eq_true rfl⟩) (xc_preV hK hst hA hP hD hS [5, 6, 1, 4] (by decide) rfl 5 rfl rfl) rfl rfl hl.1 rfl (lv_room (Nat.le_of_ble_eq_true rfl)) d_Marker_writeMark_17 ⟨Nat.le_of_ble_eq_true rfl, Nat.le_of_ble_eq_true rfl⟩) hA hP hD hS [5, 6, 1, 4] [0, 2, 3, 7] rfl rfl (by decide) (by decide) (fun w1 H locs hok1 hP hD hS => ?_)
  have hP : va_P G classes [(q0, .inr (0, [.ref q1, .ref q4, .ref q5, .ref q6, .ref q7, .ref q8])), (q6, .inl (cI, 32, .inl i)), (q8, .inl (cI, 8, .inl (km_h (km_kx p np 92) 1))), (q7, .inl (cI, 8, .inl (km_h (km_kx p np 54) 1))), (q1, .inr (1, [.ref q2, .ref q3, .int (nI (64 + n))])), (q2, .inl (cI, 8, .inl (km_h (km_pad (km_cat (km_kx p np 54) 64 x) (64 + n)) ((64 + n) / 64)))), (q3, .inl (cI, 64, .inl w1)), (q9, .inl (cI, 32, .inl x))] H := hP
  have hD : va_D A [(q0, .inr (0, [.ref q1, .ref q4, .ref q5, .ref q6, .ref q7, .ref q8])), (q6, .inl (cI, 32, .inl i)), (q8, .inl (cI, 8, .inl (km_h (km_kx p np 92) 1))), (q7, .inl (cI, 8, .inl (km_h (km_kx p np 54) 1))), (q1, .inr (1, [.ref q2, .ref q3, .int (nI (64 + n))])), (q2, .inl (cI, 8, .inl (km_h (km_pad (km_cat (km_kx p np 54) 64 x) (64 + n)) ((64 + n) / 64)))), (q3, .inl (cI, 64, .inl w1)), (q9, .inl (cI, 32, .inl x))] := hD
  refine lv_aload_n hx hb d_Marker_writeMark_20 rfl (lv_at hl 0 rfl) ?_
  refine va_get (D := G) (ci := 0) (v := .ref q1) (C := R_Marker) (T := F_Marker) (N := 6) hx hb hts hi_Marker hown hK hP 0 rfl rfl 0 (by decide) (hts _ tw_58) (fun _ h9 => h9) rfl d_Marker_writeMark_21 ?_
  refine lv_aload_n hx hb d_Marker_writeMark_24 rfl (lv_at hl 0 rfl) ?_
  refine va_get (D := G) (ci := 0) (v := .ref q6) (C := R_Marker) (T := F_Marker) (N := 6) hx hb hts hi_Marker hown hK hP 0 rfl rfl 3 (by decide) (hts _ tw_61) (fun _ h9 => h9) rfl d_Marker_writeMark_25 ?_
  refine xc_v (wr := [(q0, .inr (0, [.ref q1, .ref q4, .ref q5, .ref q6, .ref q7, .ref q8])), (q8, .inl (cI, 8, .inl (km_h (km_kx p np 92) 1))), (q7, .inl (cI, 8, .inl (km_h (km_kx p np 54) 1))), (q9, .inl (cI, 32, .inl x))]) (va_runV (As := [.ref q6]) (rest := []) ⟨hx, hb, hml, hown, hts⟩ (c_finish l G cI cB tK tH H.size q1 q2 q3 q6 (km_cat (km_kx p np 54) 64 x) w1 i (64 + n) 32 (by omega) (by omega) (by omega) hok1) (cwV 1 hts (xg_V tw_238 tw_202 tw_203 tw_18 tw_204) rfl rfl rfl (by decide +kernel) ⟨Nat.le_of_ble_eq_true rfl, Nat.le_of_ble_eq_true rfl⟩) (xc_preV hK hst hA hP hD hS [4, 5, 6, 1] (by decide) rfl 4 rfl rfl) rfl rfl hl.1 rfl (lv_room (Nat.le_of_ble_eq_true rfl)) d_Marker_writeMark_28 ⟨Nat.le_of_ble_eq_true rfl, Nat.le_of_ble_eq_true rfl⟩) hA hP hD hS [4, 5, 6, 1] [0, 2, 3, 7] rfl rfl (by decide) (by decide) (fun u5 H locs hp6 hP hD hS => ?_)
  obtain ⟨f2, w2, tk2⟩ := u5
  have hP : va_P G classes [(q0, .inr (0, [.ref q1, .ref q4, .ref q5, .ref q6, .ref q7, .ref q8])), (q8, .inl (cI, 8, .inl (km_h (km_kx p np 92) 1))), (q7, .inl (cI, 8, .inl (km_h (km_kx p np 54) 1))), (q9, .inl (cI, 32, .inl x)), (q1, .inr (1, [.ref q2, .ref q3, .int tk2])), (q2, .inl (cI, 8, .inl f2)), (q3, .inl (cI, 64, .inl w2)), (q6, .inl (cI, 32, .inl (km_sum (km_cat (km_kx p np 54) 64 x) (64 + n) i)))] H := hP
  have hD : va_D A [(q0, .inr (0, [.ref q1, .ref q4, .ref q5, .ref q6, .ref q7, .ref q8])), (q8, .inl (cI, 8, .inl (km_h (km_kx p np 92) 1))), (q7, .inl (cI, 8, .inl (km_h (km_kx p np 54) 1))), (q9, .inl (cI, 32, .inl x)), (q1, .inr (1, [.ref q2, .ref q3, .int tk2])), (q2, .inl (cI, 8, .inl f2)), (q3, .inl (cI, 64, .inl w2)), (q6, .inl (cI, 32, .inl (km_sum (km_cat (km_kx p np 54) 64 x) (64 + n) i)))] := hD
  have hP := xp_fun hP 7 (km_in p np x n) rfl (fun j hj => km_sum_lo _ _ _ hj)
  have hD := hD.set (p := 7) (e := .inl (cI, 32, .inl (km_in p np x n))) rfl
  have hP : va_P G classes [(q0, .inr (0, [.ref q1, .ref q4, .ref q5, .ref q6, .ref q7, .ref q8])), (q8, .inl (cI, 8, .inl (km_h (km_kx p np 92) 1))), (q7, .inl (cI, 8, .inl (km_h (km_kx p np 54) 1))), (q9, .inl (cI, 32, .inl x)), (q1, .inr (1, [.ref q2, .ref q3, .int tk2])), (q2, .inl (cI, 8, .inl f2)), (q3, .inl (cI, 64, .inl w2)), (q6, .inl (cI, 32, .inl (km_in p np x n)))] H := hP
  have hD : va_D A [(q0, .inr (0, [.ref q1, .ref q4, .ref q5, .ref q6, .ref q7, .ref q8])), (q8, .inl (cI, 8, .inl (km_h (km_kx p np 92) 1))), (q7, .inl (cI, 8, .inl (km_h (km_kx p np 54) 1))), (q9, .inl (cI, 32, .inl x)), (q1, .inr (1, [.ref q2, .ref q3, .int tk2])), (q2, .inl (cI, 8, .inl f2)), (q3, .inl (cI, 64, .inl w2)), (q6, .inl (cI, 32, .inl (km_in p np x n)))] := hD
  refine lv_aload_n hx hb d_Marker_writeMark_31 rfl (lv_at hl 0 rfl) ?_
  refine va_get (D := G) (ci := 0) (v := .ref q1) (C := R_Marker) (T := F_Marker) (N := 6) hx hb hts hi_Marker hown hK hP 0 rfl rfl 0 (by decide) (hts _ tw_58) (fun _ h9 => h9) rfl d_Marker_writeMark_32 ?_
  refine lv_aload_n hx hb d_Marker_writeMark_35 rfl (lv_at hl 0 rfl) ?_
  refine va_get (D := G) (ci := 0) (v := .ref q8) (C := R_Marker) (T := F_Marker) (N := 6) hx hb hts hi_Marker hown hK hP 0 rfl rfl 5 (by decide) (hts _ tw_63) (fun _ h9 => h9) rfl d_Marker_writeMark_36 ?_
  refine xc_v (wr := [(q0, .inr (0, [.ref q1, .ref q4, .ref q5, .ref q6, .ref q7, .ref q8])), (q7, .inl (cI, 8, .inl (km_h (km_kx p np 54) 1))), (q9, .inl (cI, 32, .inl x)), (q3, .inl (cI, 64, .inl w2)), (q6, .inl (cI, 32, .inl (km_in p np x n)))]) (va_runV (As := [.ref q8]) (rest := []) ⟨hx, hb, hml, hown, hts⟩ (c_behind l G cI cB tK tH H.size q1 q2 q3 q8 f2 (km_h (km_kx p np 92) 1) tk2 ) (cwV 1 hts (xg_V tw_234 tw_235 tw_236 tw_18 tw_237) rfl rfl rfl (by decide +kernel) ⟨Nat.le_of_ble_eq_true rfl, Nat.le_of_ble_eq_true rfl⟩) (xc_preV hK hst hA hP hD hS [4, 5, 1] (by decide) rfl 4 rfl rfl) rfl rfl hl.1 rfl (lv_room (Nat.le_of_ble_eq_true rfl)) d_Marker_writeMark_39 ⟨Nat.le_of_ble_eq_true rfl, Nat.le_of_ble_eq_true rfl⟩) hA hP hD hS [4, 5, 1] [0, 2, 3, 6, 7] rfl rfl (by decide) (by decide) (fun u8 H locs hp9 hP hD hS => ?_)
  have hP : va_P G classes [(q0, .inr (0, [.ref q1, .ref q4, .ref q5, .ref q6, .ref q7, .ref q8])), (q7, .inl (cI, 8, .inl (km_h (km_kx p np 54) 1))), (q9, .inl (cI, 32, .inl x)), (q3, .inl (cI, 64, .inl w2)), (q6, .inl (cI, 32, .inl (km_in p np x n))), (q1, .inr (1, [.ref q2, .ref q3, .int 64])), (q2, .inl (cI, 8, .inl (km_h (km_kx p np 92) 1))), (q8, .inl (cI, 8, .inl (km_h (km_kx p np 92) 1)))] H := hP
  have hD : va_D A [(q0, .inr (0, [.ref q1, .ref q4, .ref q5, .ref q6, .ref q7, .ref q8])), (q7, .inl (cI, 8, .inl (km_h (km_kx p np 54) 1))), (q9, .inl (cI, 32, .inl x)), (q3, .inl (cI, 64, .inl w2)), (q6, .inl (cI, 32, .inl (km_in p np x n))), (q1, .inr (1, [.ref q2, .ref q3, .int 64])), (q2, .inl (cI, 8, .inl (km_h (km_kx p np 92) 1))), (q8, .inl (cI, 8, .inl (km_h (km_kx p np 92) 1)))] := hD
  have hP := xp_fun hP 6 (km_h (km_pad (km_cat (km_kx p np 92) 64 (km_in p np x n)) (64 + 32)) (64 / 64)) rfl (fun j _ => congrFun (km_h_cat _ _ _).symm j)
  have hD := hD.set (p := 6) (e := .inl (cI, 8, .inl (km_h (km_pad (km_cat (km_kx p np 92) 64 (km_in p np x n)) (64 + 32)) (64 / 64)))) rfl
  have hP : va_P G classes [(q0, .inr (0, [.ref q1, .ref q4, .ref q5, .ref q6, .ref q7, .ref q8])), (q7, .inl (cI, 8, .inl (km_h (km_kx p np 54) 1))), (q9, .inl (cI, 32, .inl x)), (q3, .inl (cI, 64, .inl w2)), (q6, .inl (cI, 32, .inl (km_in p np x n))), (q1, .inr (1, [.ref q2, .ref q3, .int 64])), (q2, .inl (cI, 8, .inl (km_h (km_pad (km_cat (km_kx p np 92) 64 (km_in p np x n)) (64 + 32)) (64 / 64)))), (q8, .inl (cI, 8, .inl (km_h (km_kx p np 92) 1)))] H := hP
  have hD : va_D A [(q0, .inr (0, [.ref q1, .ref q4, .ref q5, .ref q6, .ref q7, .ref q8])), (q7, .inl (cI, 8, .inl (km_h (km_kx p np 54) 1))), (q9, .inl (cI, 32, .inl x)), (q3, .inl (cI, 64, .inl w2)), (q6, .inl (cI, 32, .inl (km_in p np x n))), (q1, .inr (1, [.ref q2, .ref q3, .int 64])), (q2, .inl (cI, 8, .inl (km_h (km_pad (km_cat (km_kx p np 92) 64 (km_in p np x n)) (64 + 32)) (64 / 64)))), (q8, .inl (cI, 8, .inl (km_h (km_kx p np 92) 1)))] := hD
  refine lv_aload_n hx hb d_Marker_writeMark_42 rfl (lv_at hl 0 rfl) ?_
  refine va_get (D := G) (ci := 0) (v := .ref q1) (C := R_Marker) (T := F_Marker) (N := 6) hx hb hts hi_Marker hown hK hP 0 rfl rfl 0 (by decide) (hts _ tw_58) (fun _ h9 => h9) rfl d_Marker_writeMark_43 ?_
  refine lv_aload_n hx hb d_Marker_writeMark_46 rfl (lv_at hl 0 rfl) ?_
  refine va_get (D := G) (ci := 0) (v := .ref q6) (C := R_Marker) (T := F_Marker) (N := 6) hx hb hts hi_Marker hown hK hP 0 rfl rfl 3 (by decide) (hts _ tw_61) (fun _ h9 => h9) rfl d_Marker_writeMark_47 ?_
  refine lv_bipush (v := 32) hx hb d_Marker_writeMark_50 (by decide) ?_
  refine xc_v (wr := [(q0, .inr (0, [.ref q1, .ref q4, .ref q5, .ref q6, .ref q7, .ref q8])), (q7, .inl (cI, 8, .inl (km_h (km_kx p np 54) 1))), (q9, .inl (cI, 32, .inl x)), (q8, .inl (cI, 8, .inl (km_h (km_kx p np 92) 1)))]) (va_runV (As := [.ref q6, .int 32]) (rest := []) ⟨hx, hb, hml, hown, hts⟩ (c_takeRow l G cI cB tK tH H.size q1 q2 q3 q6 (km_pad (km_cat (km_kx p np 92) 64 (km_in p np x n)) (64 + 32)) w2 (km_in p np x n) 64 32 32 (by omega) (by omega) (by omega) (km_ok_start _ _ rfl) (fun j hj => by rw [km_pad_in _ (by omega), km_cat_hi]) (fun j hj => by rw [km_pad_in _ (by omega), km_cat_hi]; exact km_s_kr _ _ _)) (cwV 2 hts (xg_V tw_213 tw_169 tw_170 tw_18 tw_171) rfl rfl rfl (by decide +kernel) ⟨Nat.le_of_ble_eq_true rfl, Nat.le_of_ble_eq_true rfl⟩) (xc_preV hK hst hA hP hD hS [5, 6, 3, 4] (by decide) rfl 5 rfl rfl) rfl rfl hl.1 rfl (lv_room (Nat.le_of_ble_eq_true rfl)) d_Marker_writeMark_52 ⟨Nat.le_of_ble_eq_true rfl, Nat.le_of_ble_eq_true rfl⟩) hA hP hD hS [5, 6, 3, 4] [0, 1, 2, 7] rfl rfl (by decide) (by decide) (fun w3 H locs hok2 hP hD hS => ?_)
  have hP : va_P G classes [(q0, .inr (0, [.ref q1, .ref q4, .ref q5, .ref q6, .ref q7, .ref q8])), (q7, .inl (cI, 8, .inl (km_h (km_kx p np 54) 1))), (q9, .inl (cI, 32, .inl x)), (q8, .inl (cI, 8, .inl (km_h (km_kx p np 92) 1))), (q1, .inr (1, [.ref q2, .ref q3, .int (nI (64 + 32))])), (q2, .inl (cI, 8, .inl (km_h (km_pad (km_cat (km_kx p np 92) 64 (km_in p np x n)) (64 + 32)) ((64 + 32) / 64)))), (q3, .inl (cI, 64, .inl w3)), (q6, .inl (cI, 32, .inl (km_in p np x n)))] H := hP
  have hD : va_D A [(q0, .inr (0, [.ref q1, .ref q4, .ref q5, .ref q6, .ref q7, .ref q8])), (q7, .inl (cI, 8, .inl (km_h (km_kx p np 54) 1))), (q9, .inl (cI, 32, .inl x)), (q8, .inl (cI, 8, .inl (km_h (km_kx p np 92) 1))), (q1, .inr (1, [.ref q2, .ref q3, .int (nI (64 + 32))])), (q2, .inl (cI, 8, .inl (km_h (km_pad (km_cat (km_kx p np 92) 64 (km_in p np x n)) (64 + 32)) ((64 + 32) / 64)))), (q3, .inl (cI, 64, .inl w3)), (q6, .inl (cI, 32, .inl (km_in p np x n)))] := hD
  refine lv_aload_n hx hb d_Marker_writeMark_55 rfl (lv_at hl 0 rfl) ?_
  refine va_get (D := G) (ci := 0) (v := .ref q1) (C := R_Marker) (T := F_Marker) (N := 6) hx hb hts hi_Marker hown hK hP 0 rfl rfl 0 (by decide) (hts _ tw_58) (fun _ h9 => h9) rfl d_Marker_writeMark_56 ?_
  refine lv_aload_n hx hb d_Marker_writeMark_59 rfl (lv_at hl 3 rfl) ?_
  refine xc_v (wr := [(q0, .inr (0, [.ref q1, .ref q4, .ref q5, .ref q6, .ref q7, .ref q8])), (q7, .inl (cI, 8, .inl (km_h (km_kx p np 54) 1))), (q8, .inl (cI, 8, .inl (km_h (km_kx p np 92) 1))), (q6, .inl (cI, 32, .inl (km_in p np x n)))]) (va_runV (As := [.ref q9]) (rest := []) ⟨hx, hb, hml, hown, hts⟩ (c_finish l G cI cB tK tH H.size q1 q2 q3 q9 (km_cat (km_kx p np 92) 64 (km_in p np x n)) w3 x (64 + 32) 32 (by omega) (by omega) (by omega) hok2) (cwV 1 hts (xg_V tw_238 tw_202 tw_203 tw_18 tw_204) rfl rfl rfl (by decide +kernel) ⟨Nat.le_of_ble_eq_true rfl, Nat.le_of_ble_eq_true rfl⟩) (xc_preV hK hst hA hP hD hS [4, 5, 6, 2] (by decide) rfl 4 rfl rfl) rfl rfl hl.1 rfl (lv_room (Nat.le_of_ble_eq_true rfl)) d_Marker_writeMark_60 ⟨Nat.le_of_ble_eq_true rfl, Nat.le_of_ble_eq_true rfl⟩) hA hP hD hS [4, 5, 6, 2] [0, 1, 3, 7] rfl rfl (by decide) (by decide) (fun u12 H locs hp13 hP hD hS => ?_)
  obtain ⟨f4, w4, tk4⟩ := u12
  have hP : va_P G classes [(q0, .inr (0, [.ref q1, .ref q4, .ref q5, .ref q6, .ref q7, .ref q8])), (q7, .inl (cI, 8, .inl (km_h (km_kx p np 54) 1))), (q8, .inl (cI, 8, .inl (km_h (km_kx p np 92) 1))), (q6, .inl (cI, 32, .inl (km_in p np x n))), (q1, .inr (1, [.ref q2, .ref q3, .int tk4])), (q2, .inl (cI, 8, .inl f4)), (q3, .inl (cI, 64, .inl w4)), (q9, .inl (cI, 32, .inl (km_sum (km_cat (km_kx p np 92) 64 (km_in p np x n)) (64 + 32) x)))] H := hP
  have hD : va_D A [(q0, .inr (0, [.ref q1, .ref q4, .ref q5, .ref q6, .ref q7, .ref q8])), (q7, .inl (cI, 8, .inl (km_h (km_kx p np 54) 1))), (q8, .inl (cI, 8, .inl (km_h (km_kx p np 92) 1))), (q6, .inl (cI, 32, .inl (km_in p np x n))), (q1, .inr (1, [.ref q2, .ref q3, .int tk4])), (q2, .inl (cI, 8, .inl f4)), (q3, .inl (cI, 64, .inl w4)), (q9, .inl (cI, 32, .inl (km_sum (km_cat (km_kx p np 92) 64 (km_in p np x n)) (64 + 32) x)))] := hD
  have hP := xp_fun hP 7 (km_mk p np x n) rfl (fun j hj => km_sum_lo _ _ _ hj)
  have hD := hD.set (p := 7) (e := .inl (cI, 32, .inl (km_mk p np x n))) rfl
  have hP : va_P G classes [(q0, .inr (0, [.ref q1, .ref q4, .ref q5, .ref q6, .ref q7, .ref q8])), (q7, .inl (cI, 8, .inl (km_h (km_kx p np 54) 1))), (q8, .inl (cI, 8, .inl (km_h (km_kx p np 92) 1))), (q6, .inl (cI, 32, .inl (km_in p np x n))), (q1, .inr (1, [.ref q2, .ref q3, .int tk4])), (q2, .inl (cI, 8, .inl f4)), (q3, .inl (cI, 64, .inl w4)), (q9, .inl (cI, 32, .inl (km_mk p np x n)))] H := hP
  have hD : va_D A [(q0, .inr (0, [.ref q1, .ref q4, .ref q5, .ref q6, .ref q7, .ref q8])), (q7, .inl (cI, 8, .inl (km_h (km_kx p np 54) 1))), (q8, .inl (cI, 8, .inl (km_h (km_kx p np 92) 1))), (q6, .inl (cI, 32, .inl (km_in p np x n))), (q1, .inr (1, [.ref q2, .ref q3, .int tk4])), (q2, .inl (cI, 8, .inl f4)), (q3, .inl (cI, 64, .inl w4)), (q9, .inl (cI, 32, .inl (km_mk p np x n)))] := hD
  exact xe_v (f4, w4, tk4, km_in p np x n) hx hb hr hlk hK (trivial) (hP.sub (ws' := [(q0, .inr (0, [.ref q1, .ref q4, .ref q5, .ref q6, .ref q7, .ref q8])), (q1, .inr (1, [.ref q2, .ref q3, .int tk4])), (q2, .inl (cI, 8, .inl f4)), (q3, .inl (cI, 64, .inl w4)), (q6, .inl (cI, 32, .inl (km_in p np x n))), (q7, .inl (cI, 8, .inl (km_h (km_kx p np 54) 1))), (q8, .inl (cI, 8, .inl (km_h (km_kx p np 92) 1))), (q9, .inl (cI, 32, .inl (km_mk p np x n)))]) [0, 4, 5, 6, 3, 1, 2, 7] rfl) (hD.sub (ws' := [(q0, .inr (0, [.ref q1, .ref q4, .ref q5, .ref q6, .ref q7, .ref q8])), (q1, .inr (1, [.ref q2, .ref q3, .int tk4])), (q2, .inl (cI, 8, .inl f4)), (q3, .inl (cI, 64, .inl w4)), (q6, .inl (cI, 32, .inl (km_in p np x n))), (q7, .inl (cI, 8, .inl (km_h (km_kx p np 54) 1))), (q8, .inl (cI, 8, .inl (km_h (km_kx p np 92) 1))), (q9, .inl (cI, 32, .inl (km_mk p np x n)))]) [0, 4, 5, 6, 3, 1, 2, 7] (by decide) rfl) hS d_Marker_writeMark_63 (by decide) (by decide)
set_option maxHeartbeats 4000000 in
set_option maxRecDepth 100000 in
theorem c_sumInit (l : Launch) (G : va_G) (cI cB : ClassId) (tK tH sz : Nat) (q0 : Nat)  : xMv l G cI cB tK tH y_Summer_init b_Summer_init 1 none ({ frames := 1, cells := 2, slots := 72, locals := 20 }) [.ref q0] sz [(q0, .inr (1, [.null, .null, .int 0]))] (fun _ => True) (fun u : Nat × Nat => [(q0, .inr (1, [.ref u.1, .ref u.2, .int 0])), (u.1, .inl (cI, 8, .inl (fun _ => 0))), (u.2, .inl (cI, 64, .inl (fun _ => 0)))]) := by
  refine xMv.of (lv := [(0, .ref q0)]) (by decide) (Nat.le_of_ble_eq_true rfl) rfl ?_
  intro pp ee ss mm bel met cod A ls H locs hx hb hml hr hlk hts hown hnm hA hK hst hP hD hS hl
  have hown : ss.vm.findClass R_Summer = some mm.cls := hown
  refine lv_aload_n hx hb d_Summer_init_0 rfl (lv_at hl 0 rfl) ?_
  refine W.objInit hx hb hown (hts _ tw_38) (hts _ tw_31) (hts _ tw_32) rfl (by rw [hml]; exact hl.1) rfl d_Summer_init_1 (Nat.le_of_ble_eq_true rfl) (Nat.le_of_ble_eq_true rfl) ?_
  refine W.eq (g2 := F0 mm 4 ls []) rfl ?_
  refine lv_aload_n hx hb d_Summer_init_4 rfl (lv_at hl 0 rfl) ?_
  refine lv_bipush (v := 8) hx hb d_Summer_init_5 (by decide) ?_
  refine va_newa (atype := .int) (N' := 8) (a0 := (8, .inl (fun _ => 0))) hx hb (hts _ tw_49) (ty := .int) rfl hK hP hD hS hA (fun _ => rfl) (by decide) (by decide) (by decide) (by decide) (by decide) d_Summer_init_7 (fun q1 cA1 H hKn hP hD hS => ?_)
  rw [xk_int hK hKn] at hP hD
  have hP : va_P G classes [(q0, .inr (1, [.null, .null, .int 0])), (q1, .inl (cI, 8, .inl (fun _ => 0)))] H := hP
  have hD : va_D A [(q0, .inr (1, [.null, .null, .int 0])), (q1, .inl (cI, 8, .inl (fun _ => 0)))] := hD
  refine W.widen (k := 1) (n := 8) (by decide) (by decide) ?_
  refine va_putF (D := G) (ci := 1) (v := .ref q1) (ty := (t_Summer 0)) (C := R_Summer) (T := F_Summer) (N := 3) hx hb hts hi_Summer t_Summer t_Summer_ok n_Summer hown hK hP hD hS 0 rfl rfl 0 (by decide) (hts _ tw_39) (fun _ h9 => h9) rfl hnm rfl (by decide +kernel) rfl rfl (Nat.le_of_ble_eq_true rfl) d_Summer_init_9 (fun H locs hP hD hS => ?_)
  have hP : va_P G classes [(q0, .inr (1, [.ref q1, .null, .int 0])), (q1, .inl (cI, 8, .inl (fun _ => 0)))] H := hP
  have hD : va_D A [(q0, .inr (1, [.ref q1, .null, .int 0])), (q1, .inl (cI, 8, .inl (fun _ => 0)))] := hD
  refine lv_aload_n hx hb d_Summer_init_12 rfl (lv_at hl 0 rfl) ?_
  refine lv_bipush (v := 64) hx hb d_Summer_init_13 (by decide) ?_
  refine va_newa (atype := .int) (N' := 64) (a0 := (64, .inl (fun _ => 0))) hx hb (hts _ tw_49) (ty := .int) rfl hK hP hD hS hA (fun _ => rfl) (by decide) (by decide) (by decide) (by decide) (by decide) d_Summer_init_15 (fun q2 cA2 H hKn hP hD hS => ?_)
  rw [xk_int hK hKn] at hP hD
  have hP : va_P G classes [(q0, .inr (1, [.ref q1, .null, .int 0])), (q1, .inl (cI, 8, .inl (fun _ => 0))), (q2, .inl (cI, 64, .inl (fun _ => 0)))] H := hP
  have hD : va_D A [(q0, .inr (1, [.ref q1, .null, .int 0])), (q1, .inl (cI, 8, .inl (fun _ => 0))), (q2, .inl (cI, 64, .inl (fun _ => 0)))] := hD
  refine W.widen (k := 2) (n := 72) (by decide) (by decide) ?_
  refine va_putF (D := G) (ci := 1) (v := .ref q2) (ty := (t_Summer 1)) (C := R_Summer) (T := F_Summer) (N := 3) hx hb hts hi_Summer t_Summer t_Summer_ok n_Summer hown hK hP hD hS 0 rfl rfl 1 (by decide) (hts _ tw_40) (fun _ h9 => h9) rfl hnm rfl (by decide +kernel) rfl rfl (Nat.le_of_ble_eq_true rfl) d_Summer_init_17 (fun H locs hP hD hS => ?_)
  have hP : va_P G classes [(q0, .inr (1, [.ref q1, .ref q2, .int 0])), (q1, .inl (cI, 8, .inl (fun _ => 0))), (q2, .inl (cI, 64, .inl (fun _ => 0)))] H := hP
  have hD : va_D A [(q0, .inr (1, [.ref q1, .ref q2, .int 0])), (q1, .inl (cI, 8, .inl (fun _ => 0))), (q2, .inl (cI, 64, .inl (fun _ => 0)))] := hD
  exact xe_v (q1, q2) hx hb hr hlk hK (trivial) hP hD hS d_Summer_init_20 (by decide) (by decide)
set_option maxHeartbeats 4000000 in
set_option maxRecDepth 100000 in
theorem c_markInit (l : Launch) (G : va_G) (cI cB : ClassId) (tK tH sz : Nat) (q0 : Nat)  : xMv l G cI cB tK tH y_Marker_init b_Marker_init 1 none ({ frames := 2, cells := 8, slots := 251, locals := 40 }) [.ref q0] sz [(q0, .inr (0, [.null, .null, .null, .null, .null, .null]))] (fun _ => True) (fun u : Nat × Nat × Nat × Nat × Nat × Nat × Nat × Nat => [(q0, .inr (0, [.ref u.1, .ref u.2.2.2.1, .ref u.2.2.2.2.1, .ref u.2.2.2.2.2.1, .ref u.2.2.2.2.2.2.1, .ref u.2.2.2.2.2.2.2])), (u.1, .inr (1, [.ref u.2.1, .ref u.2.2.1, .int 0])), (u.2.1, .inl (cI, 8, .inl (fun _ => 0))), (u.2.2.1, .inl (cI, 64, .inl (fun _ => 0))), (u.2.2.2.1, .inl (cI, 64, .inl (fun _ => 0))), (u.2.2.2.2.1, .inl (cI, 64, .inl (fun _ => 0))), (u.2.2.2.2.2.1, .inl (cI, 32, .inl (fun _ => 0))), (u.2.2.2.2.2.2.1, .inl (cI, 8, .inl (fun _ => 0))), (u.2.2.2.2.2.2.2, .inl (cI, 8, .inl (fun _ => 0)))]) := by
  refine xMv.of (lv := [(0, .ref q0)]) (by decide) (Nat.le_of_ble_eq_true rfl) rfl ?_
  intro pp ee ss mm bel met cod A ls H locs hx hb hml hr hlk hts hown hnm hA hK hst hP hD hS hl
  have hown : ss.vm.findClass R_Marker = some mm.cls := hown
  refine lv_aload_n hx hb d_Marker_init_0 rfl (lv_at hl 0 rfl) ?_
  refine W.objInit hx hb hown (hts _ tw_55) (hts _ tw_31) (hts _ tw_32) rfl (by rw [hml]; exact hl.1) rfl d_Marker_init_1 (Nat.le_of_ble_eq_true rfl) (Nat.le_of_ble_eq_true rfl) ?_
  refine W.eq (g2 := F0 mm 4 ls []) rfl ?_
  refine lv_aload_n hx hb d_Marker_init_4 rfl (lv_at hl 0 rfl) ?_
  refine va_new (ci := 1) (fs := [.null, .null, .int 0]) (C := R_Summer) (T := F_Summer) (N := 3) hx hb hts hi_Summer t_Summer t_Summer_ok hown (hts _ tw_56) (hts _ tw_34) (hts _ tw_18) hK hP hD hS hA rfl (fun j hj => by rcases (show j = 0 ∨ j = 1 ∨ j = 2 by omega) with rfl | rfl | rfl <;> rfl) (by decide) (by decide) d_Marker_init_5 (fun q1 H hP hD hS => ?_)
  have hP : va_P G classes [(q0, .inr (0, [.null, .null, .null, .null, .null, .null])), (q1, .inr (1, [.null, .null, .int 0]))] H := hP
  have hD : va_D A [(q0, .inr (0, [.null, .null, .null, .null, .null, .null])), (q1, .inr (1, [.null, .null, .int 0]))] := hD
  refine W.widen (k := 1) (n := 3) (by decide) (by decide) ?_
  refine lv_dup hx hb d_Marker_init_8 rfl ?_
  refine xc_v (wr := [(q0, .inr (0, [.null, .null, .null, .null, .null, .null]))]) (va_runIN (As := []) (rest := [.ref q1, .ref q0]) ⟨hx, hb, hml, hown, hts⟩ (c_sumInit l G cI cB tK tH H.size q1 ) ⟨va_cnB 0 hts (xg_c tw_37) rfl rfl rfl (hst.nest 2 rfl) (hts _ tw_18) (by decide +kernel) ⟨Nat.le_of_ble_eq_true rfl, Nat.le_of_ble_eq_true rfl⟩, rfl, hts _ tw_36⟩ (xc_pre hK hst hA hP hD hS [1] (by decide) rfl (.ref q1 :: [])) rfl rfl hl.1 rfl (lv_room (Nat.le_of_ble_eq_true rfl)) d_Marker_init_9 ⟨Nat.le_of_ble_eq_true rfl, Nat.le_of_ble_eq_true rfl⟩) hA hP hD hS [1] [0] rfl rfl (by decide) (by decide) (fun u1 H locs hp2 hP hD hS => ?_)
  obtain ⟨q2, q3⟩ := u1
  have hP : va_P G classes [(q0, .inr (0, [.null, .null, .null, .null, .null, .null])), (q1, .inr (1, [.ref q2, .ref q3, .int 0])), (q2, .inl (cI, 8, .inl (fun _ => 0))), (q3, .inl (cI, 64, .inl (fun _ => 0)))] H := hP
  have hD : va_D A [(q0, .inr (0, [.null, .null, .null, .null, .null, .null])), (q1, .inr (1, [.ref q2, .ref q3, .int 0])), (q2, .inl (cI, 8, .inl (fun _ => 0))), (q3, .inl (cI, 64, .inl (fun _ => 0)))] := hD
  refine W.widen (k := 3) (n := 75) (by decide) (by decide) ?_
  refine va_putF (D := G) (ci := 0) (v := .ref q1) (ty := (t_Marker 0)) (C := R_Marker) (T := F_Marker) (N := 6) hx hb hts hi_Marker t_Marker t_Marker_ok n_Marker hown hK hP hD hS 0 rfl rfl 0 (by decide) (hts _ tw_58) (fun _ h9 => h9) rfl hnm rfl (by decide +kernel) rfl rfl (Nat.le_of_ble_eq_true rfl) d_Marker_init_12 (fun H locs hP hD hS => ?_)
  have hP : va_P G classes [(q0, .inr (0, [.ref q1, .null, .null, .null, .null, .null])), (q1, .inr (1, [.ref q2, .ref q3, .int 0])), (q2, .inl (cI, 8, .inl (fun _ => 0))), (q3, .inl (cI, 64, .inl (fun _ => 0)))] H := hP
  have hD : va_D A [(q0, .inr (0, [.ref q1, .null, .null, .null, .null, .null])), (q1, .inr (1, [.ref q2, .ref q3, .int 0])), (q2, .inl (cI, 8, .inl (fun _ => 0))), (q3, .inl (cI, 64, .inl (fun _ => 0)))] := hD
  refine lv_aload_n hx hb d_Marker_init_15 rfl (lv_at hl 0 rfl) ?_
  refine lv_bipush (v := 64) hx hb d_Marker_init_16 (by decide) ?_
  refine va_newa (atype := .int) (N' := 64) (a0 := (64, .inl (fun _ => 0))) hx hb (hts _ tw_49) (ty := .int) rfl hK hP hD hS hA (fun _ => rfl) (by decide) (by decide) (by decide) (by decide) (by decide) d_Marker_init_18 (fun q4 cA4 H hKn hP hD hS => ?_)
  rw [xk_int hK hKn] at hP hD
  have hP : va_P G classes [(q0, .inr (0, [.ref q1, .null, .null, .null, .null, .null])), (q1, .inr (1, [.ref q2, .ref q3, .int 0])), (q2, .inl (cI, 8, .inl (fun _ => 0))), (q3, .inl (cI, 64, .inl (fun _ => 0))), (q4, .inl (cI, 64, .inl (fun _ => 0)))] H := hP
  have hD : va_D A [(q0, .inr (0, [.ref q1, .null, .null, .null, .null, .null])), (q1, .inr (1, [.ref q2, .ref q3, .int 0])), (q2, .inl (cI, 8, .inl (fun _ => 0))), (q3, .inl (cI, 64, .inl (fun _ => 0))), (q4, .inl (cI, 64, .inl (fun _ => 0)))] := hD
  refine W.widen (k := 4) (n := 139) (by decide) (by decide) ?_
  refine va_putF (D := G) (ci := 0) (v := .ref q4) (ty := (t_Marker 1)) (C := R_Marker) (T := F_Marker) (N := 6) hx hb hts hi_Marker t_Marker t_Marker_ok n_Marker hown hK hP hD hS 0 rfl rfl 1 (by decide) (hts _ tw_59) (fun _ h9 => h9) rfl hnm rfl (by decide +kernel) rfl rfl (Nat.le_of_ble_eq_true rfl) d_Marker_init_20 (fun H locs hP hD hS => ?_)
  have hP : va_P G classes [(q0, .inr (0, [.ref q1, .ref q4, .null, .null, .null, .null])), (q1, .inr (1, [.ref q2, .ref q3, .int 0])), (q2, .inl (cI, 8, .inl (fun _ => 0))), (q3, .inl (cI, 64, .inl (fun _ => 0))), (q4, .inl (cI, 64, .inl (fun _ => 0)))] H := hP
  have hD : va_D A [(q0, .inr (0, [.ref q1, .ref q4, .null, .null, .null, .null])), (q1, .inr (1, [.ref q2, .ref q3, .int 0])), (q2, .inl (cI, 8, .inl (fun _ => 0))), (q3, .inl (cI, 64, .inl (fun _ => 0))), (q4, .inl (cI, 64, .inl (fun _ => 0)))] := hD
  refine lv_aload_n hx hb d_Marker_init_23 rfl (lv_at hl 0 rfl) ?_
  refine lv_bipush (v := 64) hx hb d_Marker_init_24 (by decide) ?_
  refine va_newa (atype := .int) (N' := 64) (a0 := (64, .inl (fun _ => 0))) hx hb (hts _ tw_49) (ty := .int) rfl hK hP hD hS hA (fun _ => rfl) (by decide) (by decide) (by decide) (by decide) (by decide) d_Marker_init_26 (fun q5 cA5 H hKn hP hD hS => ?_)
  rw [xk_int hK hKn] at hP hD
  have hP : va_P G classes [(q0, .inr (0, [.ref q1, .ref q4, .null, .null, .null, .null])), (q1, .inr (1, [.ref q2, .ref q3, .int 0])), (q2, .inl (cI, 8, .inl (fun _ => 0))), (q3, .inl (cI, 64, .inl (fun _ => 0))), (q4, .inl (cI, 64, .inl (fun _ => 0))), (q5, .inl (cI, 64, .inl (fun _ => 0)))] H := hP
  have hD : va_D A [(q0, .inr (0, [.ref q1, .ref q4, .null, .null, .null, .null])), (q1, .inr (1, [.ref q2, .ref q3, .int 0])), (q2, .inl (cI, 8, .inl (fun _ => 0))), (q3, .inl (cI, 64, .inl (fun _ => 0))), (q4, .inl (cI, 64, .inl (fun _ => 0))), (q5, .inl (cI, 64, .inl (fun _ => 0)))] := hD
  refine W.widen (k := 5) (n := 203) (by decide) (by decide) ?_
  refine va_putF (D := G) (ci := 0) (v := .ref q5) (ty := (t_Marker 2)) (C := R_Marker) (T := F_Marker) (N := 6) hx hb hts hi_Marker t_Marker t_Marker_ok n_Marker hown hK hP hD hS 0 rfl rfl 2 (by decide) (hts _ tw_60) (fun _ h9 => h9) rfl hnm rfl (by decide +kernel) rfl rfl (Nat.le_of_ble_eq_true rfl) d_Marker_init_28 (fun H locs hP hD hS => ?_)
  have hP : va_P G classes [(q0, .inr (0, [.ref q1, .ref q4, .ref q5, .null, .null, .null])), (q1, .inr (1, [.ref q2, .ref q3, .int 0])), (q2, .inl (cI, 8, .inl (fun _ => 0))), (q3, .inl (cI, 64, .inl (fun _ => 0))), (q4, .inl (cI, 64, .inl (fun _ => 0))), (q5, .inl (cI, 64, .inl (fun _ => 0)))] H := hP
  have hD : va_D A [(q0, .inr (0, [.ref q1, .ref q4, .ref q5, .null, .null, .null])), (q1, .inr (1, [.ref q2, .ref q3, .int 0])), (q2, .inl (cI, 8, .inl (fun _ => 0))), (q3, .inl (cI, 64, .inl (fun _ => 0))), (q4, .inl (cI, 64, .inl (fun _ => 0))), (q5, .inl (cI, 64, .inl (fun _ => 0)))] := hD
  refine lv_aload_n hx hb d_Marker_init_31 rfl (lv_at hl 0 rfl) ?_
  refine lv_bipush (v := 32) hx hb d_Marker_init_32 (by decide) ?_
  refine va_newa (atype := .int) (N' := 32) (a0 := (32, .inl (fun _ => 0))) hx hb (hts _ tw_49) (ty := .int) rfl hK hP hD hS hA (fun _ => rfl) (by decide) (by decide) (by decide) (by decide) (by decide) d_Marker_init_34 (fun q6 cA6 H hKn hP hD hS => ?_)
  rw [xk_int hK hKn] at hP hD
  have hP : va_P G classes [(q0, .inr (0, [.ref q1, .ref q4, .ref q5, .null, .null, .null])), (q1, .inr (1, [.ref q2, .ref q3, .int 0])), (q2, .inl (cI, 8, .inl (fun _ => 0))), (q3, .inl (cI, 64, .inl (fun _ => 0))), (q4, .inl (cI, 64, .inl (fun _ => 0))), (q5, .inl (cI, 64, .inl (fun _ => 0))), (q6, .inl (cI, 32, .inl (fun _ => 0)))] H := hP
  have hD : va_D A [(q0, .inr (0, [.ref q1, .ref q4, .ref q5, .null, .null, .null])), (q1, .inr (1, [.ref q2, .ref q3, .int 0])), (q2, .inl (cI, 8, .inl (fun _ => 0))), (q3, .inl (cI, 64, .inl (fun _ => 0))), (q4, .inl (cI, 64, .inl (fun _ => 0))), (q5, .inl (cI, 64, .inl (fun _ => 0))), (q6, .inl (cI, 32, .inl (fun _ => 0)))] := hD
  refine W.widen (k := 6) (n := 235) (by decide) (by decide) ?_
  refine va_putF (D := G) (ci := 0) (v := .ref q6) (ty := (t_Marker 3)) (C := R_Marker) (T := F_Marker) (N := 6) hx hb hts hi_Marker t_Marker t_Marker_ok n_Marker hown hK hP hD hS 0 rfl rfl 3 (by decide) (hts _ tw_61) (fun _ h9 => h9) rfl hnm rfl (by decide +kernel) rfl rfl (Nat.le_of_ble_eq_true rfl) d_Marker_init_36 (fun H locs hP hD hS => ?_)
  have hP : va_P G classes [(q0, .inr (0, [.ref q1, .ref q4, .ref q5, .ref q6, .null, .null])), (q1, .inr (1, [.ref q2, .ref q3, .int 0])), (q2, .inl (cI, 8, .inl (fun _ => 0))), (q3, .inl (cI, 64, .inl (fun _ => 0))), (q4, .inl (cI, 64, .inl (fun _ => 0))), (q5, .inl (cI, 64, .inl (fun _ => 0))), (q6, .inl (cI, 32, .inl (fun _ => 0)))] H := hP
  have hD : va_D A [(q0, .inr (0, [.ref q1, .ref q4, .ref q5, .ref q6, .null, .null])), (q1, .inr (1, [.ref q2, .ref q3, .int 0])), (q2, .inl (cI, 8, .inl (fun _ => 0))), (q3, .inl (cI, 64, .inl (fun _ => 0))), (q4, .inl (cI, 64, .inl (fun _ => 0))), (q5, .inl (cI, 64, .inl (fun _ => 0))), (q6, .inl (cI, 32, .inl (fun _ => 0)))] := hD
  refine lv_aload_n hx hb d_Marker_init_39 rfl (lv_at hl 0 rfl) ?_
  refine lv_bipush (v := 8) hx hb d_Marker_init_40 (by decide) ?_
  refine va_newa (atype := .int) (N' := 8) (a0 := (8, .inl (fun _ => 0))) hx hb (hts _ tw_49) (ty := .int) rfl hK hP hD hS hA (fun _ => rfl) (by decide) (by decide) (by decide) (by decide) (by decide) d_Marker_init_42 (fun q7 cA7 H hKn hP hD hS => ?_)
  rw [xk_int hK hKn] at hP hD
  have hP : va_P G classes [(q0, .inr (0, [.ref q1, .ref q4, .ref q5, .ref q6, .null, .null])), (q1, .inr (1, [.ref q2, .ref q3, .int 0])), (q2, .inl (cI, 8, .inl (fun _ => 0))), (q3, .inl (cI, 64, .inl (fun _ => 0))), (q4, .inl (cI, 64, .inl (fun _ => 0))), (q5, .inl (cI, 64, .inl (fun _ => 0))), (q6, .inl (cI, 32, .inl (fun _ => 0))), (q7, .inl (cI, 8, .inl (fun _ => 0)))] H := hP
  have hD : va_D A [(q0, .inr (0, [.ref q1, .ref q4, .ref q5, .ref q6, .null, .null])), (q1, .inr (1, [.ref q2, .ref q3, .int 0])), (q2, .inl (cI, 8, .inl (fun _ => 0))), (q3, .inl (cI, 64, .inl (fun _ => 0))), (q4, .inl (cI, 64, .inl (fun _ => 0))), (q5, .inl (cI, 64, .inl (fun _ => 0))), (q6, .inl (cI, 32, .inl (fun _ => 0))), (q7, .inl (cI, 8, .inl (fun _ => 0)))] := hD
  refine W.widen (k := 7) (n := 243) (by decide) (by decide) ?_
  refine va_putF (D := G) (ci := 0) (v := .ref q7) (ty := (t_Marker 4)) (C := R_Marker) (T := F_Marker) (N := 6) hx hb hts hi_Marker t_Marker t_Marker_ok n_Marker hown hK hP hD hS 0 rfl rfl 4 (by decide) (hts _ tw_62) (fun _ h9 => h9) rfl hnm rfl (by decide +kernel) rfl rfl (Nat.le_of_ble_eq_true rfl) d_Marker_init_44 (fun H locs hP hD hS => ?_)
  have hP : va_P G classes [(q0, .inr (0, [.ref q1, .ref q4, .ref q5, .ref q6, .ref q7, .null])), (q1, .inr (1, [.ref q2, .ref q3, .int 0])), (q2, .inl (cI, 8, .inl (fun _ => 0))), (q3, .inl (cI, 64, .inl (fun _ => 0))), (q4, .inl (cI, 64, .inl (fun _ => 0))), (q5, .inl (cI, 64, .inl (fun _ => 0))), (q6, .inl (cI, 32, .inl (fun _ => 0))), (q7, .inl (cI, 8, .inl (fun _ => 0)))] H := hP
  have hD : va_D A [(q0, .inr (0, [.ref q1, .ref q4, .ref q5, .ref q6, .ref q7, .null])), (q1, .inr (1, [.ref q2, .ref q3, .int 0])), (q2, .inl (cI, 8, .inl (fun _ => 0))), (q3, .inl (cI, 64, .inl (fun _ => 0))), (q4, .inl (cI, 64, .inl (fun _ => 0))), (q5, .inl (cI, 64, .inl (fun _ => 0))), (q6, .inl (cI, 32, .inl (fun _ => 0))), (q7, .inl (cI, 8, .inl (fun _ => 0)))] := hD
  refine lv_aload_n hx hb d_Marker_init_47 rfl (lv_at hl 0 rfl) ?_
  refine lv_bipush (v := 8) hx hb d_Marker_init_48 (by decide) ?_
  refine va_newa (atype := .int) (N' := 8) (a0 := (8, .inl (fun _ => 0))) hx hb (hts _ tw_49) (ty := .int) rfl hK hP hD hS hA (fun _ => rfl) (by decide) (by decide) (by decide) (by decide) (by decide) d_Marker_init_50 (fun q8 cA8 H hKn hP hD hS => ?_)
  rw [xk_int hK hKn] at hP hD
  have hP : va_P G classes [(q0, .inr (0, [.ref q1, .ref q4, .ref q5, .ref q6, .ref q7, .null])), (q1, .inr (1, [.ref q2, .ref q3, .int 0])), (q2, .inl (cI, 8, .inl (fun _ => 0))), (q3, .inl (cI, 64, .inl (fun _ => 0))), (q4, .inl (cI, 64, .inl (fun _ => 0))), (q5, .inl (cI, 64, .inl (fun _ => 0))), (q6, .inl (cI, 32, .inl (fun _ => 0))), (q7, .inl (cI, 8, .inl (fun _ => 0))), (q8, .inl (cI, 8, .inl (fun _ => 0)))] H := hP
  have hD : va_D A [(q0, .inr (0, [.ref q1, .ref q4, .ref q5, .ref q6, .ref q7, .null])), (q1, .inr (1, [.ref q2, .ref q3, .int 0])), (q2, .inl (cI, 8, .inl (fun _ => 0))), (q3, .inl (cI, 64, .inl (fun _ => 0))), (q4, .inl (cI, 64, .inl (fun _ => 0))), (q5, .inl (cI, 64, .inl (fun _ => 0))), (q6, .inl (cI, 32, .inl (fun _ => 0))), (q7, .inl (cI, 8, .inl (fun _ => 0))), (q8, .inl (cI, 8, .inl (fun _ => 0)))] := hD
  refine W.widen (k := 8) (n := 251) (by decide) (by decide) ?_
  refine va_putF (D := G) (ci := 0) (v := .ref q8) (ty := (t_Marker 5)) (C := R_Marker) (T := F_Marker) (N := 6) hx hb hts hi_Marker t_Marker t_Marker_ok n_Marker hown hK hP hD hS 0 rfl rfl 5 (by decide) (hts _ tw_63) (fun _ h9 => h9) rfl hnm rfl (by decide +kernel) rfl rfl (Nat.le_of_ble_eq_true rfl) d_Marker_init_52 (fun H locs hP hD hS => ?_)
  have hP : va_P G classes [(q0, .inr (0, [.ref q1, .ref q4, .ref q5, .ref q6, .ref q7, .ref q8])), (q1, .inr (1, [.ref q2, .ref q3, .int 0])), (q2, .inl (cI, 8, .inl (fun _ => 0))), (q3, .inl (cI, 64, .inl (fun _ => 0))), (q4, .inl (cI, 64, .inl (fun _ => 0))), (q5, .inl (cI, 64, .inl (fun _ => 0))), (q6, .inl (cI, 32, .inl (fun _ => 0))), (q7, .inl (cI, 8, .inl (fun _ => 0))), (q8, .inl (cI, 8, .inl (fun _ => 0)))] H := hP
  have hD : va_D A [(q0, .inr (0, [.ref q1, .ref q4, .ref q5, .ref q6, .ref q7, .ref q8])), (q1, .inr (1, [.ref q2, .ref q3, .int 0])), (q2, .inl (cI, 8, .inl (fun _ => 0))), (q3, .inl (cI, 64, .inl (fun _ => 0))), (q4, .inl (cI, 64, .inl (fun _ => 0))), (q5, .inl (cI, 64, .inl (fun _ => 0))), (q6, .inl (cI, 32, .inl (fun _ => 0))), (q7, .inl (cI, 8, .inl (fun _ => 0))), (q8, .inl (cI, 8, .inl (fun _ => 0)))] := hD
  exact xe_v (q1, q2, q3, q4, q5, q6, q7, q8) hx hb hr hlk hK (trivial) hP hD hS d_Marker_init_55 (by decide) (by decide)
end
section
/-! the class's rows and turns, purely -/
def km_fo (k lm : Nat → Int32) (pd i : Nat) : Nat → Int32 := fun j => if pd * 32 ≤ j ∧ j < pd * 32 + i then k j ^^^ lm (j - pd * 32) else k j
theorem km_fo_0 (k lm : Nat → Int32) (pd j : Nat) : k j = km_fo k lm pd 0 j := by
  unfold km_fo
  rw [if_neg (by omega)]
theorem km_fo_next (k lm : Nat → Int32) (pd i j : Nat) : upd (km_fo k lm pd i) (pd * 32 + i) (km_fo k lm pd i (pd * 32 + i) ^^^ lm i) j = km_fo k lm pd (i + 1) j := by
  by_cases e : j = pd * 32 + i
  · subst e
    rw [pk_us]
    unfold km_fo
    rw [if_neg (by omega), if_pos (by omega), show pd * 32 + i - pd * 32 = i by omega]
  · rw [pk_un e]
    unfold km_fo
    by_cases h : pd * 32 ≤ j ∧ j < pd * 32 + i
    · rw [if_pos h, if_pos (by omega)]
    · rw [if_neg h, if_neg (by omega)]
theorem km_K_next (p : Nat → Int32) (np : Nat) (s : Nat → Int32) (ns c d j : Nat) : km_fo (km_K p np s ns c d) (km_U p np s ns c (d + 1)) (d / c) 32 j = km_K p np s ns c (d + 1) j := by
  show _ = (if j / 32 = d / c then km_K p np s ns c d j ^^^ km_U p np s ns c (d + 1) (j % 32) else km_K p np s ns c d j)
  unfold km_fo
  generalize d / c = e
  by_cases h : e * 32 ≤ j ∧ j < e * 32 + 32
  · rw [if_pos h, if_pos (by omega), show j - e * 32 = j % 32 by omega]
  · rw [if_neg h, if_neg (by omega)]
theorem km_U_a {p s f : Nat → Int32} {np ns c d : Nat} (h0 : d % c = 0) (h : ∀ j, j < ns → f j = s j) (j : Nat) : km_mk p np (km_put f ns (nI (d / c + 1))) (ns + 4) j = km_U p np s ns c (d + 1) j := by
  have e : km_U p np s ns c (d + 1) = km_mk p np (km_cat s ns (km_by (nI (d / c + 1)))) (ns + 4) := if_pos h0
  rw [e, km_mk_congr (fun _ _ => rfl) (km_salt_eq _ h)]
theorem km_U_b {p s f : Nat → Int32} {np ns c d : Nat} (h0 : ¬ d % c = 0) (h : ∀ j, j < 32 → f j = km_U p np s ns c d j) (j : Nat) : km_mk p np f 32 j = km_U p np s ns c (d + 1) j := by
  have e : km_U p np s ns c (d + 1) = km_mk p np (km_U p np s ns c d) 32 := if_neg h0
  rw [e, km_mk_congr (fun _ _ => rfl) h]
theorem km_put_kr {f : Nat → Int32} {n : Nat} (x : Int32) (h : ∀ j, j < n → kr (f j)) : ∀ j, j < n + 4 → kr (km_put f n x j) := by
  intro j hj
  unfold km_put
  split
  · exact km_by_kr _ _
  · exact h j (by omega)
theorem kr_eq {f g : Nat → Int32} {n : Nat} (h : ∀ j, j < n → f j = g j) (hg : ∀ j, j < n → kr (g j)) : ∀ j, j < n → kr (f j) := fun j hj => by rw [h j hj]; exact hg j hj
theorem km_min {k n : Nat} (hk : k < 2 ^ 31) (hn : n < 2 ^ 31) : (if nI n < nI k then nI n else nI k) = nI (min k n) := by
  by_cases h : n < k
  · rw [if_pos ((nI_ltI hn hk).mpr h), show min k n = n by omega]
  · rw [if_neg (fun z => h ((nI_ltI hn hk).mp z)), show min k n = k by omega]
section KC
variable {p s : Nat → Int32} {np ns c w d : Nat} {F F' : Nat → Nat → Int32}
theorem kC_same (h : kC (p, np, s, ns, c, w, d) F) (e0 : F' 0 = F 0) (e1 : F' 1 = F 1) (e2 : F' 2 = F 2) (e3 : F' 3 = F 3) (e12 : F' 12 = F 12) (e13 : F' 13 = F 13) : kC (p, np, s, ns, c, w, d) F' := by
  unfold kC at h ⊢
  rw [e0, e1, e2, e3, e12, e13]
  exact h
theorem kC_password (h : kC (p, np, s, ns, c, w, d) F) (b : Int32) (hw : w = 0) (e0 : F' 0 = upd (F 0) np b) (e1 : F' 1 = F 1) : kC (upd p np b, np + 1, s, ns, c, w, d) F' := by
  obtain ⟨h1, h2, h3⟩ := h
  refine ⟨fun j hj => ?_, by rw [e1]; exact h2, fun z => by omega⟩
  rw [e0]
  by_cases e : j = np
  · subst e; rw [pk_us, pk_us]
  · rw [pk_un e, pk_un e]; exact h1 j (by omega)
theorem kC_four (h : kC (p, np, s, ns, c, w, d) F) (x : Int32) (hw : w = 0) (e0 : F' 0 = km_put (F 0) np x) (e1 : F' 1 = F 1) : kC (km_put p np x, np + 4, s, ns, c, w, d) F' := by
  obtain ⟨h1, h2, h3⟩ := h
  refine ⟨fun j hj => ?_, by rw [e1]; exact h2, fun z => by omega⟩
  rw [e0]
  unfold km_put
  split
  · rfl
  · exact h1 j (by omega)
theorem kC_salt (h : kC (p, np, s, ns, c, w, d) F) (b : Int32) (hw : w = 0) (e0 : F' 0 = F 0) (e1 : F' 1 = upd (F 1) ns b) : kC (p, np, upd s ns b, ns + 1, c, w, d) F' := by
  obtain ⟨h1, h2, h3⟩ := h
  refine ⟨by rw [e0]; exact h1, fun j hj => ?_, fun z => by omega⟩
  rw [e1]
  by_cases e : j = ns
  · subst e; rw [pk_us, pk_us]
  · rw [pk_un e, pk_un e]; exact h2 j (by omega)
theorem kx_eq {p p' : Nat → Int32} {np : Nat} (h : ∀ j, j < np → p j = p' j) (x : Int32) : km_kx p np x = km_kx p' np x := by
  unfold km_kx
  rw [km_kb_congr h]
theorem kC_start (h : kC (p, np, s, ns, c, w, d) F) (t b : Nat) (e0 : F' 0 = F 0) (e1 : F' 1 = F 1) (e2 : F' 2 = fun _ => 0) (e12 : F' 12 = km_h (km_kx (F 0) np 54) 1) (e13 : F' 13 = km_h (km_kx (F 0) np 92) 1) : kC (p, np, s, ns, t, b, 0) F' := by
  obtain ⟨h1, h2, h3⟩ := h
  refine ⟨by rw [e0]; exact h1, by rw [e1]; exact h2, fun _ => ⟨fun j _ => by rw [e2]; rfl, fun z => by omega, fun j _ => ?_, fun j _ => ?_⟩⟩
  · rw [e12, kx_eq h1]
  · rw [e13, kx_eq h1]
theorem kC_mark (h : kC (p, np, s, ns, c, w, d) F) (e0 : F' 0 = F 0) (e1 : F' 1 = F 1) (e2 : F' 2 = F 2) (e3 : F' 3 = F 3) (e12 : F' 12 = km_h (km_kx (F 0) np 54) 1) (e13 : F' 13 = km_h (km_kx (F 0) np 92) 1) : kC (p, np, s, ns, c, w, d) F' := by
  obtain ⟨h1, h2, h3⟩ := h
  refine ⟨by rw [e0]; exact h1, by rw [e1]; exact h2, fun z => ⟨by rw [e2]; exact (h3 z).1, by rw [e3]; exact (h3 z).2.1, fun j _ => ?_, fun j _ => ?_⟩⟩
  · rw [e12, kx_eq h1]
  · rw [e13, kx_eq h1]
/-- behind turns: d' are done -/
theorem kC_turns {d' : Nat} (h : kC (p, np, s, ns, c, w, d) F) (e0 : F' 0 = F 0) (h1 : ∀ j, j < ns → F' 1 j = s j) (e2 : ∀ j, j < 128 → F' 2 j = km_K p np s ns c d' j) (e3 : 0 < d' → ∀ j, j < 32 → F' 3 j = km_U p np s ns c d' j) (e12 : ∀ j, j < 8 → F' 12 j = km_h (km_kx p np 54) 1 j) (e13 : ∀ j, j < 8 → F' 13 j = km_h (km_kx p np 92) 1 j) : kC (p, np, s, ns, c, w, d') F' :=
  ⟨by rw [e0]; exact h.1, h1, fun _ => ⟨e2, e3, e12, e13⟩⟩
theorem kC_reset (h : kC (p, np, s, ns, c, w, d) F) : kC (p, 0, s, 0, 0, 0, 0) F := ⟨fun j hj => by omega, fun j hj => by omega, fun z => by omega⟩
end KC
theorem kt_key {i c d : Nat} (hc : 0 < c) : (i < d / c * 32) ↔ (i / 32 + 1) * c ≤ d := by
  rw [← Nat.le_div_iff_mul_le hc]
  omega
theorem kt_pos {c d : Nat} (h : ¬ d % c = 0) : 0 < d := Nat.pos_of_ne_zero (fun z => h (by rw [z]; exact Nat.zero_mod c))
theorem kA_c0 {p s : Nat → Int32} {np ns c w d : Nat} (h : kA_ok (p, np, s, ns, c, w, d)) : c = 0 → d = 0 := by
  intro z
  obtain ⟨h1, h2, h3, h4, h5, h6, h7, h8, h9⟩ := h
  rcases Nat.eq_zero_or_pos w with y | y
  · exact (h7 y).2
  · have := h8 y; omega
theorem kA_d {p s : Nat → Int32} {np ns c w d d' : Nat} (h : kA_ok (p, np, s, ns, c, w, d)) (hw : 0 < w) (hd : d' ≤ kt_all c w) : kA_ok (p, np, s, ns, c, w, d') := by
  obtain ⟨h1, h2, h3, h4, h5, h6, h7, h8, h9⟩ := h
  exact ⟨h1, h2, h3, h4, h5, h6, fun z => by omega, h8, hd⟩
theorem kC_zero (p s : Nat → Int32) (F : Nat → Nat → Int32) : kC (p, 0, s, 0, 0, 0, 0) F := ⟨fun j hj => by omega, fun j hj => by omega, fun z => by omega⟩
theorem kn_1 {x M : Int32} {n : Nat} (hM : M.toInt = n) (h1 : ¬ x < 1) (h2 : ¬ M < x) : ∃ k : Nat, 1 ≤ k ∧ k ≤ n ∧ x = nI k := by
  have h0 : ¬ x < 0 := by
    intro z
    rw [Int32.lt_iff_toInt_lt] at h1 z
    have e1 : (1 : Int32).toInt = 1 := by decide
    have e0 : (0 : Int32).toInt = 0 := by decide
    omega
  obtain ⟨k, hk, rfl⟩ := nI_of2 hM h0 (Int32.not_lt.mp h2)
  have hkb : k < 2 ^ 31 := by
    have := M.toInt_lt
    omega
  refine ⟨k, ?_, hk, rfl⟩
  rcases Nat.eq_zero_or_pos k with z | z
  · subst z; exact absurd (by decide) h1
  · exact z
theorem kn_lt {x : Int32} {n : Nat} (hn : n < 2 ^ 31) (h1 : ¬ x < 0) (h2 : ¬ nI n ≤ x) : ∃ k : Nat, k < n ∧ x = nI k := by
  rcases pk_ix x hn with z | z | z
  · exact absurd z h1
  · exact absurd z h2
  · exact z
theorem kn_ge {x : Int32} {n : Nat} (hn : n < 2 ^ 31) (h : nI n ≤ x) : ¬ x.toNatClampNeg < n := by
  intro z
  have h0 : ¬ x < 0 := by
    intro y
    rw [Int32.lt_iff_toInt_lt, Int32.toInt_zero] at y
    rw [Int32.le_iff_toInt_le, nI_toInt hn] at h
    omega
  obtain ⟨j, hj, rfl⟩ := nI_of h0
  rw [nI_clamp hj] at z
  have := (nI_leI hn hj).mp h
  omega
theorem kn_3 {x : Int32} (h0 : ¬ x = 0) (h1 : ¬ x = 1) (h2 : ¬ x = 2) : x.toInt < 0 ∨ 2 < x.toInt := by
  rw [← Int32.toInt_inj] at h0 h1 h2
  have e0 : (0 : Int32).toInt = 0 := by decide
  have e1 : (1 : Int32).toInt = 1 := by decide
  have e2 : (2 : Int32).toInt = 2 := by decide
  omega
section KAE
variable {p s : Nat → Int32} {np ns c w d : Nat}
theorem ka_start_pos {t b : Nat} (hw : w = 0) (h1 : ¬ nI t < 1) (h2 : ¬ 1000 < nI t) (h3 : ¬ nI b < 1) (h4 : ¬ 100 < nI b) (ht : t < 2 ^ 31) (hb : b < 2 ^ 31) : ka_start (nI t) (nI b) (p, np, s, ns, c, w, d) = (nI (kt_all t b), (p, np, s, ns, t, b, 0)) := by
  unfold ka_start
  dsimp only
  rw [if_pos ⟨hw, h1, h2, h3, h4⟩, nI_clamp ht, nI_clamp hb]
theorem ka_run_pos {k : Nat} (hw : 0 < w) (hk : k < 2 ^ 31) : ka_run (nI k) (p, np, s, ns, c, w, d) = (nI (min k (kt_all c w - d)), (p, np, s, ns, c, w, d + min k (kt_all c w - d))) := by
  unfold ka_run
  dsimp only
  rw [if_pos ⟨hw, nI_pos hk⟩, nI_clamp hk]
theorem ka_key_pos {j : Nat} (hj : j < 2 ^ 31) (h1 : j < w) (h2 : (j / 32 + 1) * c ≤ d) : ka_key (nI j) (p, np, s, ns, c, w, d) = (km_K p np s ns c d j, (p, np, s, ns, c, w, d)) := by
  unfold ka_key
  dsimp only
  rw [nI_clamp hj, if_pos ⟨nI_pos hj, h1, h2⟩]
theorem ka_key_neg {i : Int32} (h : ¬ (¬ i < 0 ∧ i.toNatClampNeg < w ∧ (i.toNatClampNeg / 32 + 1) * c ≤ d)) : ka_key i (p, np, s, ns, c, w, d) = (-1, (p, np, s, ns, c, w, d)) := by
  unfold ka_key
  dsimp only
  rw [if_neg h]
theorem ka_sum_pos {k : Nat} (hk : k < 32) : ka_sum (nI k) (p, np, s, ns, c, w, d) = (km_s p np k, (p, np, s, ns, c, w, d)) := by
  unfold ka_sum
  dsimp only
  rw [nI_clamp (by omega), if_pos ⟨nI_pos (by omega), hk⟩]
theorem ka_sum_neg {i : Int32} (h : i < 0 ∨ 32 ≤ i) : ka_sum i (p, np, s, ns, c, w, d) = (-1, (p, np, s, ns, c, w, d)) := by
  unfold ka_sum
  dsimp only
  rw [if_neg (fun z => h.elim z.1 (fun y => kn_ge (n := 32) (by decide) y z.2))]
theorem ka_mark_pos {k : Nat} (hk : k < 32) : ka_mark (nI k) (p, np, s, ns, c, w, d) = (km_mk p np s ns k, (p, np, s, ns, c, w, d)) := by
  unfold ka_mark
  dsimp only
  rw [nI_clamp (by omega), if_pos ⟨nI_pos (by omega), hk⟩]
theorem ka_mark_neg {i : Int32} (h : i < 0 ∨ 32 ≤ i) : ka_mark i (p, np, s, ns, c, w, d) = (-1, (p, np, s, ns, c, w, d)) := by
  unfold ka_mark
  dsimp only
  rw [if_neg (fun z => h.elim z.1 (fun y => kn_ge (n := 32) (by decide) y z.2))]
theorem ka_left_pos (hw : 0 < w) : ka_left (p, np, s, ns, c, w, d) = (nI (kt_all c w - d), (p, np, s, ns, c, w, d)) := by
  unfold ka_left
  dsimp only
  rw [if_pos hw]
theorem ka_left_neg (hw : w = 0) : ka_left (p, np, s, ns, c, w, d) = (-1, (p, np, s, ns, c, w, d)) := by
  unfold ka_left
  dsimp only
  rw [if_neg (by omega)]
end KAE
end
section
/-! KeyMaker's private methods -/
set_option maxHeartbeats 4000000 in
set_option maxRecDepth 100000 in
theorem c_isStarted (l : Launch) (G : va_G) (cI cB : ClassId) (tK tH sz : Nat) (q : Nat → Nat) (x0 x1 x3 x4 x5 : Int32) (w : Nat) (hw : w < 2 ^ 31) : xMi l G cI cB tK tH y_KeyMaker_isStarted b_KeyMaker_isStarted 1 (some .boolean) ({ frames := 0, cells := 0, slots := 0, locals := 0 }) [.ref (q 0)] sz [(q 0, .inr (2, [.ref (q 1), .ref (q 2), .ref (q 3), .ref (q 4), .ref (q 5), .ref (q 6), .ref (q 9), .int x0, .int x1, .int (nI w), .int x3, .int x4, .int x5]))] (fun r _ => (0 < w ∧ r = 1) ∨ (w = 0 ∧ r = 0)) (fun u : Unit => [(q 0, .inr (2, [.ref (q 1), .ref (q 2), .ref (q 3), .ref (q 4), .ref (q 5), .ref (q 6), .ref (q 9), .int x0, .int x1, .int (nI w), .int x3, .int x4, .int x5]))]) := by
  refine xMi.of (lv := [(0, .ref (q 0))]) (by decide) (Nat.le_of_ble_eq_true rfl) rfl ?_
  intro pp ee ss mm bel met cod A ls H locs hx hb hml hr hlk hts hown hnm hA hK hst hP hD hS hl
  have hown : ss.vm.findClass R_KeyMaker = some mm.cls := hown
  refine lv_aload_n hx hb d_KeyMaker_isStarted_0 rfl (lv_at hl 0 rfl) ?_
  refine va_get (D := G) (ci := 2) (v := .int (nI w)) (C := R_KeyMaker) (T := F_KeyMaker) (N := 13) hx hb hts hi_KeyMaker hown hK hP 0 rfl rfl 9 (by decide) (hts _ tw_90) (fun _ h9 => h9) rfl d_KeyMaker_isStarted_1 ?_
  refine lv_if_le (tgt := 11) hx hb d_KeyMaker_isStarted_4 (by decide) (fun hc => ?_) (fun hc => ?_)
  · have hc : w ≤ 0 := (nI_leI (a := w) (b := 0) (by omega) (by omega)).mp hc
    refine lv_iconst (v := 0) hx hb d_KeyMaker_isStarted_11 (by decide) ?_
    exact xe_z (()) hx hb hr (by decide) hlk hK (Or.inr ⟨by omega, rfl⟩) hP hD hS d_KeyMaker_isStarted_12 (by decide) (by decide)
  · have hc : ¬ w ≤ 0 := fun z => hc ((nI_leI (a := w) (b := 0) (by omega) (by omega)).mpr z)
    refine lv_iconst (v := 1) hx hb d_KeyMaker_isStarted_7 (by decide) ?_
    refine lv_goto (tgt := 12) hx hb d_KeyMaker_isStarted_8 (by decide) ?_
    exact xe_z (()) hx hb hr (by decide) hlk hK (Or.inl ⟨by omega, rfl⟩) hP hD hS d_KeyMaker_isStarted_12 (by decide) (by decide)
set_option maxHeartbeats 4000000 in
set_option maxRecDepth 100000 in
theorem c_turnsLeft (l : Launch) (G : va_G) (cI cB : ClassId) (tK tH sz : Nat) (q : Nat → Nat) (x0 x1 : Int32) (w c d : Nat) (hw : w ≤ 100) (h0 : c = 0 → d = 0) (hd : d ≤ kt_all c w) : xMi l G cI cB tK tH y_KeyMaker_turnsLeft b_KeyMaker_turnsLeft 2 (some .int) ({ frames := 0, cells := 0, slots := 0, locals := 0 }) [.ref (q 0)] sz [(q 0, .inr (2, [.ref (q 1), .ref (q 2), .ref (q 3), .ref (q 4), .ref (q 5), .ref (q 6), .ref (q 9), .int x0, .int x1, .int (nI w), .int (nI c), .int (nI (d / c)), .int (nI (d % c))]))] (fun r _ => r = nI (kt_all c w - d)) (fun u : Unit => [(q 0, .inr (2, [.ref (q 1), .ref (q 2), .ref (q 3), .ref (q 4), .ref (q 5), .ref (q 6), .ref (q 9), .int x0, .int x1, .int (nI w), .int (nI c), .int (nI (d / c)), .int (nI (d % c))]))]) := by
  refine xMi.of (lv := [(0, .ref (q 0))]) (by decide) (Nat.le_of_ble_eq_true rfl) rfl ?_
  intro pp ee ss mm bel met cod A ls H locs hx hb hml hr hlk hts hown hnm hA hK hst hP hD hS hl
  have hown : ss.vm.findClass R_KeyMaker = some mm.cls := hown
  have k1 := kt_div h0 hd
  have k2 := kt_mod h0 hd
  refine lv_aload_n hx hb d_KeyMaker_turnsLeft_0 rfl (lv_at hl 0 rfl) ?_
  refine va_get (D := G) (ci := 2) (v := .int (nI w)) (C := R_KeyMaker) (T := F_KeyMaker) (N := 13) hx hb hts hi_KeyMaker hown hK hP 0 rfl rfl 9 (by decide) (hts _ tw_90) (fun _ h9 => h9) rfl d_KeyMaker_turnsLeft_1 ?_
  refine lv_bipush (v := 32) hx hb d_KeyMaker_turnsLeft_4 (by decide) ?_
  refine lv_iadd hx hb d_KeyMaker_turnsLeft_6 ?_
  refine lv_topi (fun y1 ey1 => ?_)
  obtain rfl : y1 = nI (w + 32) := ey1.trans (nI_add w 32)
  refine lv_iconst (v := 1) hx hb d_KeyMaker_turnsLeft_7 (by decide) ?_
  refine lv_isub hx hb d_KeyMaker_turnsLeft_8 ?_
  refine lv_topi (fun y2 ey2 => ?_)
  obtain rfl : y2 = nI (w + 32 - 1) := ey2.trans (pk_sub (a := (w + 32)) (b := 1) (by omega))
  refine lv_bipush (v := 32) hx hb d_KeyMaker_turnsLeft_9 (by decide) ?_
  refine lv_idiv hx hb d_KeyMaker_turnsLeft_11 (by decide) ?_
  refine lv_topi (fun y3 ey3 => ?_)
  obtain rfl : y3 = nI ((w + 32 - 1) / 32) := ey3.trans (pk_div (a := (w + 32 - 1)) (d := 32) (by omega) (by omega) (by omega))
  refine lv_istore_n (lv' := [(1, .int (nI ((w + 32 - 1) / 32))), (0, .ref (q 0))]) hx hb d_KeyMaker_turnsLeft_12 rfl hl (by decide) rfl (fun ls hl => ?_)
  refine lv_iload_n hx hb d_KeyMaker_turnsLeft_13 rfl (lv_at hl 0 rfl) ?_
  refine lv_aload_n hx hb d_KeyMaker_turnsLeft_14 rfl (lv_at hl 1 rfl) ?_
  refine va_get (D := G) (ci := 2) (v := .int (nI (d / c))) (C := R_KeyMaker) (T := F_KeyMaker) (N := 13) hx hb hts hi_KeyMaker hown hK hP 0 rfl rfl 11 (by decide) (hts _ tw_92) (fun _ h9 => h9) rfl d_KeyMaker_turnsLeft_15 ?_
  refine lv_isub hx hb d_KeyMaker_turnsLeft_18 ?_
  refine lv_topi (fun y4 ey4 => ?_)
  obtain rfl : y4 = nI ((w + 32 - 1) / 32 - (d / c)) := ey4.trans (pk_sub (a := ((w + 32 - 1) / 32)) (b := (d / c)) (by omega))
  refine lv_aload_n hx hb d_KeyMaker_turnsLeft_19 rfl (lv_at hl 1 rfl) ?_
  refine va_get (D := G) (ci := 2) (v := .int (nI c)) (C := R_KeyMaker) (T := F_KeyMaker) (N := 13) hx hb hts hi_KeyMaker hown hK hP 0 rfl rfl 10 (by decide) (hts _ tw_91) (fun _ h9 => h9) rfl d_KeyMaker_turnsLeft_20 ?_
  refine lv_imul hx hb d_KeyMaker_turnsLeft_23 ?_
  refine lv_topi (fun y5 ey5 => ?_)
  obtain rfl : y5 = nI (((w + 32 - 1) / 32 - (d / c)) * c) := ey5.trans (pk_mul ((w + 32 - 1) / 32 - (d / c)) c)
  refine lv_aload_n hx hb d_KeyMaker_turnsLeft_24 rfl (lv_at hl 1 rfl) ?_
  refine va_get (D := G) (ci := 2) (v := .int (nI (d % c))) (C := R_KeyMaker) (T := F_KeyMaker) (N := 13) hx hb hts hi_KeyMaker hown hK hP 0 rfl rfl 12 (by decide) (hts _ tw_93) (fun _ h9 => h9) rfl d_KeyMaker_turnsLeft_25 ?_
  refine lv_isub hx hb d_KeyMaker_turnsLeft_28 ?_
  refine lv_topi (fun y6 ey6 => ?_)
  obtain rfl : y6 = nI (((w + 32 - 1) / 32 - (d / c)) * c - (d % c)) := ey6.trans (pk_sub (a := (((w + 32 - 1) / 32 - (d / c)) * c)) (b := (d % c)) (by omega))
  exact xe_i (()) hx hb hr hlk hK (congrArg nI kt_left) hP hD hS d_KeyMaker_turnsLeft_29 (by decide) (by decide)
set_option maxHeartbeats 4000000 in
set_option maxRecDepth 100000 in
theorem c_forget (l : Launch) (G : va_G) (cI cB : ClassId) (tK tH sz : Nat) (q : Nat → Nat) (x0 x1 x2 x3 x4 x5 : Int32)  : xMv l G cI cB tK tH y_KeyMaker_forgetAll b_KeyMaker_forgetAll 1 none ({ frames := 0, cells := 0, slots := 0, locals := 0 }) [.ref (q 0)] sz [(q 0, .inr (2, [.ref (q 1), .ref (q 2), .ref (q 3), .ref (q 4), .ref (q 5), .ref (q 6), .ref (q 9), .int x0, .int x1, .int x2, .int x3, .int x4, .int x5]))] (fun _ => True) (fun u : Unit => [(q 0, .inr (2, [.ref (q 1), .ref (q 2), .ref (q 3), .ref (q 4), .ref (q 5), .ref (q 6), .ref (q 9), .int (nI 0), .int (nI 0), .int (nI 0), .int (nI 0), .int (nI (0 / 0)), .int (nI (0 % 0))]))]) := by
  refine xMv.of (lv := [(0, .ref (q 0))]) (by decide) (Nat.le_of_ble_eq_true rfl) rfl ?_
  intro pp ee ss mm bel met cod A ls H locs hx hb hml hr hlk hts hown hnm hA hK hst hP hD hS hl
  have hown : ss.vm.findClass R_KeyMaker = some mm.cls := hown
  refine lv_aload_n hx hb d_KeyMaker_forgetAll_0 rfl (lv_at hl 0 rfl) ?_
  refine lv_iconst (v := 0) hx hb d_KeyMaker_forgetAll_1 (by decide) ?_
  refine va_put (D := G) (ci := 2) (v := .int 0) (ty := .int) (C := R_KeyMaker) (T := F_KeyMaker) (N := 13) hx hb hts hi_KeyMaker t_KeyMaker t_KeyMaker_ok n_KeyMaker hown hK hP hD hS 0 rfl rfl 7 (by decide) (hts _ tw_88) (fun _ h9 => h9) rfl (by decide +kernel) rfl rfl (Nat.le_of_ble_eq_true rfl) d_KeyMaker_forgetAll_2 (fun H locs hP hD hS => ?_)
  have hP : va_P G classes [(q 0, .inr (2, [.ref (q 1), .ref (q 2), .ref (q 3), .ref (q 4), .ref (q 5), .ref (q 6), .ref (q 9), .int 0, .int x1, .int x2, .int x3, .int x4, .int x5]))] H := hP
  have hD : va_D A [(q 0, .inr (2, [.ref (q 1), .ref (q 2), .ref (q 3), .ref (q 4), .ref (q 5), .ref (q 6), .ref (q 9), .int 0, .int x1, .int x2, .int x3, .int x4, .int x5]))] := hD
  refine lv_aload_n hx hb d_KeyMaker_forgetAll_5 rfl (lv_at hl 0 rfl) ?_
  refine lv_iconst (v := 0) hx hb d_KeyMaker_forgetAll_6 (by decide) ?_
  refine va_put (D := G) (ci := 2) (v := .int 0) (ty := .int) (C := R_KeyMaker) (T := F_KeyMaker) (N := 13) hx hb hts hi_KeyMaker t_KeyMaker t_KeyMaker_ok n_KeyMaker hown hK hP hD hS 0 rfl rfl 8 (by decide) (hts _ tw_89) (fun _ h9 => h9) rfl (by decide +kernel) rfl rfl (Nat.le_of_ble_eq_true rfl) d_KeyMaker_forgetAll_7 (fun H locs hP hD hS => ?_)
  have hP : va_P G classes [(q 0, .inr (2, [.ref (q 1), .ref (q 2), .ref (q 3), .ref (q 4), .ref (q 5), .ref (q 6), .ref (q 9), .int 0, .int 0, .int x2, .int x3, .int x4, .int x5]))] H := hP
  have hD : va_D A [(q 0, .inr (2, [.ref (q 1), .ref (q 2), .ref (q 3), .ref (q 4), .ref (q 5), .ref (q 6), .ref (q 9), .int 0, .int 0, .int x2, .int x3, .int x4, .int x5]))] := hD
  refine lv_aload_n hx hb d_KeyMaker_forgetAll_10 rfl (lv_at hl 0 rfl) ?_
  refine lv_iconst (v := 0) hx hb d_KeyMaker_forgetAll_11 (by decide) ?_
  refine va_put (D := G) (ci := 2) (v := .int 0) (ty := .int) (C := R_KeyMaker) (T := F_KeyMaker) (N := 13) hx hb hts hi_KeyMaker t_KeyMaker t_KeyMaker_ok n_KeyMaker hown hK hP hD hS 0 rfl rfl 9 (by decide) (hts _ tw_90) (fun _ h9 => h9) rfl (by decide +kernel) rfl rfl (Nat.le_of_ble_eq_true rfl) d_KeyMaker_forgetAll_12 (fun H locs hP hD hS => ?_)
  have hP : va_P G classes [(q 0, .inr (2, [.ref (q 1), .ref (q 2), .ref (q 3), .ref (q 4), .ref (q 5), .ref (q 6), .ref (q 9), .int 0, .int 0, .int 0, .int x3, .int x4, .int x5]))] H := hP
  have hD : va_D A [(q 0, .inr (2, [.ref (q 1), .ref (q 2), .ref (q 3), .ref (q 4), .ref (q 5), .ref (q 6), .ref (q 9), .int 0, .int 0, .int 0, .int x3, .int x4, .int x5]))] := hD
  refine lv_aload_n hx hb d_KeyMaker_forgetAll_15 rfl (lv_at hl 0 rfl) ?_
  refine lv_iconst (v := 0) hx hb d_KeyMaker_forgetAll_16 (by decide) ?_
  refine va_put (D := G) (ci := 2) (v := .int 0) (ty := .int) (C := R_KeyMaker) (T := F_KeyMaker) (N := 13) hx hb hts hi_KeyMaker t_KeyMaker t_KeyMaker_ok n_KeyMaker hown hK hP hD hS 0 rfl rfl 10 (by decide) (hts _ tw_91) (fun _ h9 => h9) rfl (by decide +kernel) rfl rfl (Nat.le_of_ble_eq_true rfl) d_KeyMaker_forgetAll_17 (fun H locs hP hD hS => ?_)
  have hP : va_P G classes [(q 0, .inr (2, [.ref (q 1), .ref (q 2), .ref (q 3), .ref (q 4), .ref (q 5), .ref (q 6), .ref (q 9), .int 0, .int 0, .int 0, .int 0, .int x4, .int x5]))] H := hP
  have hD : va_D A [(q 0, .inr (2, [.ref (q 1), .ref (q 2), .ref (q 3), .ref (q 4), .ref (q 5), .ref (q 6), .ref (q 9), .int 0, .int 0, .int 0, .int 0, .int x4, .int x5]))] := hD
  refine lv_aload_n hx hb d_KeyMaker_forgetAll_20 rfl (lv_at hl 0 rfl) ?_
  refine lv_iconst (v := 0) hx hb d_KeyMaker_forgetAll_21 (by decide) ?_
  refine va_put (D := G) (ci := 2) (v := .int 0) (ty := .int) (C := R_KeyMaker) (T := F_KeyMaker) (N := 13) hx hb hts hi_KeyMaker t_KeyMaker t_KeyMaker_ok n_KeyMaker hown hK hP hD hS 0 rfl rfl 11 (by decide) (hts _ tw_92) (fun _ h9 => h9) rfl (by decide +kernel) rfl rfl (Nat.le_of_ble_eq_true rfl) d_KeyMaker_forgetAll_22 (fun H locs hP hD hS => ?_)
  have hP : va_P G classes [(q 0, .inr (2, [.ref (q 1), .ref (q 2), .ref (q 3), .ref (q 4), .ref (q 5), .ref (q 6), .ref (q 9), .int 0, .int 0, .int 0, .int 0, .int 0, .int x5]))] H := hP
  have hD : va_D A [(q 0, .inr (2, [.ref (q 1), .ref (q 2), .ref (q 3), .ref (q 4), .ref (q 5), .ref (q 6), .ref (q 9), .int 0, .int 0, .int 0, .int 0, .int 0, .int x5]))] := hD
  refine lv_aload_n hx hb d_KeyMaker_forgetAll_25 rfl (lv_at hl 0 rfl) ?_
  refine lv_iconst (v := 0) hx hb d_KeyMaker_forgetAll_26 (by decide) ?_
  refine va_put (D := G) (ci := 2) (v := .int 0) (ty := .int) (C := R_KeyMaker) (T := F_KeyMaker) (N := 13) hx hb hts hi_KeyMaker t_KeyMaker t_KeyMaker_ok n_KeyMaker hown hK hP hD hS 0 rfl rfl 12 (by decide) (hts _ tw_93) (fun _ h9 => h9) rfl (by decide +kernel) rfl rfl (Nat.le_of_ble_eq_true rfl) d_KeyMaker_forgetAll_27 (fun H locs hP hD hS => ?_)
  have hP : va_P G classes [(q 0, .inr (2, [.ref (q 1), .ref (q 2), .ref (q 3), .ref (q 4), .ref (q 5), .ref (q 6), .ref (q 9), .int 0, .int 0, .int 0, .int 0, .int 0, .int 0]))] H := hP
  have hD : va_D A [(q 0, .inr (2, [.ref (q 1), .ref (q 2), .ref (q 3), .ref (q 4), .ref (q 5), .ref (q 6), .ref (q 9), .int 0, .int 0, .int 0, .int 0, .int 0, .int 0]))] := hD
  exact xe_v (()) hx hb hr hlk hK (trivial) hP hD hS d_KeyMaker_forgetAll_30 (by decide) (by decide)
set_option maxHeartbeats 4000000 in
set_option maxRecDepth 100000 in
theorem c_fold (l : Launch) (G : va_G) (cI cB : ClassId) (tK tH sz : Nat) (q : Nat → Nat) (x0 x1 x2 x3 x5 : Int32) (e : Nat) (k lm : Nat → Int32) (he : e < 4) : xMv l G cI cB tK tH y_KeyMaker_foldLastMark b_KeyMaker_foldLastMark 3 none ({ frames := 0, cells := 0, slots := 0, locals := 0 }) [.ref (q 0)] sz [(q 0, .inr (2, [.ref (q 1), .ref (q 2), .ref (q 3), .ref (q 4), .ref (q 5), .ref (q 6), .ref (q 9), .int x0, .int x1, .int x2, .int x3, .int (nI e), .int x5])), (q 3, .inl (cI, 128, .inl k)), (q 4, .inl (cI, 32, .inl lm))] (fun _ => True) (fun u : Unit => [(q 0, .inr (2, [.ref (q 1), .ref (q 2), .ref (q 3), .ref (q 4), .ref (q 5), .ref (q 6), .ref (q 9), .int x0, .int x1, .int x2, .int x3, .int (nI e), .int x5])), (q 3, .inl (cI, 128, .inl (km_fo k lm e 32))), (q 4, .inl (cI, 32, .inl lm))]) := by
  refine xMv.of (lv := [(0, .ref (q 0))]) (by decide) (Nat.le_of_ble_eq_true rfl) rfl ?_
  intro pp ee ss mm bel met cod A ls H locs hx hb hml hr hlk hts hown hnm hA hK hst hP hD hS hl
  have hown : ss.vm.findClass R_KeyMaker = some mm.cls := hown
  refine lv_aload_n hx hb d_KeyMaker_foldLastMark_0 rfl (lv_at hl 0 rfl) ?_
  refine va_get (D := G) (ci := 2) (v := .int (nI e)) (C := R_KeyMaker) (T := F_KeyMaker) (N := 13) hx hb hts hi_KeyMaker hown hK hP 0 rfl rfl 11 (by decide) (hts _ tw_92) (fun _ h9 => h9) rfl d_KeyMaker_foldLastMark_1 ?_
  refine lv_bipush (v := 32) hx hb d_KeyMaker_foldLastMark_4 (by decide) ?_
  refine lv_imul hx hb d_KeyMaker_foldLastMark_6 ?_
  refine lv_topi (fun y1 ey1 => ?_)
  obtain rfl : y1 = nI (e * 32) := ey1.trans (pk_mul e 32)
  refine lv_istore_n (lv' := [(1, .int (nI (e * 32))), (0, .ref (q 0))]) hx hb d_KeyMaker_foldLastMark_7 rfl hl (by decide) rfl (fun ls hl => ?_)
  have hP := xp_fun hP 1 (km_fo k lm e 0) rfl (fun j _ => km_fo_0 _ _ _ j)
  have hD := hD.set (p := 1) (e := .inl (cI, 128, .inl (km_fo k lm e 0))) rfl
  have hP : va_P G classes [(q 0, .inr (2, [.ref (q 1), .ref (q 2), .ref (q 3), .ref (q 4), .ref (q 5), .ref (q 6), .ref (q 9), .int x0, .int x1, .int x2, .int x3, .int (nI e), .int x5])), (q 3, .inl (cI, 128, .inl (km_fo k lm e 0))), (q 4, .inl (cI, 32, .inl lm))] H := hP
  have hD : va_D A [(q 0, .inr (2, [.ref (q 1), .ref (q 2), .ref (q 3), .ref (q 4), .ref (q 5), .ref (q 6), .ref (q 9), .int x0, .int x1, .int x2, .int x3, .int (nI e), .int x5])), (q 3, .inl (cI, 128, .inl (km_fo k lm e 0))), (q 4, .inl (cI, 32, .inl lm))] := hD
  refine lv_iconst (v := 0) hx hb d_KeyMaker_foldLastMark_8 (by decide) ?_
  refine lv_istore_n (lv' := [(2, .int 0), (1, .int (nI (e * 32))), (0, .ref (q 0))]) hx hb d_KeyMaker_foldLastMark_9 rfl hl (by decide) rfl (fun ls hl => ?_)
  refine xl (pc := 10) (I := fun NN ls H locs => ∃ (i : Nat), 32 - i = NN ∧ lv_has ls 3 [(2, .int (nI i)), (1, .int (nI (e * 32))), (0, .ref (q 0))] ∧ va_P G classes [(q 0, .inr (2, [.ref (q 1), .ref (q 2), .ref (q 3), .ref (q 4), .ref (q 5), .ref (q 6), .ref (q 9), .int x0, .int x1, .int x2, .int x3, .int (nI e), .int x5])), (q 3, .inl (cI, 128, .inl (km_fo k lm e i))), (q 4, .inl (cI, 32, .inl lm))] H ∧ va_D A [(q 0, .inr (2, [.ref (q 1), .ref (q 2), .ref (q 3), .ref (q 4), .ref (q 5), .ref (q 6), .ref (q 9), .int x0, .int x1, .int x2, .int x3, .int (nI e), .int x5])), (q 3, .inl (cI, 128, .inl (km_fo k lm e i))), (q 4, .inl (cI, 32, .inl lm))] ∧ va_S A ss.heap H locs ∧ (i ≤ 32)) [] ?_ _ _ _ _ ⟨0, rfl, lv_sub hl [0, 1, 2] rfl, hP, hD, hS, by omega⟩
  intro NN ih10 ls H locs hI
  obtain ⟨i, hN, hl, hP, hD, hS, hi⟩ := hI
  refine lv_iload_n hx hb d_KeyMaker_foldLastMark_10 rfl (lv_at hl 0 rfl) ?_
  refine lv_bipush (v := 32) hx hb d_KeyMaker_foldLastMark_11 (by decide) ?_
  refine lv_icmp_ge (tgt := 39) hx hb d_KeyMaker_foldLastMark_13 (by decide) (fun hc2 => ?_) (fun hc2 => ?_)
  · have hc2 : 32 ≤ i := (nI_leI (a := 32) (b := i) (by omega) (by omega)).mp hc2
    obtain rfl : i = 32 := by omega
    exact xe_v (()) hx hb hr hlk hK (trivial) hP hD hS d_KeyMaker_foldLastMark_39 (by decide) (by decide)
  · have hc2 : ¬ 32 ≤ i := fun z => hc2 ((nI_leI (a := 32) (b := i) (by omega) (by omega)).mpr z)
    refine lv_aload_n hx hb d_KeyMaker_foldLastMark_16 rfl (lv_at hl 2 rfl) ?_
    refine va_get (D := G) (ci := 2) (v := .ref (q 3)) (C := R_KeyMaker) (T := F_KeyMaker) (N := 13) hx hb hts hi_KeyMaker hown hK hP 0 rfl rfl 2 (by decide) (hts _ tw_83) (fun _ h9 => h9) rfl d_KeyMaker_foldLastMark_17 ?_
    refine lv_iload_n hx hb d_KeyMaker_foldLastMark_20 rfl (lv_at hl 1 rfl) ?_
    refine lv_iload_n hx hb d_KeyMaker_foldLastMark_21 rfl (lv_at hl 0 rfl) ?_
    refine lv_iadd hx hb d_KeyMaker_foldLastMark_22 ?_
    refine lv_topi (fun y3 ey3 => ?_)
    obtain rfl : y3 = nI (e * 32 + i) := ey3.trans (nI_add (e * 32) i)
    refine lv_dup2_11 hx hb d_KeyMaker_foldLastMark_23 rfl rfl ?_
    refine xa_iald (k := e * 32 + i) (f := km_fo k lm e i) hx hb hK hP 1 0 rfl rfl (by omega) (by omega) d_KeyMaker_foldLastMark_24 ?_
    refine lv_aload_n hx hb d_KeyMaker_foldLastMark_25 rfl (lv_at hl 2 rfl) ?_
    refine va_get (D := G) (ci := 2) (v := .ref (q 4)) (C := R_KeyMaker) (T := F_KeyMaker) (N := 13) hx hb hts hi_KeyMaker hown hK hP 0 rfl rfl 3 (by decide) (hts _ tw_84) (fun _ h9 => h9) rfl d_KeyMaker_foldLastMark_26 ?_
    refine lv_iload_n hx hb d_KeyMaker_foldLastMark_29 rfl (lv_at hl 0 rfl) ?_
    refine xa_iald (k := i) (f := lm) hx hb hK hP 2 0 rfl rfl (by omega) (by omega) d_KeyMaker_foldLastMark_30 ?_
    refine lv_ixor hx hb d_KeyMaker_foldLastMark_31 ?_
    refine xa_iast (k := e * 32 + i) (f := km_fo k lm e i) (x := ((km_fo k lm e i) (e * 32 + i)) ^^^ (lm i)) hx hb hK hP hD hS 1 0 rfl rfl (by omega) (by omega) d_KeyMaker_foldLastMark_32 (fun H locs hP hD hS => ?_)
    have hP : va_P G classes [(q 0, .inr (2, [.ref (q 1), .ref (q 2), .ref (q 3), .ref (q 4), .ref (q 5), .ref (q 6), .ref (q 9), .int x0, .int x1, .int x2, .int x3, .int (nI e), .int x5])), (q 3, .inl (cI, 128, .inl (upd (km_fo k lm e i) (e * 32 + i) (((km_fo k lm e i) (e * 32 + i)) ^^^ (lm i))))), (q 4, .inl (cI, 32, .inl lm))] H := hP
    have hD : va_D A [(q 0, .inr (2, [.ref (q 1), .ref (q 2), .ref (q 3), .ref (q 4), .ref (q 5), .ref (q 6), .ref (q 9), .int x0, .int x1, .int x2, .int x3, .int (nI e), .int x5])), (q 3, .inl (cI, 128, .inl (upd (km_fo k lm e i) (e * 32 + i) (((km_fo k lm e i) (e * 32 + i)) ^^^ (lm i))))), (q 4, .inl (cI, 32, .inl lm))] := hD
    have hP := xp_fun hP 1 (km_fo k lm e (i + 1)) rfl (fun j _ => km_fo_next _ _ _ i j)
    have hD := hD.set (p := 1) (e := .inl (cI, 128, .inl (km_fo k lm e (i + 1)))) rfl
    have hP : va_P G classes [(q 0, .inr (2, [.ref (q 1), .ref (q 2), .ref (q 3), .ref (q 4), .ref (q 5), .ref (q 6), .ref (q 9), .int x0, .int x1, .int x2, .int x3, .int (nI e), .int x5])), (q 3, .inl (cI, 128, .inl (km_fo k lm e (i + 1)))), (q 4, .inl (cI, 32, .inl lm))] H := hP
    have hD : va_D A [(q 0, .inr (2, [.ref (q 1), .ref (q 2), .ref (q 3), .ref (q 4), .ref (q 5), .ref (q 6), .ref (q 9), .int x0, .int x1, .int x2, .int x3, .int (nI e), .int x5])), (q 3, .inl (cI, 128, .inl (km_fo k lm e (i + 1)))), (q 4, .inl (cI, 32, .inl lm))] := hD
    refine lv_iinc (k := 0) (v := nI (i + 1)) (lv' := [(2, .int (nI (i + 1))), (1, .int (nI (e * 32))), (0, .ref (q 0))]) hx hb d_KeyMaker_foldLastMark_33 hl rfl (nI_1 i) (by decide) rfl (fun ls hl => ?_)
    refine lv_goto (tgt := 10) hx hb d_KeyMaker_foldLastMark_36 (by decide) ?_
    exact ih10 _ (by omega) _ _ _ ⟨i + 1, rfl, lv_sub hl [0, 1, 2] rfl, hP, hD, hS, by omega⟩
set_option maxHeartbeats 4000000 in
set_option maxRecDepth 100000 in
theorem c_turn (l : Launch) (G : va_G) (cI cB : ClassId) (tK tH sz : Nat) (q : Nat → Nat) (p s : Nat → Int32) (np ns c w d : Nat) (f1 lm f wd i : Nat → Int32) (tk : Int32) (hAb : kA_ok (p, np, s, ns, c, w, d)) (hd : d < kt_all c w) (hf1 : ∀ j, j < ns → f1 j = s j) (hlm : 0 < d → ∀ j, j < 32 → lm j = km_U p np s ns c d j) : xMv l G cI cB tK tH y_KeyMaker_turn b_KeyMaker_turn 1 none ({ frames := 6, cells := 0, slots := 0, locals := 143 }) [.ref (q 0)] sz [(q 0, .inr (2, [.ref (q 1), .ref (q 2), .ref (q 3), .ref (q 4), .ref (q 5), .ref (q 6), .ref (q 9), .int (nI np), .int (nI ns), .int (nI w), .int (nI c), .int (nI (d / c)), .int (nI (d % c))])), (q 2, .inl (cI, 84, .inl f1)), (q 3, .inl (cI, 128, .inl (km_K p np s ns c d))), (q 4, .inl (cI, 32, .inl lm)), (q 9, .inr (0, [.ref (q 10), .ref (q 13), .ref (q 14), .ref (q 15), .ref (q 16), .ref (q 17)])), (q 10, .inr (1, [.ref (q 11), .ref (q 12), .int tk])), (q 11, .inl (cI, 8, .inl f)), (q 12, .inl (cI, 64, .inl wd)), (q 15, .inl (cI, 32, .inl i)), (q 16, .inl (cI, 8, .inl (km_h (km_kx p np 54) 1))), (q 17, .inl (cI, 8, .inl (km_h (km_kx p np 92) 1)))] (fun u => ∀ j, j < ns → u.1 j = s j) (fun u : (Nat → Int32) × (Nat → Int32) × (Nat → Int32) × Int32 × (Nat → Int32) => [(q 0, .inr (2, [.ref (q 1), .ref (q 2), .ref (q 3), .ref (q 4), .ref (q 5), .ref (q 6), .ref (q 9), .int (nI np), .int (nI ns), .int (nI w), .int (nI c), .int (nI ((d + 1) / c)), .int (nI ((d + 1) % c))])), (q 2, .inl (cI, 84, .inl u.1)), (q 3, .inl (cI, 128, .inl (km_K p np s ns c (d + 1)))), (q 4, .inl (cI, 32, .inl (km_U p np s ns c (d + 1)))), (q 9, .inr (0, [.ref (q 10), .ref (q 13), .ref (q 14), .ref (q 15), .ref (q 16), .ref (q 17)])), (q 10, .inr (1, [.ref (q 11), .ref (q 12), .int u.2.2.2.1])), (q 11, .inl (cI, 8, .inl u.2.1)), (q 12, .inl (cI, 64, .inl u.2.2.1)), (q 15, .inl (cI, 32, .inl u.2.2.2.2)), (q 16, .inl (cI, 8, .inl (km_h (km_kx p np 54) 1))), (q 17, .inl (cI, 8, .inl (km_h (km_kx p np 92) 1)))]) := by
  refine xMv.of (lv := [(0, .ref (q 0))]) (by decide) (Nat.le_of_ble_eq_true rfl) rfl ?_
  intro pp ee ss mm bel met cod A ls H locs hx hb hml hr hlk hts hown hnm hA hK hst hP hD hS hl
  have hown : ss.vm.findClass R_KeyMaker = some mm.cls := hown
  obtain ⟨hA1, hA2, hA3, hA4, hA5, hA6, hA7, hA8, hA9⟩ := hAb
  have hw0 : 0 < w := by
    rcases Nat.eq_zero_or_pos w with z | z
    · rw [z, kt_all_0] at hd; omega
    · exact z
  have hc0 := hA8 hw0
  have hpt := kt_part hd
  have hmod := Nat.mod_lt d hc0
  refine lv_aload_n hx hb d_KeyMaker_turn_0 rfl (lv_at hl 0 rfl) ?_
  refine va_get (D := G) (ci := 2) (v := .int (nI (d % c))) (C := R_KeyMaker) (T := F_KeyMaker) (N := 13) hx hb hts hi_KeyMaker hown hK hP 0 rfl rfl 12 (by decide) (hts _ tw_93) (fun _ h9 => h9) rfl d_KeyMaker_turn_1 ?_
  refine lv_if_ne (tgt := 48) hx hb d_KeyMaker_turn_4 (by decide) (fun hc => ?_) (fun hc => ?_)
  · have hc : ¬ (d % c) = 0 := fun z => hc ((nI_eq (a := (d % c)) (b := 0) (by omega) (by omega)).mpr z)
    refine lv_aload_n hx hb d_KeyMaker_turn_48 rfl (lv_at hl 0 rfl) ?_
    refine va_get (D := G) (ci := 2) (v := .ref (q 9)) (C := R_KeyMaker) (T := F_KeyMaker) (N := 13) hx hb hts hi_KeyMaker hown hK hP 0 rfl rfl 6 (by decide) (hts _ tw_87) (fun _ h9 => h9) rfl d_KeyMaker_turn_49 ?_
    refine lv_aload_n hx hb d_KeyMaker_turn_52 rfl (lv_at hl 0 rfl) ?_
    refine va_get (D := G) (ci := 2) (v := .ref (q 4)) (C := R_KeyMaker) (T := F_KeyMaker) (N := 13) hx hb hts hi_KeyMaker hown hK hP 0 rfl rfl 3 (by decide) (hts _ tw_84) (fun _ h9 => h9) rfl d_KeyMaker_turn_53 ?_
    refine lv_bipush (v := 32) hx hb d_KeyMaker_turn_56 (by decide) ?_
    refine lv_aload_n hx hb d_KeyMaker_turn_58 rfl (lv_at hl 0 rfl) ?_
    refine va_get (D := G) (ci := 2) (v := .ref (q 4)) (C := R_KeyMaker) (T := F_KeyMaker) (N := 13) hx hb hts hi_KeyMaker hown hK hP 0 rfl rfl 3 (by decide) (hts _ tw_84) (fun _ h9 => h9) rfl d_KeyMaker_turn_59 ?_
    refine xc_v (wr := [(q 0, .inr (2, [.ref (q 1), .ref (q 2), .ref (q 3), .ref (q 4), .ref (q 5), .ref (q 6), .ref (q 9), .int (nI np), .int (nI ns), .int (nI w), .int (nI c), .int (nI (d / c)), .int (nI (d % c))])), (q 2, .inl (cI, 84, .inl f1)), (q 3, .inl (cI, 128, .inl (km_K p np s ns c d)))]) (va_runV (As := [.ref (q 4), .int 32, .ref (q 4)]) (rest := []) ⟨hx, hb, hml, hown, hts⟩ (c_markB l G cI cB tK tH H.size (q 9) (q 10) (q 11) (q 12) (q 13) (q 14) (q 15) (q 16) (q 17) (q 4) f wd i p lm tk np 32 (by omega) hA3 (kr_eq (hlm (kt_pos hc)) (fun j _ => km_U_kr _ _ _ _ _ _ _)) (by omega)) (cwV 3 hts (xg_V tw_230 tw_231 tw_232 tw_19 tw_233) rfl rfl rfl (by decide +kernel) ⟨Nat.le_of_ble_eq_true rfl, Nat.le_of_ble_eq_true rfl⟩) (xc_preV hK hst hA hP hD hS [4, 5, 6, 7, 8, 9, 10, 3] (by decide) rfl 4 rfl rfl) rfl rfl hl.1 rfl (lv_room (Nat.le_of_ble_eq_true rfl)) d_KeyMaker_turn_62 ⟨Nat.le_of_ble_eq_true rfl, Nat.le_of_ble_eq_true rfl⟩) hA hP hD hS [4, 5, 6, 7, 8, 9, 10, 3] [0, 1, 2] rfl rfl (by decide) (by decide) (fun u1 H locs hp2 hP hD hS => ?_)
    obtain ⟨f2, w2, tk2, i2⟩ := u1
    have hP : va_P G classes [(q 0, .inr (2, [.ref (q 1), .ref (q 2), .ref (q 3), .ref (q 4), .ref (q 5), .ref (q 6), .ref (q 9), .int (nI np), .int (nI ns), .int (nI w), .int (nI c), .int (nI (d / c)), .int (nI (d % c))])), (q 2, .inl (cI, 84, .inl f1)), (q 3, .inl (cI, 128, .inl (km_K p np s ns c d))), (q 9, .inr (0, [.ref (q 10), .ref (q 13), .ref (q 14), .ref (q 15), .ref (q 16), .ref (q 17)])), (q 10, .inr (1, [.ref (q 11), .ref (q 12), .int tk2])), (q 11, .inl (cI, 8, .inl f2)), (q 12, .inl (cI, 64, .inl w2)), (q 15, .inl (cI, 32, .inl i2)), (q 16, .inl (cI, 8, .inl (km_h (km_kx p np 54) 1))), (q 17, .inl (cI, 8, .inl (km_h (km_kx p np 92) 1))), (q 4, .inl (cI, 32, .inl (km_mk p np lm 32)))] H := hP
    have hD : va_D A [(q 0, .inr (2, [.ref (q 1), .ref (q 2), .ref (q 3), .ref (q 4), .ref (q 5), .ref (q 6), .ref (q 9), .int (nI np), .int (nI ns), .int (nI w), .int (nI c), .int (nI (d / c)), .int (nI (d % c))])), (q 2, .inl (cI, 84, .inl f1)), (q 3, .inl (cI, 128, .inl (km_K p np s ns c d))), (q 9, .inr (0, [.ref (q 10), .ref (q 13), .ref (q 14), .ref (q 15), .ref (q 16), .ref (q 17)])), (q 10, .inr (1, [.ref (q 11), .ref (q 12), .int tk2])), (q 11, .inl (cI, 8, .inl f2)), (q 12, .inl (cI, 64, .inl w2)), (q 15, .inl (cI, 32, .inl i2)), (q 16, .inl (cI, 8, .inl (km_h (km_kx p np 54) 1))), (q 17, .inl (cI, 8, .inl (km_h (km_kx p np 92) 1))), (q 4, .inl (cI, 32, .inl (km_mk p np lm 32)))] := hD
    have hP := xp_fun hP 10 (km_U p np s ns c (d + 1)) rfl (fun j _ => km_U_b hc (hlm (kt_pos hc)) j)
    have hD := hD.set (p := 10) (e := .inl (cI, 32, .inl (km_U p np s ns c (d + 1)))) rfl
    have hP : va_P G classes [(q 0, .inr (2, [.ref (q 1), .ref (q 2), .ref (q 3), .ref (q 4), .ref (q 5), .ref (q 6), .ref (q 9), .int (nI np), .int (nI ns), .int (nI w), .int (nI c), .int (nI (d / c)), .int (nI (d % c))])), (q 2, .inl (cI, 84, .inl f1)), (q 3, .inl (cI, 128, .inl (km_K p np s ns c d))), (q 9, .inr (0, [.ref (q 10), .ref (q 13), .ref (q 14), .ref (q 15), .ref (q 16), .ref (q 17)])), (q 10, .inr (1, [.ref (q 11), .ref (q 12), .int tk2])), (q 11, .inl (cI, 8, .inl f2)), (q 12, .inl (cI, 64, .inl w2)), (q 15, .inl (cI, 32, .inl i2)), (q 16, .inl (cI, 8, .inl (km_h (km_kx p np 54) 1))), (q 17, .inl (cI, 8, .inl (km_h (km_kx p np 92) 1))), (q 4, .inl (cI, 32, .inl (km_U p np s ns c (d + 1))))] H := hP
    have hD : va_D A [(q 0, .inr (2, [.ref (q 1), .ref (q 2), .ref (q 3), .ref (q 4), .ref (q 5), .ref (q 6), .ref (q 9), .int (nI np), .int (nI ns), .int (nI w), .int (nI c), .int (nI (d / c)), .int (nI (d % c))])), (q 2, .inl (cI, 84, .inl f1)), (q 3, .inl (cI, 128, .inl (km_K p np s ns c d))), (q 9, .inr (0, [.ref (q 10), .ref (q 13), .ref (q 14), .ref (q 15), .ref (q 16), .ref (q 17)])), (q 10, .inr (1, [.ref (q 11), .ref (q 12), .int tk2])), (q 11, .inl (cI, 8, .inl f2)), (q 12, .inl (cI, 64, .inl w2)), (q 15, .inl (cI, 32, .inl i2)), (q 16, .inl (cI, 8, .inl (km_h (km_kx p np 54) 1))), (q 17, .inl (cI, 8, .inl (km_h (km_kx p np 92) 1))), (q 4, .inl (cI, 32, .inl (km_U p np s ns c (d + 1))))] := hD
    refine lv_aload_n hx hb d_KeyMaker_turn_65 rfl (lv_at hl 0 rfl) ?_
    refine xc_v (wr := [(q 2, .inl (cI, 84, .inl f1)), (q 9, .inr (0, [.ref (q 10), .ref (q 13), .ref (q 14), .ref (q 15), .ref (q 16), .ref (q 17)])), (q 10, .inr (1, [.ref (q 11), .ref (q 12), .int tk2])), (q 11, .inl (cI, 8, .inl f2)), (q 12, .inl (cI, 64, .inl w2)), (q 15, .inl (cI, 32, .inl i2)), (q 16, .inl (cI, 8, .inl (km_h (km_kx p np 54) 1))), (q 17, .inl (cI, 8, .inl (km_h (km_kx p np 92) 1)))]) (va_runV (As := []) (rest := []) ⟨hx, hb, hml, hown, hts⟩ (c_fold l G cI cB tK tH H.size q (nI np) (nI ns) (nI w) (nI c) (nI (d % c)) (d / c) (km_K p np s ns c d) (km_U p np s ns c (d + 1)) (by omega)) (cwV 0 hts (xg_V tw_239 tw_241 tw_8 tw_17 tw_242) rfl rfl rfl (by decide +kernel) ⟨Nat.le_of_ble_eq_true rfl, Nat.le_of_ble_eq_true rfl⟩) (xc_preV hK hst hA hP hD hS [0, 2, 10] (by decide) rfl 0 rfl rfl) rfl rfl hl.1 rfl (lv_room (Nat.le_of_ble_eq_true rfl)) d_KeyMaker_turn_66 ⟨Nat.le_of_ble_eq_true rfl, Nat.le_of_ble_eq_true rfl⟩) hA hP hD hS [0, 2, 10] [1, 3, 4, 5, 6, 7, 8, 9] rfl rfl (by decide) (by decide) (fun u4 H locs hp5 hP hD hS => ?_)
    have hP : va_P G classes [(q 2, .inl (cI, 84, .inl f1)), (q 9, .inr (0, [.ref (q 10), .ref (q 13), .ref (q 14), .ref (q 15), .ref (q 16), .ref (q 17)])), (q 10, .inr (1, [.ref (q 11), .ref (q 12), .int tk2])), (q 11, .inl (cI, 8, .inl f2)), (q 12, .inl (cI, 64, .inl w2)), (q 15, .inl (cI, 32, .inl i2)), (q 16, .inl (cI, 8, .inl (km_h (km_kx p np 54) 1))), (q 17, .inl (cI, 8, .inl (km_h (km_kx p np 92) 1))), (q 0, .inr (2, [.ref (q 1), .ref (q 2), .ref (q 3), .ref (q 4), .ref (q 5), .ref (q 6), .ref (q 9), .int (nI np), .int (nI ns), .int (nI w), .int (nI c), .int (nI (d / c)), .int (nI (d % c))])), (q 3, .inl (cI, 128, .inl (km_fo (km_K p np s ns c d) (km_U p np s ns c (d + 1)) (d / c) 32))), (q 4, .inl (cI, 32, .inl (km_U p np s ns c (d + 1))))] H := hP
    have hD : va_D A [(q 2, .inl (cI, 84, .inl f1)), (q 9, .inr (0, [.ref (q 10), .ref (q 13), .ref (q 14), .ref (q 15), .ref (q 16), .ref (q 17)])), (q 10, .inr (1, [.ref (q 11), .ref (q 12), .int tk2])), (q 11, .inl (cI, 8, .inl f2)), (q 12, .inl (cI, 64, .inl w2)), (q 15, .inl (cI, 32, .inl i2)), (q 16, .inl (cI, 8, .inl (km_h (km_kx p np 54) 1))), (q 17, .inl (cI, 8, .inl (km_h (km_kx p np 92) 1))), (q 0, .inr (2, [.ref (q 1), .ref (q 2), .ref (q 3), .ref (q 4), .ref (q 5), .ref (q 6), .ref (q 9), .int (nI np), .int (nI ns), .int (nI w), .int (nI c), .int (nI (d / c)), .int (nI (d % c))])), (q 3, .inl (cI, 128, .inl (km_fo (km_K p np s ns c d) (km_U p np s ns c (d + 1)) (d / c) 32))), (q 4, .inl (cI, 32, .inl (km_U p np s ns c (d + 1))))] := hD
    have hP := xp_fun hP 9 (km_K p np s ns c (d + 1)) rfl (fun j _ => km_K_next _ _ _ _ _ d j)
    have hD := hD.set (p := 9) (e := .inl (cI, 128, .inl (km_K p np s ns c (d + 1)))) rfl
    have hP : va_P G classes [(q 2, .inl (cI, 84, .inl f1)), (q 9, .inr (0, [.ref (q 10), .ref (q 13), .ref (q 14), .ref (q 15), .ref (q 16), .ref (q 17)])), (q 10, .inr (1, [.ref (q 11), .ref (q 12), .int tk2])), (q 11, .inl (cI, 8, .inl f2)), (q 12, .inl (cI, 64, .inl w2)), (q 15, .inl (cI, 32, .inl i2)), (q 16, .inl (cI, 8, .inl (km_h (km_kx p np 54) 1))), (q 17, .inl (cI, 8, .inl (km_h (km_kx p np 92) 1))), (q 0, .inr (2, [.ref (q 1), .ref (q 2), .ref (q 3), .ref (q 4), .ref (q 5), .ref (q 6), .ref (q 9), .int (nI np), .int (nI ns), .int (nI w), .int (nI c), .int (nI (d / c)), .int (nI (d % c))])), (q 3, .inl (cI, 128, .inl (km_K p np s ns c (d + 1)))), (q 4, .inl (cI, 32, .inl (km_U p np s ns c (d + 1))))] H := hP
    have hD : va_D A [(q 2, .inl (cI, 84, .inl f1)), (q 9, .inr (0, [.ref (q 10), .ref (q 13), .ref (q 14), .ref (q 15), .ref (q 16), .ref (q 17)])), (q 10, .inr (1, [.ref (q 11), .ref (q 12), .int tk2])), (q 11, .inl (cI, 8, .inl f2)), (q 12, .inl (cI, 64, .inl w2)), (q 15, .inl (cI, 32, .inl i2)), (q 16, .inl (cI, 8, .inl (km_h (km_kx p np 54) 1))), (q 17, .inl (cI, 8, .inl (km_h (km_kx p np 92) 1))), (q 0, .inr (2, [.ref (q 1), .ref (q 2), .ref (q 3), .ref (q 4), .ref (q 5), .ref (q 6), .ref (q 9), .int (nI np), .int (nI ns), .int (nI w), .int (nI c), .int (nI (d / c)), .int (nI (d % c))])), (q 3, .inl (cI, 128, .inl (km_K p np s ns c (d + 1)))), (q 4, .inl (cI, 32, .inl (km_U p np s ns c (d + 1))))] := hD
    refine lv_aload_n hx hb d_KeyMaker_turn_69 rfl (lv_at hl 0 rfl) ?_
    refine lv_dup hx hb d_KeyMaker_turn_70 rfl ?_
    refine va_get (D := G) (ci := 2) (v := .int (nI (d % c))) (C := R_KeyMaker) (T := F_KeyMaker) (N := 13) hx hb hts hi_KeyMaker hown hK hP 8 rfl rfl 12 (by decide) (hts _ tw_93) (fun _ h9 => h9) rfl d_KeyMaker_turn_71 ?_
    refine lv_iconst (v := 1) hx hb d_KeyMaker_turn_74 (by decide) ?_
    refine lv_iadd hx hb d_KeyMaker_turn_75 ?_
    refine lv_topi (fun y7 ey7 => ?_)
    obtain rfl : y7 = nI (d % c + 1) := ey7.trans (nI_add (d % c) 1)
    refine va_put (D := G) (ci := 2) (v := .int (nI (d % c + 1))) (ty := .int) (C := R_KeyMaker) (T := F_KeyMaker) (N := 13) hx hb hts hi_KeyMaker t_KeyMaker t_KeyMaker_ok n_KeyMaker hown hK hP hD hS 8 rfl rfl 12 (by decide) (hts _ tw_93) (fun _ h9 => h9) rfl (by decide +kernel) rfl rfl (Nat.le_of_ble_eq_true rfl) d_KeyMaker_turn_76 (fun H locs hP hD hS => ?_)
    have hP : va_P G classes [(q 2, .inl (cI, 84, .inl f1)), (q 9, .inr (0, [.ref (q 10), .ref (q 13), .ref (q 14), .ref (q 15), .ref (q 16), .ref (q 17)])), (q 10, .inr (1, [.ref (q 11), .ref (q 12), .int tk2])), (q 11, .inl (cI, 8, .inl f2)), (q 12, .inl (cI, 64, .inl w2)), (q 15, .inl (cI, 32, .inl i2)), (q 16, .inl (cI, 8, .inl (km_h (km_kx p np 54) 1))), (q 17, .inl (cI, 8, .inl (km_h (km_kx p np 92) 1))), (q 0, .inr (2, [.ref (q 1), .ref (q 2), .ref (q 3), .ref (q 4), .ref (q 5), .ref (q 6), .ref (q 9), .int (nI np), .int (nI ns), .int (nI w), .int (nI c), .int (nI (d / c)), .int (nI (d % c + 1))])), (q 3, .inl (cI, 128, .inl (km_K p np s ns c (d + 1)))), (q 4, .inl (cI, 32, .inl (km_U p np s ns c (d + 1))))] H := hP
    have hD : va_D A [(q 2, .inl (cI, 84, .inl f1)), (q 9, .inr (0, [.ref (q 10), .ref (q 13), .ref (q 14), .ref (q 15), .ref (q 16), .ref (q 17)])), (q 10, .inr (1, [.ref (q 11), .ref (q 12), .int tk2])), (q 11, .inl (cI, 8, .inl f2)), (q 12, .inl (cI, 64, .inl w2)), (q 15, .inl (cI, 32, .inl i2)), (q 16, .inl (cI, 8, .inl (km_h (km_kx p np 54) 1))), (q 17, .inl (cI, 8, .inl (km_h (km_kx p np 92) 1))), (q 0, .inr (2, [.ref (q 1), .ref (q 2), .ref (q 3), .ref (q 4), .ref (q 5), .ref (q 6), .ref (q 9), .int (nI np), .int (nI ns), .int (nI w), .int (nI c), .int (nI (d / c)), .int (nI (d % c + 1))])), (q 3, .inl (cI, 128, .inl (km_K p np s ns c (d + 1)))), (q 4, .inl (cI, 32, .inl (km_U p np s ns c (d + 1))))] := hD
    refine lv_aload_n hx hb d_KeyMaker_turn_79 rfl (lv_at hl 0 rfl) ?_
    refine va_get (D := G) (ci := 2) (v := .int (nI (d % c + 1))) (C := R_KeyMaker) (T := F_KeyMaker) (N := 13) hx hb hts hi_KeyMaker hown hK hP 8 rfl rfl 12 (by decide) (hts _ tw_93) (fun _ h9 => h9) rfl d_KeyMaker_turn_80 ?_
    refine lv_aload_n hx hb d_KeyMaker_turn_83 rfl (lv_at hl 0 rfl) ?_
    refine va_get (D := G) (ci := 2) (v := .int (nI c)) (C := R_KeyMaker) (T := F_KeyMaker) (N := 13) hx hb hts hi_KeyMaker hown hK hP 8 rfl rfl 10 (by decide) (hts _ tw_91) (fun _ h9 => h9) rfl d_KeyMaker_turn_84 ?_
    refine lv_icmp_ne (tgt := 105) hx hb d_KeyMaker_turn_87 (by decide) (fun he => ?_) (fun he => ?_)
    · have he : ¬ (d % c + 1) = c := fun z => he ((nI_eq (a := (d % c + 1)) (b := c) (by omega) (by omega)).mpr z)
      obtain ⟨e1, e2⟩ := kt_same (d := d) hc0 (by omega)
      have hP : va_P G classes [(q 2, .inl (cI, 84, .inl f1)), (q 9, .inr (0, [.ref (q 10), .ref (q 13), .ref (q 14), .ref (q 15), .ref (q 16), .ref (q 17)])), (q 10, .inr (1, [.ref (q 11), .ref (q 12), .int tk2])), (q 11, .inl (cI, 8, .inl f2)), (q 12, .inl (cI, 64, .inl w2)), (q 15, .inl (cI, 32, .inl i2)), (q 16, .inl (cI, 8, .inl (km_h (km_kx p np 54) 1))), (q 17, .inl (cI, 8, .inl (km_h (km_kx p np 92) 1))), (q 0, .inr (2, [.ref (q 1), .ref (q 2), .ref (q 3), .ref (q 4), .ref (q 5), .ref (q 6), .ref (q 9), .int (nI np), .int (nI ns), .int (nI w), .int (nI c), .int (nI ((d + 1) / c)), .int (nI ((d + 1) % c))])), (q 3, .inl (cI, 128, .inl (km_K p np s ns c (d + 1)))), (q 4, .inl (cI, 32, .inl (km_U p np s ns c (d + 1))))] H := by rw [e1, e2]; exact hP
      have hD : va_D A [(q 2, .inl (cI, 84, .inl f1)), (q 9, .inr (0, [.ref (q 10), .ref (q 13), .ref (q 14), .ref (q 15), .ref (q 16), .ref (q 17)])), (q 10, .inr (1, [.ref (q 11), .ref (q 12), .int tk2])), (q 11, .inl (cI, 8, .inl f2)), (q 12, .inl (cI, 64, .inl w2)), (q 15, .inl (cI, 32, .inl i2)), (q 16, .inl (cI, 8, .inl (km_h (km_kx p np 54) 1))), (q 17, .inl (cI, 8, .inl (km_h (km_kx p np 92) 1))), (q 0, .inr (2, [.ref (q 1), .ref (q 2), .ref (q 3), .ref (q 4), .ref (q 5), .ref (q 6), .ref (q 9), .int (nI np), .int (nI ns), .int (nI w), .int (nI c), .int (nI ((d + 1) / c)), .int (nI ((d + 1) % c))])), (q 3, .inl (cI, 128, .inl (km_K p np s ns c (d + 1)))), (q 4, .inl (cI, 32, .inl (km_U p np s ns c (d + 1))))] := by rw [e1, e2]; exact hD
      exact xe_v (f1, f2, w2, tk2, i2) hx hb hr hlk hK (hf1) (hP.sub (ws' := [(q 0, .inr (2, [.ref (q 1), .ref (q 2), .ref (q 3), .ref (q 4), .ref (q 5), .ref (q 6), .ref (q 9), .int (nI np), .int (nI ns), .int (nI w), .int (nI c), .int (nI ((d + 1) / c)), .int (nI ((d + 1) % c))])), (q 2, .inl (cI, 84, .inl f1)), (q 3, .inl (cI, 128, .inl (km_K p np s ns c (d + 1)))), (q 4, .inl (cI, 32, .inl (km_U p np s ns c (d + 1)))), (q 9, .inr (0, [.ref (q 10), .ref (q 13), .ref (q 14), .ref (q 15), .ref (q 16), .ref (q 17)])), (q 10, .inr (1, [.ref (q 11), .ref (q 12), .int tk2])), (q 11, .inl (cI, 8, .inl f2)), (q 12, .inl (cI, 64, .inl w2)), (q 15, .inl (cI, 32, .inl i2)), (q 16, .inl (cI, 8, .inl (km_h (km_kx p np 54) 1))), (q 17, .inl (cI, 8, .inl (km_h (km_kx p np 92) 1)))]) [8, 0, 9, 10, 1, 2, 3, 4, 5, 6, 7] rfl) (hD.sub (ws' := [(q 0, .inr (2, [.ref (q 1), .ref (q 2), .ref (q 3), .ref (q 4), .ref (q 5), .ref (q 6), .ref (q 9), .int (nI np), .int (nI ns), .int (nI w), .int (nI c), .int (nI ((d + 1) / c)), .int (nI ((d + 1) % c))])), (q 2, .inl (cI, 84, .inl f1)), (q 3, .inl (cI, 128, .inl (km_K p np s ns c (d + 1)))), (q 4, .inl (cI, 32, .inl (km_U p np s ns c (d + 1)))), (q 9, .inr (0, [.ref (q 10), .ref (q 13), .ref (q 14), .ref (q 15), .ref (q 16), .ref (q 17)])), (q 10, .inr (1, [.ref (q 11), .ref (q 12), .int tk2])), (q 11, .inl (cI, 8, .inl f2)), (q 12, .inl (cI, 64, .inl w2)), (q 15, .inl (cI, 32, .inl i2)), (q 16, .inl (cI, 8, .inl (km_h (km_kx p np 54) 1))), (q 17, .inl (cI, 8, .inl (km_h (km_kx p np 92) 1)))]) [8, 0, 9, 10, 1, 2, 3, 4, 5, 6, 7] (by decide) rfl) hS d_KeyMaker_turn_105 (by decide) (by decide)
    · have he : (d % c + 1) = c := (nI_eq (a := (d % c + 1)) (b := c) (by omega) (by omega)).mp he
      refine lv_aload_n hx hb d_KeyMaker_turn_90 rfl (lv_at hl 0 rfl) ?_
      refine lv_dup hx hb d_KeyMaker_turn_91 rfl ?_
      refine va_get (D := G) (ci := 2) (v := .int (nI (d / c))) (C := R_KeyMaker) (T := F_KeyMaker) (N := 13) hx hb hts hi_KeyMaker hown hK hP 8 rfl rfl 11 (by decide) (hts _ tw_92) (fun _ h9 => h9) rfl d_KeyMaker_turn_92 ?_
      refine lv_iconst (v := 1) hx hb d_KeyMaker_turn_95 (by decide) ?_
      refine lv_iadd hx hb d_KeyMaker_turn_96 ?_
      refine lv_topi (fun y8 ey8 => ?_)
      obtain rfl : y8 = nI (d / c + 1) := ey8.trans (nI_add (d / c) 1)
      refine va_put (D := G) (ci := 2) (v := .int (nI (d / c + 1))) (ty := .int) (C := R_KeyMaker) (T := F_KeyMaker) (N := 13) hx hb hts hi_KeyMaker t_KeyMaker t_KeyMaker_ok n_KeyMaker hown hK hP hD hS 8 rfl rfl 11 (by decide) (hts _ tw_92) (fun _ h9 => h9) rfl (by decide +kernel) rfl rfl (Nat.le_of_ble_eq_true rfl) d_KeyMaker_turn_97 (fun H locs hP hD hS => ?_)
      have hP : va_P G classes [(q 2, .inl (cI, 84, .inl f1)), (q 9, .inr (0, [.ref (q 10), .ref (q 13), .ref (q 14), .ref (q 15), .ref (q 16), .ref (q 17)])), (q 10, .inr (1, [.ref (q 11), .ref (q 12), .int tk2])), (q 11, .inl (cI, 8, .inl f2)), (q 12, .inl (cI, 64, .inl w2)), (q 15, .inl (cI, 32, .inl i2)), (q 16, .inl (cI, 8, .inl (km_h (km_kx p np 54) 1))), (q 17, .inl (cI, 8, .inl (km_h (km_kx p np 92) 1))), (q 0, .inr (2, [.ref (q 1), .ref (q 2), .ref (q 3), .ref (q 4), .ref (q 5), .ref (q 6), .ref (q 9), .int (nI np), .int (nI ns), .int (nI w), .int (nI c), .int (nI (d / c + 1)), .int (nI (d % c + 1))])), (q 3, .inl (cI, 128, .inl (km_K p np s ns c (d + 1)))), (q 4, .inl (cI, 32, .inl (km_U p np s ns c (d + 1))))] H := hP
      have hD : va_D A [(q 2, .inl (cI, 84, .inl f1)), (q 9, .inr (0, [.ref (q 10), .ref (q 13), .ref (q 14), .ref (q 15), .ref (q 16), .ref (q 17)])), (q 10, .inr (1, [.ref (q 11), .ref (q 12), .int tk2])), (q 11, .inl (cI, 8, .inl f2)), (q 12, .inl (cI, 64, .inl w2)), (q 15, .inl (cI, 32, .inl i2)), (q 16, .inl (cI, 8, .inl (km_h (km_kx p np 54) 1))), (q 17, .inl (cI, 8, .inl (km_h (km_kx p np 92) 1))), (q 0, .inr (2, [.ref (q 1), .ref (q 2), .ref (q 3), .ref (q 4), .ref (q 5), .ref (q 6), .ref (q 9), .int (nI np), .int (nI ns), .int (nI w), .int (nI c), .int (nI (d / c + 1)), .int (nI (d % c + 1))])), (q 3, .inl (cI, 128, .inl (km_K p np s ns c (d + 1)))), (q 4, .inl (cI, 32, .inl (km_U p np s ns c (d + 1))))] := hD
      refine lv_aload_n hx hb d_KeyMaker_turn_100 rfl (lv_at hl 0 rfl) ?_
      refine lv_iconst (v := 0) hx hb d_KeyMaker_turn_101 (by decide) ?_
      refine va_put (D := G) (ci := 2) (v := .int 0) (ty := .int) (C := R_KeyMaker) (T := F_KeyMaker) (N := 13) hx hb hts hi_KeyMaker t_KeyMaker t_KeyMaker_ok n_KeyMaker hown hK hP hD hS 8 rfl rfl 12 (by decide) (hts _ tw_93) (fun _ h9 => h9) rfl (by decide +kernel) rfl rfl (Nat.le_of_ble_eq_true rfl) d_KeyMaker_turn_102 (fun H locs hP hD hS => ?_)
      have hP : va_P G classes [(q 2, .inl (cI, 84, .inl f1)), (q 9, .inr (0, [.ref (q 10), .ref (q 13), .ref (q 14), .ref (q 15), .ref (q 16), .ref (q 17)])), (q 10, .inr (1, [.ref (q 11), .ref (q 12), .int tk2])), (q 11, .inl (cI, 8, .inl f2)), (q 12, .inl (cI, 64, .inl w2)), (q 15, .inl (cI, 32, .inl i2)), (q 16, .inl (cI, 8, .inl (km_h (km_kx p np 54) 1))), (q 17, .inl (cI, 8, .inl (km_h (km_kx p np 92) 1))), (q 0, .inr (2, [.ref (q 1), .ref (q 2), .ref (q 3), .ref (q 4), .ref (q 5), .ref (q 6), .ref (q 9), .int (nI np), .int (nI ns), .int (nI w), .int (nI c), .int (nI (d / c + 1)), .int 0])), (q 3, .inl (cI, 128, .inl (km_K p np s ns c (d + 1)))), (q 4, .inl (cI, 32, .inl (km_U p np s ns c (d + 1))))] H := hP
      have hD : va_D A [(q 2, .inl (cI, 84, .inl f1)), (q 9, .inr (0, [.ref (q 10), .ref (q 13), .ref (q 14), .ref (q 15), .ref (q 16), .ref (q 17)])), (q 10, .inr (1, [.ref (q 11), .ref (q 12), .int tk2])), (q 11, .inl (cI, 8, .inl f2)), (q 12, .inl (cI, 64, .inl w2)), (q 15, .inl (cI, 32, .inl i2)), (q 16, .inl (cI, 8, .inl (km_h (km_kx p np 54) 1))), (q 17, .inl (cI, 8, .inl (km_h (km_kx p np 92) 1))), (q 0, .inr (2, [.ref (q 1), .ref (q 2), .ref (q 3), .ref (q 4), .ref (q 5), .ref (q 6), .ref (q 9), .int (nI np), .int (nI ns), .int (nI w), .int (nI c), .int (nI (d / c + 1)), .int 0])), (q 3, .inl (cI, 128, .inl (km_K p np s ns c (d + 1)))), (q 4, .inl (cI, 32, .inl (km_U p np s ns c (d + 1))))] := hD
      obtain ⟨e1, e2⟩ := kt_next (d := d) hc0 he
      have hP : va_P G classes [(q 2, .inl (cI, 84, .inl f1)), (q 9, .inr (0, [.ref (q 10), .ref (q 13), .ref (q 14), .ref (q 15), .ref (q 16), .ref (q 17)])), (q 10, .inr (1, [.ref (q 11), .ref (q 12), .int tk2])), (q 11, .inl (cI, 8, .inl f2)), (q 12, .inl (cI, 64, .inl w2)), (q 15, .inl (cI, 32, .inl i2)), (q 16, .inl (cI, 8, .inl (km_h (km_kx p np 54) 1))), (q 17, .inl (cI, 8, .inl (km_h (km_kx p np 92) 1))), (q 0, .inr (2, [.ref (q 1), .ref (q 2), .ref (q 3), .ref (q 4), .ref (q 5), .ref (q 6), .ref (q 9), .int (nI np), .int (nI ns), .int (nI w), .int (nI c), .int (nI ((d + 1) / c)), .int (nI ((d + 1) % c))])), (q 3, .inl (cI, 128, .inl (km_K p np s ns c (d + 1)))), (q 4, .inl (cI, 32, .inl (km_U p np s ns c (d + 1))))] H := by rw [e1, e2]; exact hP
      have hD : va_D A [(q 2, .inl (cI, 84, .inl f1)), (q 9, .inr (0, [.ref (q 10), .ref (q 13), .ref (q 14), .ref (q 15), .ref (q 16), .ref (q 17)])), (q 10, .inr (1, [.ref (q 11), .ref (q 12), .int tk2])), (q 11, .inl (cI, 8, .inl f2)), (q 12, .inl (cI, 64, .inl w2)), (q 15, .inl (cI, 32, .inl i2)), (q 16, .inl (cI, 8, .inl (km_h (km_kx p np 54) 1))), (q 17, .inl (cI, 8, .inl (km_h (km_kx p np 92) 1))), (q 0, .inr (2, [.ref (q 1), .ref (q 2), .ref (q 3), .ref (q 4), .ref (q 5), .ref (q 6), .ref (q 9), .int (nI np), .int (nI ns), .int (nI w), .int (nI c), .int (nI ((d + 1) / c)), .int (nI ((d + 1) % c))])), (q 3, .inl (cI, 128, .inl (km_K p np s ns c (d + 1)))), (q 4, .inl (cI, 32, .inl (km_U p np s ns c (d + 1))))] := by rw [e1, e2]; exact hD
      exact xe_v (f1, f2, w2, tk2, i2) hx hb hr hlk hK (hf1) (hP.sub (ws' := [(q 0, .inr (2, [.ref (q 1), .ref (q 2), .ref (q 3), .ref (q 4), .ref (q 5), .ref (q 6), .ref (q 9), .int (nI np), .int (nI ns), .int (nI w), .int (nI c), .int (nI ((d + 1) / c)), .int (nI ((d + 1) % c))])), (q 2, .inl (cI, 84, .inl f1)), (q 3, .inl (cI, 128, .inl (km_K p np s ns c (d + 1)))), (q 4, .inl (cI, 32, .inl (km_U p np s ns c (d + 1)))), (q 9, .inr (0, [.ref (q 10), .ref (q 13), .ref (q 14), .ref (q 15), .ref (q 16), .ref (q 17)])), (q 10, .inr (1, [.ref (q 11), .ref (q 12), .int tk2])), (q 11, .inl (cI, 8, .inl f2)), (q 12, .inl (cI, 64, .inl w2)), (q 15, .inl (cI, 32, .inl i2)), (q 16, .inl (cI, 8, .inl (km_h (km_kx p np 54) 1))), (q 17, .inl (cI, 8, .inl (km_h (km_kx p np 92) 1)))]) [8, 0, 9, 10, 1, 2, 3, 4, 5, 6, 7] rfl) (hD.sub (ws' := [(q 0, .inr (2, [.ref (q 1), .ref (q 2), .ref (q 3), .ref (q 4), .ref (q 5), .ref (q 6), .ref (q 9), .int (nI np), .int (nI ns), .int (nI w), .int (nI c), .int (nI ((d + 1) / c)), .int (nI ((d + 1) % c))])), (q 2, .inl (cI, 84, .inl f1)), (q 3, .inl (cI, 128, .inl (km_K p np s ns c (d + 1)))), (q 4, .inl (cI, 32, .inl (km_U p np s ns c (d + 1)))), (q 9, .inr (0, [.ref (q 10), .ref (q 13), .ref (q 14), .ref (q 15), .ref (q 16), .ref (q 17)])), (q 10, .inr (1, [.ref (q 11), .ref (q 12), .int tk2])), (q 11, .inl (cI, 8, .inl f2)), (q 12, .inl (cI, 64, .inl w2)), (q 15, .inl (cI, 32, .inl i2)), (q 16, .inl (cI, 8, .inl (km_h (km_kx p np 54) 1))), (q 17, .inl (cI, 8, .inl (km_h (km_kx p np 92) 1)))]) [8, 0, 9, 10, 1, 2, 3, 4, 5, 6, 7] (by decide) rfl) hS d_KeyMaker_turn_105 (by decide) (by decide)
  · have hc : (d % c) = 0 := (nI_eq (a := (d % c)) (b := 0) (by omega) (by omega)).mp hc
    refine lv_aload_n hx hb d_KeyMaker_turn_7 rfl (lv_at hl 0 rfl) ?_
    refine va_get (D := G) (ci := 2) (v := .int (nI (d / c))) (C := R_KeyMaker) (T := F_KeyMaker) (N := 13) hx hb hts hi_KeyMaker hown hK hP 0 rfl rfl 11 (by decide) (hts _ tw_92) (fun _ h9 => h9) rfl d_KeyMaker_turn_8 ?_
    refine lv_iconst (v := 1) hx hb d_KeyMaker_turn_11 (by decide) ?_
    refine lv_iadd hx hb d_KeyMaker_turn_12 ?_
    refine lv_topi (fun y9 ey9 => ?_)
    obtain rfl : y9 = nI (d / c + 1) := ey9.trans (nI_add (d / c) 1)
    refine lv_aload_n hx hb d_KeyMaker_turn_13 rfl (lv_at hl 0 rfl) ?_
    refine va_get (D := G) (ci := 2) (v := .ref (q 2)) (C := R_KeyMaker) (T := F_KeyMaker) (N := 13) hx hb hts hi_KeyMaker hown hK hP 0 rfl rfl 1 (by decide) (hts _ tw_82) (fun _ h9 => h9) rfl d_KeyMaker_turn_14 ?_
    refine lv_aload_n hx hb d_KeyMaker_turn_17 rfl (lv_at hl 0 rfl) ?_
    refine va_get (D := G) (ci := 2) (v := .int (nI ns)) (C := R_KeyMaker) (T := F_KeyMaker) (N := 13) hx hb hts hi_KeyMaker hown hK hP 0 rfl rfl 8 (by decide) (hts _ tw_89) (fun _ h9 => h9) rfl d_KeyMaker_turn_18 ?_
    refine xc_v (wr := [(q 0, .inr (2, [.ref (q 1), .ref (q 2), .ref (q 3), .ref (q 4), .ref (q 5), .ref (q 6), .ref (q 9), .int (nI np), .int (nI ns), .int (nI w), .int (nI c), .int (nI (d / c)), .int (nI (d % c))])), (q 3, .inl (cI, 128, .inl (km_K p np s ns c d))), (q 4, .inl (cI, 32, .inl lm)), (q 9, .inr (0, [.ref (q 10), .ref (q 13), .ref (q 14), .ref (q 15), .ref (q 16), .ref (q 17)])), (q 10, .inr (1, [.ref (q 11), .ref (q 12), .int tk])), (q 11, .inl (cI, 8, .inl f)), (q 12, .inl (cI, 64, .inl wd)), (q 15, .inl (cI, 32, .inl i)), (q 16, .inl (cI, 8, .inl (km_h (km_kx p np 54) 1))), (q 17, .inl (cI, 8, .inl (km_h (km_kx p np 92) 1)))]) (va_runS (As := [.int (nI (d / c + 1)), .ref (q 2), .int (nI ns)]) (rest := []) ⟨hx, hb, hml, hown, hts⟩ (c_putWord l G cI cB tK tH H.size (q 2) 84 ns f1 (nI (d / c + 1)) (by omega) (by omega)) (va_cwS 3 hts (xg_S tw_136 tw_137 tw_17 tw_138) rfl rfl rfl (by decide +kernel) ⟨Nat.le_of_ble_eq_true rfl, Nat.le_of_ble_eq_true rfl⟩) (xc_pre hK hst hA hP hD hS [1] (by decide) rfl [.int (nI (d / c + 1)), .ref (q 2), .int (nI ns)]) rfl rfl hl.1 rfl (lv_room (Nat.le_of_ble_eq_true rfl)) d_KeyMaker_turn_21 ⟨Nat.le_of_ble_eq_true rfl, Nat.le_of_ble_eq_true rfl⟩) hA hP hD hS [1] [0, 2, 3, 4, 5, 6, 7, 8, 9, 10] rfl rfl (by decide) (by decide) (fun u10 H locs hp11 hP hD hS => ?_)
    have hP : va_P G classes [(q 0, .inr (2, [.ref (q 1), .ref (q 2), .ref (q 3), .ref (q 4), .ref (q 5), .ref (q 6), .ref (q 9), .int (nI np), .int (nI ns), .int (nI w), .int (nI c), .int (nI (d / c)), .int (nI (d % c))])), (q 3, .inl (cI, 128, .inl (km_K p np s ns c d))), (q 4, .inl (cI, 32, .inl lm)), (q 9, .inr (0, [.ref (q 10), .ref (q 13), .ref (q 14), .ref (q 15), .ref (q 16), .ref (q 17)])), (q 10, .inr (1, [.ref (q 11), .ref (q 12), .int tk])), (q 11, .inl (cI, 8, .inl f)), (q 12, .inl (cI, 64, .inl wd)), (q 15, .inl (cI, 32, .inl i)), (q 16, .inl (cI, 8, .inl (km_h (km_kx p np 54) 1))), (q 17, .inl (cI, 8, .inl (km_h (km_kx p np 92) 1))), (q 2, .inl (cI, 84, .inl (km_put f1 ns (nI (d / c + 1)))))] H := hP
    have hD : va_D A [(q 0, .inr (2, [.ref (q 1), .ref (q 2), .ref (q 3), .ref (q 4), .ref (q 5), .ref (q 6), .ref (q 9), .int (nI np), .int (nI ns), .int (nI w), .int (nI c), .int (nI (d / c)), .int (nI (d % c))])), (q 3, .inl (cI, 128, .inl (km_K p np s ns c d))), (q 4, .inl (cI, 32, .inl lm)), (q 9, .inr (0, [.ref (q 10), .ref (q 13), .ref (q 14), .ref (q 15), .ref (q 16), .ref (q 17)])), (q 10, .inr (1, [.ref (q 11), .ref (q 12), .int tk])), (q 11, .inl (cI, 8, .inl f)), (q 12, .inl (cI, 64, .inl wd)), (q 15, .inl (cI, 32, .inl i)), (q 16, .inl (cI, 8, .inl (km_h (km_kx p np 54) 1))), (q 17, .inl (cI, 8, .inl (km_h (km_kx p np 92) 1))), (q 2, .inl (cI, 84, .inl (km_put f1 ns (nI (d / c + 1)))))] := hD
    refine lv_aload_n hx hb d_KeyMaker_turn_24 rfl (lv_at hl 0 rfl) ?_
    refine va_get (D := G) (ci := 2) (v := .ref (q 9)) (C := R_KeyMaker) (T := F_KeyMaker) (N := 13) hx hb hts hi_KeyMaker hown hK hP 0 rfl rfl 6 (by decide) (hts _ tw_87) (fun _ h9 => h9) rfl d_KeyMaker_turn_25 ?_
    refine lv_aload_n hx hb d_KeyMaker_turn_28 rfl (lv_at hl 0 rfl) ?_
    refine va_get (D := G) (ci := 2) (v := .ref (q 2)) (C := R_KeyMaker) (T := F_KeyMaker) (N := 13) hx hb hts hi_KeyMaker hown hK hP 0 rfl rfl 1 (by decide) (hts _ tw_82) (fun _ h9 => h9) rfl d_KeyMaker_turn_29 ?_
    refine lv_aload_n hx hb d_KeyMaker_turn_32 rfl (lv_at hl 0 rfl) ?_
    refine va_get (D := G) (ci := 2) (v := .int (nI ns)) (C := R_KeyMaker) (T := F_KeyMaker) (N := 13) hx hb hts hi_KeyMaker hown hK hP 0 rfl rfl 8 (by decide) (hts _ tw_89) (fun _ h9 => h9) rfl d_KeyMaker_turn_33 ?_
    refine lv_iconst (v := 4) hx hb d_KeyMaker_turn_36 (by decide) ?_
    refine lv_iadd hx hb d_KeyMaker_turn_37 ?_
    refine lv_topi (fun y13 ey13 => ?_)
    obtain rfl : y13 = nI (ns + 4) := ey13.trans (nI_add ns 4)
    refine lv_aload_n hx hb d_KeyMaker_turn_38 rfl (lv_at hl 0 rfl) ?_
    refine va_get (D := G) (ci := 2) (v := .ref (q 4)) (C := R_KeyMaker) (T := F_KeyMaker) (N := 13) hx hb hts hi_KeyMaker hown hK hP 0 rfl rfl 3 (by decide) (hts _ tw_84) (fun _ h9 => h9) rfl d_KeyMaker_turn_39 ?_
    refine xc_v (wr := [(q 0, .inr (2, [.ref (q 1), .ref (q 2), .ref (q 3), .ref (q 4), .ref (q 5), .ref (q 6), .ref (q 9), .int (nI np), .int (nI ns), .int (nI w), .int (nI c), .int (nI (d / c)), .int (nI (d % c))])), (q 3, .inl (cI, 128, .inl (km_K p np s ns c d)))]) (va_runV (As := [.ref (q 2), .int (nI (ns + 4)), .ref (q 4)]) (rest := []) ⟨hx, hb, hml, hown, hts⟩ (c_markA l G cI cB tK tH H.size (q 9) (q 10) (q 11) (q 12) (q 13) (q 14) (q 15) (q 16) (q 17) (q 2) (q 4) f wd i p (km_put f1 ns (nI (d / c + 1))) lm tk np (ns + 4) 84 (by omega) hA3 (km_put_kr _ (kr_eq hf1 hA4)) (by omega) (by omega)) (cwV 3 hts (xg_V tw_230 tw_231 tw_232 tw_19 tw_233) rfl rfl rfl (by decide +kernel) ⟨Nat.le_of_ble_eq_true rfl, Nat.le_of_ble_eq_true rfl⟩) (xc_preV hK hst hA hP hD hS [3, 4, 5, 6, 7, 8, 9, 10, 2] (by decide) rfl 3 rfl rfl) rfl rfl hl.1 rfl (lv_room (Nat.le_of_ble_eq_true rfl)) d_KeyMaker_turn_42 ⟨Nat.le_of_ble_eq_true rfl, Nat.le_of_ble_eq_true rfl⟩) hA hP hD hS [3, 4, 5, 6, 7, 8, 9, 10, 2] [0, 1] rfl rfl (by decide) (by decide) (fun u14 H locs hp15 hP hD hS => ?_)
    obtain ⟨f2, w2, tk2, i2⟩ := u14
    have hP : va_P G classes [(q 0, .inr (2, [.ref (q 1), .ref (q 2), .ref (q 3), .ref (q 4), .ref (q 5), .ref (q 6), .ref (q 9), .int (nI np), .int (nI ns), .int (nI w), .int (nI c), .int (nI (d / c)), .int (nI (d % c))])), (q 3, .inl (cI, 128, .inl (km_K p np s ns c d))), (q 9, .inr (0, [.ref (q 10), .ref (q 13), .ref (q 14), .ref (q 15), .ref (q 16), .ref (q 17)])), (q 10, .inr (1, [.ref (q 11), .ref (q 12), .int tk2])), (q 11, .inl (cI, 8, .inl f2)), (q 12, .inl (cI, 64, .inl w2)), (q 15, .inl (cI, 32, .inl i2)), (q 16, .inl (cI, 8, .inl (km_h (km_kx p np 54) 1))), (q 17, .inl (cI, 8, .inl (km_h (km_kx p np 92) 1))), (q 2, .inl (cI, 84, .inl (km_put f1 ns (nI (d / c + 1))))), (q 4, .inl (cI, 32, .inl (km_mk p np (km_put f1 ns (nI (d / c + 1))) (ns + 4))))] H := hP
    have hD : va_D A [(q 0, .inr (2, [.ref (q 1), .ref (q 2), .ref (q 3), .ref (q 4), .ref (q 5), .ref (q 6), .ref (q 9), .int (nI np), .int (nI ns), .int (nI w), .int (nI c), .int (nI (d / c)), .int (nI (d % c))])), (q 3, .inl (cI, 128, .inl (km_K p np s ns c d))), (q 9, .inr (0, [.ref (q 10), .ref (q 13), .ref (q 14), .ref (q 15), .ref (q 16), .ref (q 17)])), (q 10, .inr (1, [.ref (q 11), .ref (q 12), .int tk2])), (q 11, .inl (cI, 8, .inl f2)), (q 12, .inl (cI, 64, .inl w2)), (q 15, .inl (cI, 32, .inl i2)), (q 16, .inl (cI, 8, .inl (km_h (km_kx p np 54) 1))), (q 17, .inl (cI, 8, .inl (km_h (km_kx p np 92) 1))), (q 2, .inl (cI, 84, .inl (km_put f1 ns (nI (d / c + 1))))), (q 4, .inl (cI, 32, .inl (km_mk p np (km_put f1 ns (nI (d / c + 1))) (ns + 4))))] := hD
    have hP := xp_fun hP 10 (km_U p np s ns c (d + 1)) rfl (fun j _ => km_U_a hc hf1 j)
    have hD := hD.set (p := 10) (e := .inl (cI, 32, .inl (km_U p np s ns c (d + 1)))) rfl
    have hP : va_P G classes [(q 0, .inr (2, [.ref (q 1), .ref (q 2), .ref (q 3), .ref (q 4), .ref (q 5), .ref (q 6), .ref (q 9), .int (nI np), .int (nI ns), .int (nI w), .int (nI c), .int (nI (d / c)), .int (nI (d % c))])), (q 3, .inl (cI, 128, .inl (km_K p np s ns c d))), (q 9, .inr (0, [.ref (q 10), .ref (q 13), .ref (q 14), .ref (q 15), .ref (q 16), .ref (q 17)])), (q 10, .inr (1, [.ref (q 11), .ref (q 12), .int tk2])), (q 11, .inl (cI, 8, .inl f2)), (q 12, .inl (cI, 64, .inl w2)), (q 15, .inl (cI, 32, .inl i2)), (q 16, .inl (cI, 8, .inl (km_h (km_kx p np 54) 1))), (q 17, .inl (cI, 8, .inl (km_h (km_kx p np 92) 1))), (q 2, .inl (cI, 84, .inl (km_put f1 ns (nI (d / c + 1))))), (q 4, .inl (cI, 32, .inl (km_U p np s ns c (d + 1))))] H := hP
    have hD : va_D A [(q 0, .inr (2, [.ref (q 1), .ref (q 2), .ref (q 3), .ref (q 4), .ref (q 5), .ref (q 6), .ref (q 9), .int (nI np), .int (nI ns), .int (nI w), .int (nI c), .int (nI (d / c)), .int (nI (d % c))])), (q 3, .inl (cI, 128, .inl (km_K p np s ns c d))), (q 9, .inr (0, [.ref (q 10), .ref (q 13), .ref (q 14), .ref (q 15), .ref (q 16), .ref (q 17)])), (q 10, .inr (1, [.ref (q 11), .ref (q 12), .int tk2])), (q 11, .inl (cI, 8, .inl f2)), (q 12, .inl (cI, 64, .inl w2)), (q 15, .inl (cI, 32, .inl i2)), (q 16, .inl (cI, 8, .inl (km_h (km_kx p np 54) 1))), (q 17, .inl (cI, 8, .inl (km_h (km_kx p np 92) 1))), (q 2, .inl (cI, 84, .inl (km_put f1 ns (nI (d / c + 1))))), (q 4, .inl (cI, 32, .inl (km_U p np s ns c (d + 1))))] := hD
    refine lv_goto (tgt := 65) hx hb d_KeyMaker_turn_45 (by decide) ?_
    refine lv_aload_n hx hb d_KeyMaker_turn_65 rfl (lv_at hl 0 rfl) ?_
    refine xc_v (wr := [(q 9, .inr (0, [.ref (q 10), .ref (q 13), .ref (q 14), .ref (q 15), .ref (q 16), .ref (q 17)])), (q 10, .inr (1, [.ref (q 11), .ref (q 12), .int tk2])), (q 11, .inl (cI, 8, .inl f2)), (q 12, .inl (cI, 64, .inl w2)), (q 15, .inl (cI, 32, .inl i2)), (q 16, .inl (cI, 8, .inl (km_h (km_kx p np 54) 1))), (q 17, .inl (cI, 8, .inl (km_h (km_kx p np 92) 1))), (q 2, .inl (cI, 84, .inl (km_put f1 ns (nI (d / c + 1)))))]) (va_runV (As := []) (rest := []) ⟨hx, hb, hml, hown, hts⟩ (c_fold l G cI cB tK tH H.size q (nI np) (nI ns) (nI w) (nI c) (nI (d % c)) (d / c) (km_K p np s ns c d) (km_U p np s ns c (d + 1)) (by omega)) (cwV 0 hts (xg_V tw_239 tw_241 tw_8 tw_17 tw_242) rfl rfl rfl (by decide +kernel) ⟨Nat.le_of_ble_eq_true rfl, Nat.le_of_ble_eq_true rfl⟩) (xc_preV hK hst hA hP hD hS [0, 1, 10] (by decide) rfl 0 rfl rfl) rfl rfl hl.1 rfl (lv_room (Nat.le_of_ble_eq_true rfl)) d_KeyMaker_turn_66 ⟨Nat.le_of_ble_eq_true rfl, Nat.le_of_ble_eq_true rfl⟩) hA hP hD hS [0, 1, 10] [2, 3, 4, 5, 6, 7, 8, 9] rfl rfl (by decide) (by decide) (fun u17 H locs hp18 hP hD hS => ?_)
    have hP : va_P G classes [(q 9, .inr (0, [.ref (q 10), .ref (q 13), .ref (q 14), .ref (q 15), .ref (q 16), .ref (q 17)])), (q 10, .inr (1, [.ref (q 11), .ref (q 12), .int tk2])), (q 11, .inl (cI, 8, .inl f2)), (q 12, .inl (cI, 64, .inl w2)), (q 15, .inl (cI, 32, .inl i2)), (q 16, .inl (cI, 8, .inl (km_h (km_kx p np 54) 1))), (q 17, .inl (cI, 8, .inl (km_h (km_kx p np 92) 1))), (q 2, .inl (cI, 84, .inl (km_put f1 ns (nI (d / c + 1))))), (q 0, .inr (2, [.ref (q 1), .ref (q 2), .ref (q 3), .ref (q 4), .ref (q 5), .ref (q 6), .ref (q 9), .int (nI np), .int (nI ns), .int (nI w), .int (nI c), .int (nI (d / c)), .int (nI (d % c))])), (q 3, .inl (cI, 128, .inl (km_fo (km_K p np s ns c d) (km_U p np s ns c (d + 1)) (d / c) 32))), (q 4, .inl (cI, 32, .inl (km_U p np s ns c (d + 1))))] H := hP
    have hD : va_D A [(q 9, .inr (0, [.ref (q 10), .ref (q 13), .ref (q 14), .ref (q 15), .ref (q 16), .ref (q 17)])), (q 10, .inr (1, [.ref (q 11), .ref (q 12), .int tk2])), (q 11, .inl (cI, 8, .inl f2)), (q 12, .inl (cI, 64, .inl w2)), (q 15, .inl (cI, 32, .inl i2)), (q 16, .inl (cI, 8, .inl (km_h (km_kx p np 54) 1))), (q 17, .inl (cI, 8, .inl (km_h (km_kx p np 92) 1))), (q 2, .inl (cI, 84, .inl (km_put f1 ns (nI (d / c + 1))))), (q 0, .inr (2, [.ref (q 1), .ref (q 2), .ref (q 3), .ref (q 4), .ref (q 5), .ref (q 6), .ref (q 9), .int (nI np), .int (nI ns), .int (nI w), .int (nI c), .int (nI (d / c)), .int (nI (d % c))])), (q 3, .inl (cI, 128, .inl (km_fo (km_K p np s ns c d) (km_U p np s ns c (d + 1)) (d / c) 32))), (q 4, .inl (cI, 32, .inl (km_U p np s ns c (d + 1))))] := hD
    have hP := xp_fun hP 9 (km_K p np s ns c (d + 1)) rfl (fun j _ => km_K_next _ _ _ _ _ d j)
    have hD := hD.set (p := 9) (e := .inl (cI, 128, .inl (km_K p np s ns c (d + 1)))) rfl
    have hP : va_P G classes [(q 9, .inr (0, [.ref (q 10), .ref (q 13), .ref (q 14), .ref (q 15), .ref (q 16), .ref (q 17)])), (q 10, .inr (1, [.ref (q 11), .ref (q 12), .int tk2])), (q 11, .inl (cI, 8, .inl f2)), (q 12, .inl (cI, 64, .inl w2)), (q 15, .inl (cI, 32, .inl i2)), (q 16, .inl (cI, 8, .inl (km_h (km_kx p np 54) 1))), (q 17, .inl (cI, 8, .inl (km_h (km_kx p np 92) 1))), (q 2, .inl (cI, 84, .inl (km_put f1 ns (nI (d / c + 1))))), (q 0, .inr (2, [.ref (q 1), .ref (q 2), .ref (q 3), .ref (q 4), .ref (q 5), .ref (q 6), .ref (q 9), .int (nI np), .int (nI ns), .int (nI w), .int (nI c), .int (nI (d / c)), .int (nI (d % c))])), (q 3, .inl (cI, 128, .inl (km_K p np s ns c (d + 1)))), (q 4, .inl (cI, 32, .inl (km_U p np s ns c (d + 1))))] H := hP
    have hD : va_D A [(q 9, .inr (0, [.ref (q 10), .ref (q 13), .ref (q 14), .ref (q 15), .ref (q 16), .ref (q 17)])), (q 10, .inr (1, [.ref (q 11), .ref (q 12), .int tk2])), (q 11, .inl (cI, 8, .inl f2)), (q 12, .inl (cI, 64, .inl w2)), (q 15, .inl (cI, 32, .inl i2)), (q 16, .inl (cI, 8, .inl (km_h (km_kx p np 54) 1))), (q 17, .inl (cI, 8, .inl (km_h (km_kx p np 92) 1))), (q 2, .inl (cI, 84, .inl (km_put f1 ns (nI (d / c + 1))))), (q 0, .inr (2, [.ref (q 1), .ref (q 2), .ref (q 3), .ref (q 4), .ref (q 5), .ref (q 6), .ref (q 9), .int (nI np), .int (nI ns), .int (nI w), .int (nI c), .int (nI (d / c)), .int (nI (d % c))])), (q 3, .inl (cI, 128, .inl (km_K p np s ns c (d + 1)))), (q 4, .inl (cI, 32, .inl (km_U p np s ns c (d + 1))))] := hD
    refine lv_aload_n hx hb d_KeyMaker_turn_69 rfl (lv_at hl 0 rfl) ?_
    refine lv_dup hx hb d_KeyMaker_turn_70 rfl ?_
    refine va_get (D := G) (ci := 2) (v := .int (nI (d % c))) (C := R_KeyMaker) (T := F_KeyMaker) (N := 13) hx hb hts hi_KeyMaker hown hK hP 8 rfl rfl 12 (by decide) (hts _ tw_93) (fun _ h9 => h9) rfl d_KeyMaker_turn_71 ?_
    refine lv_iconst (v := 1) hx hb d_KeyMaker_turn_74 (by decide) ?_
    refine lv_iadd hx hb d_KeyMaker_turn_75 ?_
    refine lv_topi (fun y20 ey20 => ?_)
    obtain rfl : y20 = nI (d % c + 1) := ey20.trans (nI_add (d % c) 1)
    refine va_put (D := G) (ci := 2) (v := .int (nI (d % c + 1))) (ty := .int) (C := R_KeyMaker) (T := F_KeyMaker) (N := 13) hx hb hts hi_KeyMaker t_KeyMaker t_KeyMaker_ok n_KeyMaker hown hK hP hD hS 8 rfl rfl 12 (by decide) (hts _ tw_93) (fun _ h9 => h9) rfl (by decide +kernel) rfl rfl (Nat.le_of_ble_eq_true rfl) d_KeyMaker_turn_76 (fun H locs hP hD hS => ?_)
    have hP : va_P G classes [(q 9, .inr (0, [.ref (q 10), .ref (q 13), .ref (q 14), .ref (q 15), .ref (q 16), .ref (q 17)])), (q 10, .inr (1, [.ref (q 11), .ref (q 12), .int tk2])), (q 11, .inl (cI, 8, .inl f2)), (q 12, .inl (cI, 64, .inl w2)), (q 15, .inl (cI, 32, .inl i2)), (q 16, .inl (cI, 8, .inl (km_h (km_kx p np 54) 1))), (q 17, .inl (cI, 8, .inl (km_h (km_kx p np 92) 1))), (q 2, .inl (cI, 84, .inl (km_put f1 ns (nI (d / c + 1))))), (q 0, .inr (2, [.ref (q 1), .ref (q 2), .ref (q 3), .ref (q 4), .ref (q 5), .ref (q 6), .ref (q 9), .int (nI np), .int (nI ns), .int (nI w), .int (nI c), .int (nI (d / c)), .int (nI (d % c + 1))])), (q 3, .inl (cI, 128, .inl (km_K p np s ns c (d + 1)))), (q 4, .inl (cI, 32, .inl (km_U p np s ns c (d + 1))))] H := hP
    have hD : va_D A [(q 9, .inr (0, [.ref (q 10), .ref (q 13), .ref (q 14), .ref (q 15), .ref (q 16), .ref (q 17)])), (q 10, .inr (1, [.ref (q 11), .ref (q 12), .int tk2])), (q 11, .inl (cI, 8, .inl f2)), (q 12, .inl (cI, 64, .inl w2)), (q 15, .inl (cI, 32, .inl i2)), (q 16, .inl (cI, 8, .inl (km_h (km_kx p np 54) 1))), (q 17, .inl (cI, 8, .inl (km_h (km_kx p np 92) 1))), (q 2, .inl (cI, 84, .inl (km_put f1 ns (nI (d / c + 1))))), (q 0, .inr (2, [.ref (q 1), .ref (q 2), .ref (q 3), .ref (q 4), .ref (q 5), .ref (q 6), .ref (q 9), .int (nI np), .int (nI ns), .int (nI w), .int (nI c), .int (nI (d / c)), .int (nI (d % c + 1))])), (q 3, .inl (cI, 128, .inl (km_K p np s ns c (d + 1)))), (q 4, .inl (cI, 32, .inl (km_U p np s ns c (d + 1))))] := hD
    refine lv_aload_n hx hb d_KeyMaker_turn_79 rfl (lv_at hl 0 rfl) ?_
    refine va_get (D := G) (ci := 2) (v := .int (nI (d % c + 1))) (C := R_KeyMaker) (T := F_KeyMaker) (N := 13) hx hb hts hi_KeyMaker hown hK hP 8 rfl rfl 12 (by decide) (hts _ tw_93) (fun _ h9 => h9) rfl d_KeyMaker_turn_80 ?_
    refine lv_aload_n hx hb d_KeyMaker_turn_83 rfl (lv_at hl 0 rfl) ?_
    refine va_get (D := G) (ci := 2) (v := .int (nI c)) (C := R_KeyMaker) (T := F_KeyMaker) (N := 13) hx hb hts hi_KeyMaker hown hK hP 8 rfl rfl 10 (by decide) (hts _ tw_91) (fun _ h9 => h9) rfl d_KeyMaker_turn_84 ?_
    refine lv_icmp_ne (tgt := 105) hx hb d_KeyMaker_turn_87 (by decide) (fun he => ?_) (fun he => ?_)
    · have he : ¬ (d % c + 1) = c := fun z => he ((nI_eq (a := (d % c + 1)) (b := c) (by omega) (by omega)).mpr z)
      obtain ⟨e1, e2⟩ := kt_same (d := d) hc0 (by omega)
      have hP : va_P G classes [(q 9, .inr (0, [.ref (q 10), .ref (q 13), .ref (q 14), .ref (q 15), .ref (q 16), .ref (q 17)])), (q 10, .inr (1, [.ref (q 11), .ref (q 12), .int tk2])), (q 11, .inl (cI, 8, .inl f2)), (q 12, .inl (cI, 64, .inl w2)), (q 15, .inl (cI, 32, .inl i2)), (q 16, .inl (cI, 8, .inl (km_h (km_kx p np 54) 1))), (q 17, .inl (cI, 8, .inl (km_h (km_kx p np 92) 1))), (q 2, .inl (cI, 84, .inl (km_put f1 ns (nI (d / c + 1))))), (q 0, .inr (2, [.ref (q 1), .ref (q 2), .ref (q 3), .ref (q 4), .ref (q 5), .ref (q 6), .ref (q 9), .int (nI np), .int (nI ns), .int (nI w), .int (nI c), .int (nI ((d + 1) / c)), .int (nI ((d + 1) % c))])), (q 3, .inl (cI, 128, .inl (km_K p np s ns c (d + 1)))), (q 4, .inl (cI, 32, .inl (km_U p np s ns c (d + 1))))] H := by rw [e1, e2]; exact hP
      have hD : va_D A [(q 9, .inr (0, [.ref (q 10), .ref (q 13), .ref (q 14), .ref (q 15), .ref (q 16), .ref (q 17)])), (q 10, .inr (1, [.ref (q 11), .ref (q 12), .int tk2])), (q 11, .inl (cI, 8, .inl f2)), (q 12, .inl (cI, 64, .inl w2)), (q 15, .inl (cI, 32, .inl i2)), (q 16, .inl (cI, 8, .inl (km_h (km_kx p np 54) 1))), (q 17, .inl (cI, 8, .inl (km_h (km_kx p np 92) 1))), (q 2, .inl (cI, 84, .inl (km_put f1 ns (nI (d / c + 1))))), (q 0, .inr (2, [.ref (q 1), .ref (q 2), .ref (q 3), .ref (q 4), .ref (q 5), .ref (q 6), .ref (q 9), .int (nI np), .int (nI ns), .int (nI w), .int (nI c), .int (nI ((d + 1) / c)), .int (nI ((d + 1) % c))])), (q 3, .inl (cI, 128, .inl (km_K p np s ns c (d + 1)))), (q 4, .inl (cI, 32, .inl (km_U p np s ns c (d + 1))))] := by rw [e1, e2]; exact hD
      exact xe_v (km_put f1 ns (nI (d / c + 1)), f2, w2, tk2, i2) hx hb hr hlk hK (fun j hj => (km_put_out (Or.inl hj)).trans (hf1 j hj)) (hP.sub (ws' := [(q 0, .inr (2, [.ref (q 1), .ref (q 2), .ref (q 3), .ref (q 4), .ref (q 5), .ref (q 6), .ref (q 9), .int (nI np), .int (nI ns), .int (nI w), .int (nI c), .int (nI ((d + 1) / c)), .int (nI ((d + 1) % c))])), (q 2, .inl (cI, 84, .inl (km_put f1 ns (nI (d / c + 1))))), (q 3, .inl (cI, 128, .inl (km_K p np s ns c (d + 1)))), (q 4, .inl (cI, 32, .inl (km_U p np s ns c (d + 1)))), (q 9, .inr (0, [.ref (q 10), .ref (q 13), .ref (q 14), .ref (q 15), .ref (q 16), .ref (q 17)])), (q 10, .inr (1, [.ref (q 11), .ref (q 12), .int tk2])), (q 11, .inl (cI, 8, .inl f2)), (q 12, .inl (cI, 64, .inl w2)), (q 15, .inl (cI, 32, .inl i2)), (q 16, .inl (cI, 8, .inl (km_h (km_kx p np 54) 1))), (q 17, .inl (cI, 8, .inl (km_h (km_kx p np 92) 1)))]) [8, 7, 9, 10, 0, 1, 2, 3, 4, 5, 6] rfl) (hD.sub (ws' := [(q 0, .inr (2, [.ref (q 1), .ref (q 2), .ref (q 3), .ref (q 4), .ref (q 5), .ref (q 6), .ref (q 9), .int (nI np), .int (nI ns), .int (nI w), .int (nI c), .int (nI ((d + 1) / c)), .int (nI ((d + 1) % c))])), (q 2, .inl (cI, 84, .inl (km_put f1 ns (nI (d / c + 1))))), (q 3, .inl (cI, 128, .inl (km_K p np s ns c (d + 1)))), (q 4, .inl (cI, 32, .inl (km_U p np s ns c (d + 1)))), (q 9, .inr (0, [.ref (q 10), .ref (q 13), .ref (q 14), .ref (q 15), .ref (q 16), .ref (q 17)])), (q 10, .inr (1, [.ref (q 11), .ref (q 12), .int tk2])), (q 11, .inl (cI, 8, .inl f2)), (q 12, .inl (cI, 64, .inl w2)), (q 15, .inl (cI, 32, .inl i2)), (q 16, .inl (cI, 8, .inl (km_h (km_kx p np 54) 1))), (q 17, .inl (cI, 8, .inl (km_h (km_kx p np 92) 1)))]) [8, 7, 9, 10, 0, 1, 2, 3, 4, 5, 6] (by decide) rfl) hS d_KeyMaker_turn_105 (by decide) (by decide)
    · have he : (d % c + 1) = c := (nI_eq (a := (d % c + 1)) (b := c) (by omega) (by omega)).mp he
      refine lv_aload_n hx hb d_KeyMaker_turn_90 rfl (lv_at hl 0 rfl) ?_
      refine lv_dup hx hb d_KeyMaker_turn_91 rfl ?_
      refine va_get (D := G) (ci := 2) (v := .int (nI (d / c))) (C := R_KeyMaker) (T := F_KeyMaker) (N := 13) hx hb hts hi_KeyMaker hown hK hP 8 rfl rfl 11 (by decide) (hts _ tw_92) (fun _ h9 => h9) rfl d_KeyMaker_turn_92 ?_
      refine lv_iconst (v := 1) hx hb d_KeyMaker_turn_95 (by decide) ?_
      refine lv_iadd hx hb d_KeyMaker_turn_96 ?_
      refine lv_topi (fun y21 ey21 => ?_)
      obtain rfl : y21 = nI (d / c + 1) := ey21.trans (nI_add (d / c) 1)
      refine va_put (D := G) (ci := 2) (v := .int (nI (d / c + 1))) (ty := .int) (C := R_KeyMaker) (T := F_KeyMaker) (N := 13) hx hb hts hi_KeyMaker t_KeyMaker t_KeyMaker_ok n_KeyMaker hown hK hP hD hS 8 rfl rfl 11 (by decide) (hts _ tw_92) (fun _ h9 => h9) rfl (by decide +kernel) rfl rfl (Nat.le_of_ble_eq_true rfl) d_KeyMaker_turn_97 (fun H locs hP hD hS => ?_)
      have hP : va_P G classes [(q 9, .inr (0, [.ref (q 10), .ref (q 13), .ref (q 14), .ref (q 15), .ref (q 16), .ref (q 17)])), (q 10, .inr (1, [.ref (q 11), .ref (q 12), .int tk2])), (q 11, .inl (cI, 8, .inl f2)), (q 12, .inl (cI, 64, .inl w2)), (q 15, .inl (cI, 32, .inl i2)), (q 16, .inl (cI, 8, .inl (km_h (km_kx p np 54) 1))), (q 17, .inl (cI, 8, .inl (km_h (km_kx p np 92) 1))), (q 2, .inl (cI, 84, .inl (km_put f1 ns (nI (d / c + 1))))), (q 0, .inr (2, [.ref (q 1), .ref (q 2), .ref (q 3), .ref (q 4), .ref (q 5), .ref (q 6), .ref (q 9), .int (nI np), .int (nI ns), .int (nI w), .int (nI c), .int (nI (d / c + 1)), .int (nI (d % c + 1))])), (q 3, .inl (cI, 128, .inl (km_K p np s ns c (d + 1)))), (q 4, .inl (cI, 32, .inl (km_U p np s ns c (d + 1))))] H := hP
      have hD : va_D A [(q 9, .inr (0, [.ref (q 10), .ref (q 13), .ref (q 14), .ref (q 15), .ref (q 16), .ref (q 17)])), (q 10, .inr (1, [.ref (q 11), .ref (q 12), .int tk2])), (q 11, .inl (cI, 8, .inl f2)), (q 12, .inl (cI, 64, .inl w2)), (q 15, .inl (cI, 32, .inl i2)), (q 16, .inl (cI, 8, .inl (km_h (km_kx p np 54) 1))), (q 17, .inl (cI, 8, .inl (km_h (km_kx p np 92) 1))), (q 2, .inl (cI, 84, .inl (km_put f1 ns (nI (d / c + 1))))), (q 0, .inr (2, [.ref (q 1), .ref (q 2), .ref (q 3), .ref (q 4), .ref (q 5), .ref (q 6), .ref (q 9), .int (nI np), .int (nI ns), .int (nI w), .int (nI c), .int (nI (d / c + 1)), .int (nI (d % c + 1))])), (q 3, .inl (cI, 128, .inl (km_K p np s ns c (d + 1)))), (q 4, .inl (cI, 32, .inl (km_U p np s ns c (d + 1))))] := hD
      refine lv_aload_n hx hb d_KeyMaker_turn_100 rfl (lv_at hl 0 rfl) ?_
      refine lv_iconst (v := 0) hx hb d_KeyMaker_turn_101 (by decide) ?_
      refine va_put (D := G) (ci := 2) (v := .int 0) (ty := .int) (C := R_KeyMaker) (T := F_KeyMaker) (N := 13) hx hb hts hi_KeyMaker t_KeyMaker t_KeyMaker_ok n_KeyMaker hown hK hP hD hS 8 rfl rfl 12 (by decide) (hts _ tw_93) (fun _ h9 => h9) rfl (by decide +kernel) rfl rfl (Nat.le_of_ble_eq_true rfl) d_KeyMaker_turn_102 (fun H locs hP hD hS => ?_)
      have hP : va_P G classes [(q 9, .inr (0, [.ref (q 10), .ref (q 13), .ref (q 14), .ref (q 15), .ref (q 16), .ref (q 17)])), (q 10, .inr (1, [.ref (q 11), .ref (q 12), .int tk2])), (q 11, .inl (cI, 8, .inl f2)), (q 12, .inl (cI, 64, .inl w2)), (q 15, .inl (cI, 32, .inl i2)), (q 16, .inl (cI, 8, .inl (km_h (km_kx p np 54) 1))), (q 17, .inl (cI, 8, .inl (km_h (km_kx p np 92) 1))), (q 2, .inl (cI, 84, .inl (km_put f1 ns (nI (d / c + 1))))), (q 0, .inr (2, [.ref (q 1), .ref (q 2), .ref (q 3), .ref (q 4), .ref (q 5), .ref (q 6), .ref (q 9), .int (nI np), .int (nI ns), .int (nI w), .int (nI c), .int (nI (d / c + 1)), .int 0])), (q 3, .inl (cI, 128, .inl (km_K p np s ns c (d + 1)))), (q 4, .inl (cI, 32, .inl (km_U p np s ns c (d + 1))))] H := hP
      have hD : va_D A [(q 9, .inr (0, [.ref (q 10), .ref (q 13), .ref (q 14), .ref (q 15), .ref (q 16), .ref (q 17)])), (q 10, .inr (1, [.ref (q 11), .ref (q 12), .int tk2])), (q 11, .inl (cI, 8, .inl f2)), (q 12, .inl (cI, 64, .inl w2)), (q 15, .inl (cI, 32, .inl i2)), (q 16, .inl (cI, 8, .inl (km_h (km_kx p np 54) 1))), (q 17, .inl (cI, 8, .inl (km_h (km_kx p np 92) 1))), (q 2, .inl (cI, 84, .inl (km_put f1 ns (nI (d / c + 1))))), (q 0, .inr (2, [.ref (q 1), .ref (q 2), .ref (q 3), .ref (q 4), .ref (q 5), .ref (q 6), .ref (q 9), .int (nI np), .int (nI ns), .int (nI w), .int (nI c), .int (nI (d / c + 1)), .int 0])), (q 3, .inl (cI, 128, .inl (km_K p np s ns c (d + 1)))), (q 4, .inl (cI, 32, .inl (km_U p np s ns c (d + 1))))] := hD
      obtain ⟨e1, e2⟩ := kt_next (d := d) hc0 he
      have hP : va_P G classes [(q 9, .inr (0, [.ref (q 10), .ref (q 13), .ref (q 14), .ref (q 15), .ref (q 16), .ref (q 17)])), (q 10, .inr (1, [.ref (q 11), .ref (q 12), .int tk2])), (q 11, .inl (cI, 8, .inl f2)), (q 12, .inl (cI, 64, .inl w2)), (q 15, .inl (cI, 32, .inl i2)), (q 16, .inl (cI, 8, .inl (km_h (km_kx p np 54) 1))), (q 17, .inl (cI, 8, .inl (km_h (km_kx p np 92) 1))), (q 2, .inl (cI, 84, .inl (km_put f1 ns (nI (d / c + 1))))), (q 0, .inr (2, [.ref (q 1), .ref (q 2), .ref (q 3), .ref (q 4), .ref (q 5), .ref (q 6), .ref (q 9), .int (nI np), .int (nI ns), .int (nI w), .int (nI c), .int (nI ((d + 1) / c)), .int (nI ((d + 1) % c))])), (q 3, .inl (cI, 128, .inl (km_K p np s ns c (d + 1)))), (q 4, .inl (cI, 32, .inl (km_U p np s ns c (d + 1))))] H := by rw [e1, e2]; exact hP
      have hD : va_D A [(q 9, .inr (0, [.ref (q 10), .ref (q 13), .ref (q 14), .ref (q 15), .ref (q 16), .ref (q 17)])), (q 10, .inr (1, [.ref (q 11), .ref (q 12), .int tk2])), (q 11, .inl (cI, 8, .inl f2)), (q 12, .inl (cI, 64, .inl w2)), (q 15, .inl (cI, 32, .inl i2)), (q 16, .inl (cI, 8, .inl (km_h (km_kx p np 54) 1))), (q 17, .inl (cI, 8, .inl (km_h (km_kx p np 92) 1))), (q 2, .inl (cI, 84, .inl (km_put f1 ns (nI (d / c + 1))))), (q 0, .inr (2, [.ref (q 1), .ref (q 2), .ref (q 3), .ref (q 4), .ref (q 5), .ref (q 6), .ref (q 9), .int (nI np), .int (nI ns), .int (nI w), .int (nI c), .int (nI ((d + 1) / c)), .int (nI ((d + 1) % c))])), (q 3, .inl (cI, 128, .inl (km_K p np s ns c (d + 1)))), (q 4, .inl (cI, 32, .inl (km_U p np s ns c (d + 1))))] := by rw [e1, e2]; exact hD
      exact xe_v (km_put f1 ns (nI (d / c + 1)), f2, w2, tk2, i2) hx hb hr hlk hK (fun j hj => (km_put_out (Or.inl hj)).trans (hf1 j hj)) (hP.sub (ws' := [(q 0, .inr (2, [.ref (q 1), .ref (q 2), .ref (q 3), .ref (q 4), .ref (q 5), .ref (q 6), .ref (q 9), .int (nI np), .int (nI ns), .int (nI w), .int (nI c), .int (nI ((d + 1) / c)), .int (nI ((d + 1) % c))])), (q 2, .inl (cI, 84, .inl (km_put f1 ns (nI (d / c + 1))))), (q 3, .inl (cI, 128, .inl (km_K p np s ns c (d + 1)))), (q 4, .inl (cI, 32, .inl (km_U p np s ns c (d + 1)))), (q 9, .inr (0, [.ref (q 10), .ref (q 13), .ref (q 14), .ref (q 15), .ref (q 16), .ref (q 17)])), (q 10, .inr (1, [.ref (q 11), .ref (q 12), .int tk2])), (q 11, .inl (cI, 8, .inl f2)), (q 12, .inl (cI, 64, .inl w2)), (q 15, .inl (cI, 32, .inl i2)), (q 16, .inl (cI, 8, .inl (km_h (km_kx p np 54) 1))), (q 17, .inl (cI, 8, .inl (km_h (km_kx p np 92) 1)))]) [8, 7, 9, 10, 0, 1, 2, 3, 4, 5, 6] rfl) (hD.sub (ws' := [(q 0, .inr (2, [.ref (q 1), .ref (q 2), .ref (q 3), .ref (q 4), .ref (q 5), .ref (q 6), .ref (q 9), .int (nI np), .int (nI ns), .int (nI w), .int (nI c), .int (nI ((d + 1) / c)), .int (nI ((d + 1) % c))])), (q 2, .inl (cI, 84, .inl (km_put f1 ns (nI (d / c + 1))))), (q 3, .inl (cI, 128, .inl (km_K p np s ns c (d + 1)))), (q 4, .inl (cI, 32, .inl (km_U p np s ns c (d + 1)))), (q 9, .inr (0, [.ref (q 10), .ref (q 13), .ref (q 14), .ref (q 15), .ref (q 16), .ref (q 17)])), (q 10, .inr (1, [.ref (q 11), .ref (q 12), .int tk2])), (q 11, .inl (cI, 8, .inl f2)), (q 12, .inl (cI, 64, .inl w2)), (q 15, .inl (cI, 32, .inl i2)), (q 16, .inl (cI, 8, .inl (km_h (km_kx p np 54) 1))), (q 17, .inl (cI, 8, .inl (km_h (km_kx p np 92) 1)))]) [8, 7, 9, 10, 0, 1, 2, 3, 4, 5, 6] (by decide) rfl) hS d_KeyMaker_turn_105 (by decide) (by decide)
end
section
/-! KeyMaker's public methods -/
set_option maxHeartbeats 4000000 in
set_option maxRecDepth 100000 in
theorem c_kpassword (l : Launch) (G : va_G) (cI cB : ClassId) (tK tH sz : Nat) (q : Nat → Nat) (p s : Nat → Int32) (np ns c w d : Nat) (F : Nat → Nat → Int32) (X : Nat → Int32) (b : Int32) (hAb : kA_ok (p, np, s, ns, c, w, d)) (hC : kC (p, np, s, ns, c, w, d) F) : xMi l G cI cB tK tH y_KeyMaker_password b_KeyMaker_password 2 (some .boolean) ({ frames := 1, cells := 0, slots := 0, locals := 20 }) [.ref (q 0), .int b] sz [(q 0, .inr (2, [.ref (q 1), .ref (q 2), .ref (q 3), .ref (q 4), .ref (q 5), .ref (q 6), .ref (q 9), .int (nI np), .int (nI ns), .int (nI w), .int (nI c), .int (nI (d / c)), .int (nI (d % c))])), (q 1, .inl (cI, 150, .inl (F 0))), (q 2, .inl (cI, 84, .inl (F 1))), (q 3, .inl (cI, 128, .inl (F 2))), (q 4, .inl (cI, 32, .inl (F 3))), (q 5, .inl (cI, 32, .inl (F 4))), (q 6, .inr (1, [.ref (q 7), .ref (q 8), .int (X 0)])), (q 7, .inl (cI, 8, .inl (F 5))), (q 8, .inl (cI, 64, .inl (F 6))), (q 9, .inr (0, [.ref (q 10), .ref (q 13), .ref (q 14), .ref (q 15), .ref (q 16), .ref (q 17)])), (q 10, .inr (1, [.ref (q 11), .ref (q 12), .int (X 1)])), (q 11, .inl (cI, 8, .inl (F 7))), (q 12, .inl (cI, 64, .inl (F 8))), (q 13, .inl (cI, 64, .inl (F 9))), (q 14, .inl (cI, 64, .inl (F 10))), (q 15, .inl (cI, 32, .inl (F 11))), (q 16, .inl (cI, 8, .inl (F 12))), (q 17, .inl (cI, 8, .inl (F 13)))] (fun r u => r = (ka_password b (p, np, s, ns, c, w, d)).1 ∧ u.1 = (ka_password b (p, np, s, ns, c, w, d)).2 ∧ kC u.1 u.2.1) (fun u : kA × (Nat → Nat → Int32) × (Nat → Int32) => [(q 0, .inr (2, [.ref (q 1), .ref (q 2), .ref (q 3), .ref (q 4), .ref (q 5), .ref (q 6), .ref (q 9), .int (nI u.1.2.1), .int (nI u.1.2.2.2.1), .int (nI u.1.2.2.2.2.2.1), .int (nI u.1.2.2.2.2.1), .int (nI (u.1.2.2.2.2.2.2 / u.1.2.2.2.2.1)), .int (nI (u.1.2.2.2.2.2.2 % u.1.2.2.2.2.1))])), (q 1, .inl (cI, 150, .inl (u.2.1 0))), (q 2, .inl (cI, 84, .inl (u.2.1 1))), (q 3, .inl (cI, 128, .inl (u.2.1 2))), (q 4, .inl (cI, 32, .inl (u.2.1 3))), (q 5, .inl (cI, 32, .inl (u.2.1 4))), (q 6, .inr (1, [.ref (q 7), .ref (q 8), .int (u.2.2 0)])), (q 7, .inl (cI, 8, .inl (u.2.1 5))), (q 8, .inl (cI, 64, .inl (u.2.1 6))), (q 9, .inr (0, [.ref (q 10), .ref (q 13), .ref (q 14), .ref (q 15), .ref (q 16), .ref (q 17)])), (q 10, .inr (1, [.ref (q 11), .ref (q 12), .int (u.2.2 1)])), (q 11, .inl (cI, 8, .inl (u.2.1 7))), (q 12, .inl (cI, 64, .inl (u.2.1 8))), (q 13, .inl (cI, 64, .inl (u.2.1 9))), (q 14, .inl (cI, 64, .inl (u.2.1 10))), (q 15, .inl (cI, 32, .inl (u.2.1 11))), (q 16, .inl (cI, 8, .inl (u.2.1 12))), (q 17, .inl (cI, 8, .inl (u.2.1 13)))]) := by
  refine xMi.of (lv := [(0, .ref (q 0)), (1, .int b)]) (by decide) (Nat.le_of_ble_eq_true rfl) rfl ?_
  intro pp ee ss mm bel met cod A ls H locs hx hb hml hr hlk hts hown hnm hA hK hst hP hD hS hl
  have hown : ss.vm.findClass R_KeyMaker = some mm.cls := hown
  have hA0 := hAb
  have hC0 := hC
  obtain ⟨hA1, hA2, hA3, hA4, hA5, hA6, hA7, hA8, hA9⟩ := hAb
  obtain ⟨hC1, hC2, hC3⟩ := hC
  have hcd := kA_c0 hA0
  have hka := kt_all_le hA6 hA5
  have hdc := Nat.div_le_self d c
  refine lv_iload_n hx hb d_KeyMaker_password_0 rfl (lv_at hl 1 rfl) ?_
  refine xc_i (wr := [(q 0, .inr (2, [.ref (q 1), .ref (q 2), .ref (q 3), .ref (q 4), .ref (q 5), .ref (q 6), .ref (q 9), .int (nI np), .int (nI ns), .int (nI w), .int (nI c), .int (nI (d / c)), .int (nI (d % c))])), (q 1, .inl (cI, 150, .inl (F 0))), (q 2, .inl (cI, 84, .inl (F 1))), (q 3, .inl (cI, 128, .inl (F 2))), (q 4, .inl (cI, 32, .inl (F 3))), (q 5, .inl (cI, 32, .inl (F 4))), (q 6, .inr (1, [.ref (q 7), .ref (q 8), .int (X 0)])), (q 7, .inl (cI, 8, .inl (F 5))), (q 8, .inl (cI, 64, .inl (F 6))), (q 9, .inr (0, [.ref (q 10), .ref (q 13), .ref (q 14), .ref (q 15), .ref (q 16), .ref (q 17)])), (q 10, .inr (1, [.ref (q 11), .ref (q 12), .int (X 1)])), (q 11, .inl (cI, 8, .inl (F 7))), (q 12, .inl (cI, 64, .inl (F 8))), (q 13, .inl (cI, 64, .inl (F 9))), (q 14, .inl (cI, 64, .inl (F 10))), (q 15, .inl (cI, 32, .inl (F 11))), (q 16, .inl (cI, 8, .inl (F 12))), (q 17, .inl (cI, 8, .inl (F 13)))]) (va_runS (As := [.int b]) (rest := []) ⟨hx, hb, hml, hown, hts⟩ (c_isByte l G cI cB tK tH H.size b ) (va_cwS 1 hts (xg_S tw_125 tw_126 tw_17 tw_127) rfl rfl rfl (by decide +kernel) ⟨Nat.le_of_ble_eq_true rfl, Nat.le_of_ble_eq_true rfl⟩) (xc_pre hK hst hA hP hD hS [] (by decide) rfl [.int b]) rfl rfl hl.1 rfl (lv_room (Nat.le_of_ble_eq_true rfl)) d_KeyMaker_password_1 ⟨Nat.le_of_ble_eq_true rfl, Nat.le_of_ble_eq_true rfl⟩) hA hP hD hS [] [0, 1, 2, 3, 4, 5, 6, 7, 8, 9, 10, 11, 12, 13, 14, 15, 16, 17] rfl rfl (by decide) (by decide) (fun r2 u1 H locs hy hP hD hS => ?_)
  have hP : va_P G classes [(q 0, .inr (2, [.ref (q 1), .ref (q 2), .ref (q 3), .ref (q 4), .ref (q 5), .ref (q 6), .ref (q 9), .int (nI np), .int (nI ns), .int (nI w), .int (nI c), .int (nI (d / c)), .int (nI (d % c))])), (q 1, .inl (cI, 150, .inl (F 0))), (q 2, .inl (cI, 84, .inl (F 1))), (q 3, .inl (cI, 128, .inl (F 2))), (q 4, .inl (cI, 32, .inl (F 3))), (q 5, .inl (cI, 32, .inl (F 4))), (q 6, .inr (1, [.ref (q 7), .ref (q 8), .int (X 0)])), (q 7, .inl (cI, 8, .inl (F 5))), (q 8, .inl (cI, 64, .inl (F 6))), (q 9, .inr (0, [.ref (q 10), .ref (q 13), .ref (q 14), .ref (q 15), .ref (q 16), .ref (q 17)])), (q 10, .inr (1, [.ref (q 11), .ref (q 12), .int (X 1)])), (q 11, .inl (cI, 8, .inl (F 7))), (q 12, .inl (cI, 64, .inl (F 8))), (q 13, .inl (cI, 64, .inl (F 9))), (q 14, .inl (cI, 64, .inl (F 10))), (q 15, .inl (cI, 32, .inl (F 11))), (q 16, .inl (cI, 8, .inl (F 12))), (q 17, .inl (cI, 8, .inl (F 13)))] H := hP
  have hD : va_D A [(q 0, .inr (2, [.ref (q 1), .ref (q 2), .ref (q 3), .ref (q 4), .ref (q 5), .ref (q 6), .ref (q 9), .int (nI np), .int (nI ns), .int (nI w), .int (nI c), .int (nI (d / c)), .int (nI (d % c))])), (q 1, .inl (cI, 150, .inl (F 0))), (q 2, .inl (cI, 84, .inl (F 1))), (q 3, .inl (cI, 128, .inl (F 2))), (q 4, .inl (cI, 32, .inl (F 3))), (q 5, .inl (cI, 32, .inl (F 4))), (q 6, .inr (1, [.ref (q 7), .ref (q 8), .int (X 0)])), (q 7, .inl (cI, 8, .inl (F 5))), (q 8, .inl (cI, 64, .inl (F 6))), (q 9, .inr (0, [.ref (q 10), .ref (q 13), .ref (q 14), .ref (q 15), .ref (q 16), .ref (q 17)])), (q 10, .inr (1, [.ref (q 11), .ref (q 12), .int (X 1)])), (q 11, .inl (cI, 8, .inl (F 7))), (q 12, .inl (cI, 64, .inl (F 8))), (q 13, .inl (cI, 64, .inl (F 9))), (q 14, .inl (cI, 64, .inl (F 10))), (q 15, .inl (cI, 32, .inl (F 11))), (q 16, .inl (cI, 8, .inl (F 12))), (q 17, .inl (cI, 8, .inl (F 13)))] := hD
  rcases hy with ⟨h1, h2, rfl⟩ | ⟨h1, rfl⟩
  · refine lv_if_eq (tgt := 24) hx hb d_KeyMaker_password_4 (by decide) (fun hc => absurd hc (by decide)) (fun _ => ?_)
    refine lv_aload_n hx hb d_KeyMaker_password_7 rfl (lv_at hl 0 rfl) ?_
    refine xc_i (wr := [(q 1, .inl (cI, 150, .inl (F 0))), (q 2, .inl (cI, 84, .inl (F 1))), (q 3, .inl (cI, 128, .inl (F 2))), (q 4, .inl (cI, 32, .inl (F 3))), (q 5, .inl (cI, 32, .inl (F 4))), (q 6, .inr (1, [.ref (q 7), .ref (q 8), .int (X 0)])), (q 7, .inl (cI, 8, .inl (F 5))), (q 8, .inl (cI, 64, .inl (F 6))), (q 9, .inr (0, [.ref (q 10), .ref (q 13), .ref (q 14), .ref (q 15), .ref (q 16), .ref (q 17)])), (q 10, .inr (1, [.ref (q 11), .ref (q 12), .int (X 1)])), (q 11, .inl (cI, 8, .inl (F 7))), (q 12, .inl (cI, 64, .inl (F 8))), (q 13, .inl (cI, 64, .inl (F 9))), (q 14, .inl (cI, 64, .inl (F 10))), (q 15, .inl (cI, 32, .inl (F 11))), (q 16, .inl (cI, 8, .inl (F 12))), (q 17, .inl (cI, 8, .inl (F 13)))]) (va_runV (As := []) (rest := []) ⟨hx, hb, hml, hown, hts⟩ (c_isStarted l G cI cB tK tH H.size q (nI np) (nI ns) (nI c) (nI (d / c)) (nI (d % c)) w (by omega)) (cwV 0 hts (xg_V tw_128 tw_130 tw_1 tw_17 tw_131) rfl rfl rfl (by decide +kernel) ⟨Nat.le_of_ble_eq_true rfl, Nat.le_of_ble_eq_true rfl⟩) (xc_preV hK hst hA hP hD hS [0] (by decide) rfl 0 rfl rfl) rfl rfl hl.1 rfl (lv_room (Nat.le_of_ble_eq_true rfl)) d_KeyMaker_password_8 ⟨Nat.le_of_ble_eq_true rfl, Nat.le_of_ble_eq_true rfl⟩) hA hP hD hS [0] [1, 2, 3, 4, 5, 6, 7, 8, 9, 10, 11, 12, 13, 14, 15, 16, 17] rfl rfl (by decide) (by decide) (fun r5 u4 H locs hs hP hD hS => ?_)
    have hP : va_P G classes [(q 1, .inl (cI, 150, .inl (F 0))), (q 2, .inl (cI, 84, .inl (F 1))), (q 3, .inl (cI, 128, .inl (F 2))), (q 4, .inl (cI, 32, .inl (F 3))), (q 5, .inl (cI, 32, .inl (F 4))), (q 6, .inr (1, [.ref (q 7), .ref (q 8), .int (X 0)])), (q 7, .inl (cI, 8, .inl (F 5))), (q 8, .inl (cI, 64, .inl (F 6))), (q 9, .inr (0, [.ref (q 10), .ref (q 13), .ref (q 14), .ref (q 15), .ref (q 16), .ref (q 17)])), (q 10, .inr (1, [.ref (q 11), .ref (q 12), .int (X 1)])), (q 11, .inl (cI, 8, .inl (F 7))), (q 12, .inl (cI, 64, .inl (F 8))), (q 13, .inl (cI, 64, .inl (F 9))), (q 14, .inl (cI, 64, .inl (F 10))), (q 15, .inl (cI, 32, .inl (F 11))), (q 16, .inl (cI, 8, .inl (F 12))), (q 17, .inl (cI, 8, .inl (F 13))), (q 0, .inr (2, [.ref (q 1), .ref (q 2), .ref (q 3), .ref (q 4), .ref (q 5), .ref (q 6), .ref (q 9), .int (nI np), .int (nI ns), .int (nI w), .int (nI c), .int (nI (d / c)), .int (nI (d % c))]))] H := hP
    have hD : va_D A [(q 1, .inl (cI, 150, .inl (F 0))), (q 2, .inl (cI, 84, .inl (F 1))), (q 3, .inl (cI, 128, .inl (F 2))), (q 4, .inl (cI, 32, .inl (F 3))), (q 5, .inl (cI, 32, .inl (F 4))), (q 6, .inr (1, [.ref (q 7), .ref (q 8), .int (X 0)])), (q 7, .inl (cI, 8, .inl (F 5))), (q 8, .inl (cI, 64, .inl (F 6))), (q 9, .inr (0, [.ref (q 10), .ref (q 13), .ref (q 14), .ref (q 15), .ref (q 16), .ref (q 17)])), (q 10, .inr (1, [.ref (q 11), .ref (q 12), .int (X 1)])), (q 11, .inl (cI, 8, .inl (F 7))), (q 12, .inl (cI, 64, .inl (F 8))), (q 13, .inl (cI, 64, .inl (F 9))), (q 14, .inl (cI, 64, .inl (F 10))), (q 15, .inl (cI, 32, .inl (F 11))), (q 16, .inl (cI, 8, .inl (F 12))), (q 17, .inl (cI, 8, .inl (F 13))), (q 0, .inr (2, [.ref (q 1), .ref (q 2), .ref (q 3), .ref (q 4), .ref (q 5), .ref (q 6), .ref (q 9), .int (nI np), .int (nI ns), .int (nI w), .int (nI c), .int (nI (d / c)), .int (nI (d % c))]))] := hD
    rcases hs with ⟨hw, rfl⟩ | ⟨hw, rfl⟩
    · refine lv_if_ne (tgt := 24) hx hb d_KeyMaker_password_11 (by decide) (fun _ => ?_) (fun hc => absurd hc (by decide))
      refine lv_iconst (v := 0) hx hb d_KeyMaker_password_24 (by decide) ?_
      have hk : ka_password b (p, np, s, ns, c, w, d) = (0, (p, np, s, ns, c, w, d)) := if_neg (fun z => by obtain ⟨z1, z2, z3, z4⟩ := z; first | omega | exact h1.elim z1 z2)
      exact xe_z ((p, np, s, ns, c, w, d), (fun z => match z with | 0 => F 0 | 1 => F 1 | 2 => F 2 | 3 => F 3 | 4 => F 4 | 5 => F 5 | 6 => F 6 | 7 => F 7 | 8 => F 8 | 9 => F 9 | 10 => F 10 | 11 => F 11 | 12 => F 12 | _ => F 13), (fun z => match z with | 0 => X 0 | _ => X 1)) hx hb hr (by decide) hlk hK (⟨by rw [hk], by rw [hk], kC_same hC0 rfl rfl rfl rfl rfl rfl⟩) (hP.sub (ws' := [(q 0, .inr (2, [.ref (q 1), .ref (q 2), .ref (q 3), .ref (q 4), .ref (q 5), .ref (q 6), .ref (q 9), .int (nI np), .int (nI ns), .int (nI w), .int (nI c), .int (nI (d / c)), .int (nI (d % c))])), (q 1, .inl (cI, 150, .inl (F 0))), (q 2, .inl (cI, 84, .inl (F 1))), (q 3, .inl (cI, 128, .inl (F 2))), (q 4, .inl (cI, 32, .inl (F 3))), (q 5, .inl (cI, 32, .inl (F 4))), (q 6, .inr (1, [.ref (q 7), .ref (q 8), .int (X 0)])), (q 7, .inl (cI, 8, .inl (F 5))), (q 8, .inl (cI, 64, .inl (F 6))), (q 9, .inr (0, [.ref (q 10), .ref (q 13), .ref (q 14), .ref (q 15), .ref (q 16), .ref (q 17)])), (q 10, .inr (1, [.ref (q 11), .ref (q 12), .int (X 1)])), (q 11, .inl (cI, 8, .inl (F 7))), (q 12, .inl (cI, 64, .inl (F 8))), (q 13, .inl (cI, 64, .inl (F 9))), (q 14, .inl (cI, 64, .inl (F 10))), (q 15, .inl (cI, 32, .inl (F 11))), (q 16, .inl (cI, 8, .inl (F 12))), (q 17, .inl (cI, 8, .inl (F 13)))]) [17, 0, 1, 2, 3, 4, 5, 6, 7, 8, 9, 10, 11, 12, 13, 14, 15, 16] rfl) (hD.sub (ws' := [(q 0, .inr (2, [.ref (q 1), .ref (q 2), .ref (q 3), .ref (q 4), .ref (q 5), .ref (q 6), .ref (q 9), .int (nI np), .int (nI ns), .int (nI w), .int (nI c), .int (nI (d / c)), .int (nI (d % c))])), (q 1, .inl (cI, 150, .inl (F 0))), (q 2, .inl (cI, 84, .inl (F 1))), (q 3, .inl (cI, 128, .inl (F 2))), (q 4, .inl (cI, 32, .inl (F 3))), (q 5, .inl (cI, 32, .inl (F 4))), (q 6, .inr (1, [.ref (q 7), .ref (q 8), .int (X 0)])), (q 7, .inl (cI, 8, .inl (F 5))), (q 8, .inl (cI, 64, .inl (F 6))), (q 9, .inr (0, [.ref (q 10), .ref (q 13), .ref (q 14), .ref (q 15), .ref (q 16), .ref (q 17)])), (q 10, .inr (1, [.ref (q 11), .ref (q 12), .int (X 1)])), (q 11, .inl (cI, 8, .inl (F 7))), (q 12, .inl (cI, 64, .inl (F 8))), (q 13, .inl (cI, 64, .inl (F 9))), (q 14, .inl (cI, 64, .inl (F 10))), (q 15, .inl (cI, 32, .inl (F 11))), (q 16, .inl (cI, 8, .inl (F 12))), (q 17, .inl (cI, 8, .inl (F 13)))]) [17, 0, 1, 2, 3, 4, 5, 6, 7, 8, 9, 10, 11, 12, 13, 14, 15, 16] (by decide) rfl) hS d_KeyMaker_password_25 (by decide) (by decide)
    · refine lv_if_ne (tgt := 24) hx hb d_KeyMaker_password_11 (by decide) (fun hc => absurd hc (by decide)) (fun _ => ?_)
      refine lv_aload_n hx hb d_KeyMaker_password_14 rfl (lv_at hl 0 rfl) ?_
      refine va_get (D := G) (ci := 2) (v := .int (nI np)) (C := R_KeyMaker) (T := F_KeyMaker) (N := 13) hx hb hts hi_KeyMaker hown hK hP 17 rfl rfl 7 (by decide) (hts _ tw_88) (fun _ h9 => h9) rfl d_KeyMaker_password_15 ?_
      refine lv_sipush (v := 150) hx hb d_KeyMaker_password_18 (by decide) ?_
      refine lv_icmp_lt (tgt := 26) hx hb d_KeyMaker_password_21 (by decide) (fun hn => ?_) (fun hn => ?_)
      · have hn : np < 150 := (nI_ltI (a := np) (b := 150) (by omega) (by omega)).mp hn
        refine lv_aload_n hx hb d_KeyMaker_password_26 rfl (lv_at hl 0 rfl) ?_
        refine va_get (D := G) (ci := 2) (v := .ref (q 1)) (C := R_KeyMaker) (T := F_KeyMaker) (N := 13) hx hb hts hi_KeyMaker hown hK hP 17 rfl rfl 0 (by decide) (hts _ tw_81) (fun _ h9 => h9) rfl d_KeyMaker_password_27 ?_
        refine lv_aload_n hx hb d_KeyMaker_password_30 rfl (lv_at hl 0 rfl) ?_
        refine va_get (D := G) (ci := 2) (v := .int (nI np)) (C := R_KeyMaker) (T := F_KeyMaker) (N := 13) hx hb hts hi_KeyMaker hown hK hP 17 rfl rfl 7 (by decide) (hts _ tw_88) (fun _ h9 => h9) rfl d_KeyMaker_password_31 ?_
        refine lv_iload_n hx hb d_KeyMaker_password_34 rfl (lv_at hl 1 rfl) ?_
        refine xa_iast (k := np) (f := F 0) (x := b) hx hb hK hP hD hS 0 0 rfl rfl (by omega) (by omega) d_KeyMaker_password_35 (fun H locs hP hD hS => ?_)
        have hP : va_P G classes [(q 1, .inl (cI, 150, .inl (upd (F 0) np b))), (q 2, .inl (cI, 84, .inl (F 1))), (q 3, .inl (cI, 128, .inl (F 2))), (q 4, .inl (cI, 32, .inl (F 3))), (q 5, .inl (cI, 32, .inl (F 4))), (q 6, .inr (1, [.ref (q 7), .ref (q 8), .int (X 0)])), (q 7, .inl (cI, 8, .inl (F 5))), (q 8, .inl (cI, 64, .inl (F 6))), (q 9, .inr (0, [.ref (q 10), .ref (q 13), .ref (q 14), .ref (q 15), .ref (q 16), .ref (q 17)])), (q 10, .inr (1, [.ref (q 11), .ref (q 12), .int (X 1)])), (q 11, .inl (cI, 8, .inl (F 7))), (q 12, .inl (cI, 64, .inl (F 8))), (q 13, .inl (cI, 64, .inl (F 9))), (q 14, .inl (cI, 64, .inl (F 10))), (q 15, .inl (cI, 32, .inl (F 11))), (q 16, .inl (cI, 8, .inl (F 12))), (q 17, .inl (cI, 8, .inl (F 13))), (q 0, .inr (2, [.ref (q 1), .ref (q 2), .ref (q 3), .ref (q 4), .ref (q 5), .ref (q 6), .ref (q 9), .int (nI np), .int (nI ns), .int (nI w), .int (nI c), .int (nI (d / c)), .int (nI (d % c))]))] H := hP
        have hD : va_D A [(q 1, .inl (cI, 150, .inl (upd (F 0) np b))), (q 2, .inl (cI, 84, .inl (F 1))), (q 3, .inl (cI, 128, .inl (F 2))), (q 4, .inl (cI, 32, .inl (F 3))), (q 5, .inl (cI, 32, .inl (F 4))), (q 6, .inr (1, [.ref (q 7), .ref (q 8), .int (X 0)])), (q 7, .inl (cI, 8, .inl (F 5))), (q 8, .inl (cI, 64, .inl (F 6))), (q 9, .inr (0, [.ref (q 10), .ref (q 13), .ref (q 14), .ref (q 15), .ref (q 16), .ref (q 17)])), (q 10, .inr (1, [.ref (q 11), .ref (q 12), .int (X 1)])), (q 11, .inl (cI, 8, .inl (F 7))), (q 12, .inl (cI, 64, .inl (F 8))), (q 13, .inl (cI, 64, .inl (F 9))), (q 14, .inl (cI, 64, .inl (F 10))), (q 15, .inl (cI, 32, .inl (F 11))), (q 16, .inl (cI, 8, .inl (F 12))), (q 17, .inl (cI, 8, .inl (F 13))), (q 0, .inr (2, [.ref (q 1), .ref (q 2), .ref (q 3), .ref (q 4), .ref (q 5), .ref (q 6), .ref (q 9), .int (nI np), .int (nI ns), .int (nI w), .int (nI c), .int (nI (d / c)), .int (nI (d % c))]))] := hD
        refine lv_aload_n hx hb d_KeyMaker_password_36 rfl (lv_at hl 0 rfl) ?_
        refine lv_dup hx hb d_KeyMaker_password_37 rfl ?_
        refine va_get (D := G) (ci := 2) (v := .int (nI np)) (C := R_KeyMaker) (T := F_KeyMaker) (N := 13) hx hb hts hi_KeyMaker hown hK hP 17 rfl rfl 7 (by decide) (hts _ tw_88) (fun _ h9 => h9) rfl d_KeyMaker_password_38 ?_
        refine lv_iconst (v := 1) hx hb d_KeyMaker_password_41 (by decide) ?_
        refine lv_iadd hx hb d_KeyMaker_password_42 ?_
        refine lv_topi (fun y8 ey8 => ?_)
        obtain rfl : y8 = nI (np + 1) := ey8.trans (nI_add np 1)
        refine va_put (D := G) (ci := 2) (v := .int (nI (np + 1))) (ty := .int) (C := R_KeyMaker) (T := F_KeyMaker) (N := 13) hx hb hts hi_KeyMaker t_KeyMaker t_KeyMaker_ok n_KeyMaker hown hK hP hD hS 17 rfl rfl 7 (by decide) (hts _ tw_88) (fun _ h9 => h9) rfl (by decide +kernel) rfl rfl (Nat.le_of_ble_eq_true rfl) d_KeyMaker_password_43 (fun H locs hP hD hS => ?_)
        have hP : va_P G classes [(q 1, .inl (cI, 150, .inl (upd (F 0) np b))), (q 2, .inl (cI, 84, .inl (F 1))), (q 3, .inl (cI, 128, .inl (F 2))), (q 4, .inl (cI, 32, .inl (F 3))), (q 5, .inl (cI, 32, .inl (F 4))), (q 6, .inr (1, [.ref (q 7), .ref (q 8), .int (X 0)])), (q 7, .inl (cI, 8, .inl (F 5))), (q 8, .inl (cI, 64, .inl (F 6))), (q 9, .inr (0, [.ref (q 10), .ref (q 13), .ref (q 14), .ref (q 15), .ref (q 16), .ref (q 17)])), (q 10, .inr (1, [.ref (q 11), .ref (q 12), .int (X 1)])), (q 11, .inl (cI, 8, .inl (F 7))), (q 12, .inl (cI, 64, .inl (F 8))), (q 13, .inl (cI, 64, .inl (F 9))), (q 14, .inl (cI, 64, .inl (F 10))), (q 15, .inl (cI, 32, .inl (F 11))), (q 16, .inl (cI, 8, .inl (F 12))), (q 17, .inl (cI, 8, .inl (F 13))), (q 0, .inr (2, [.ref (q 1), .ref (q 2), .ref (q 3), .ref (q 4), .ref (q 5), .ref (q 6), .ref (q 9), .int (nI (np + 1)), .int (nI ns), .int (nI w), .int (nI c), .int (nI (d / c)), .int (nI (d % c))]))] H := hP
        have hD : va_D A [(q 1, .inl (cI, 150, .inl (upd (F 0) np b))), (q 2, .inl (cI, 84, .inl (F 1))), (q 3, .inl (cI, 128, .inl (F 2))), (q 4, .inl (cI, 32, .inl (F 3))), (q 5, .inl (cI, 32, .inl (F 4))), (q 6, .inr (1, [.ref (q 7), .ref (q 8), .int (X 0)])), (q 7, .inl (cI, 8, .inl (F 5))), (q 8, .inl (cI, 64, .inl (F 6))), (q 9, .inr (0, [.ref (q 10), .ref (q 13), .ref (q 14), .ref (q 15), .ref (q 16), .ref (q 17)])), (q 10, .inr (1, [.ref (q 11), .ref (q 12), .int (X 1)])), (q 11, .inl (cI, 8, .inl (F 7))), (q 12, .inl (cI, 64, .inl (F 8))), (q 13, .inl (cI, 64, .inl (F 9))), (q 14, .inl (cI, 64, .inl (F 10))), (q 15, .inl (cI, 32, .inl (F 11))), (q 16, .inl (cI, 8, .inl (F 12))), (q 17, .inl (cI, 8, .inl (F 13))), (q 0, .inr (2, [.ref (q 1), .ref (q 2), .ref (q 3), .ref (q 4), .ref (q 5), .ref (q 6), .ref (q 9), .int (nI (np + 1)), .int (nI ns), .int (nI w), .int (nI c), .int (nI (d / c)), .int (nI (d % c))]))] := hD
        refine lv_iconst (v := 1) hx hb d_KeyMaker_password_46 (by decide) ?_
        have hk : ka_password b (p, np, s, ns, c, w, d) = (1, (upd p np b, np + 1, s, ns, c, w, d)) := if_pos ⟨h1, h2, hw, hn⟩
        exact xe_z ((upd p np b, np + 1, s, ns, c, w, d), (fun z => match z with | 0 => upd (F 0) np b | 1 => F 1 | 2 => F 2 | 3 => F 3 | 4 => F 4 | 5 => F 5 | 6 => F 6 | 7 => F 7 | 8 => F 8 | 9 => F 9 | 10 => F 10 | 11 => F 11 | 12 => F 12 | _ => F 13), (fun z => match z with | 0 => X 0 | _ => X 1)) hx hb hr (by decide) hlk hK (⟨by rw [hk], by rw [hk], kC_password hC0 b hw rfl rfl⟩) (hP.sub (ws' := [(q 0, .inr (2, [.ref (q 1), .ref (q 2), .ref (q 3), .ref (q 4), .ref (q 5), .ref (q 6), .ref (q 9), .int (nI (np + 1)), .int (nI ns), .int (nI w), .int (nI c), .int (nI (d / c)), .int (nI (d % c))])), (q 1, .inl (cI, 150, .inl (upd (F 0) np b))), (q 2, .inl (cI, 84, .inl (F 1))), (q 3, .inl (cI, 128, .inl (F 2))), (q 4, .inl (cI, 32, .inl (F 3))), (q 5, .inl (cI, 32, .inl (F 4))), (q 6, .inr (1, [.ref (q 7), .ref (q 8), .int (X 0)])), (q 7, .inl (cI, 8, .inl (F 5))), (q 8, .inl (cI, 64, .inl (F 6))), (q 9, .inr (0, [.ref (q 10), .ref (q 13), .ref (q 14), .ref (q 15), .ref (q 16), .ref (q 17)])), (q 10, .inr (1, [.ref (q 11), .ref (q 12), .int (X 1)])), (q 11, .inl (cI, 8, .inl (F 7))), (q 12, .inl (cI, 64, .inl (F 8))), (q 13, .inl (cI, 64, .inl (F 9))), (q 14, .inl (cI, 64, .inl (F 10))), (q 15, .inl (cI, 32, .inl (F 11))), (q 16, .inl (cI, 8, .inl (F 12))), (q 17, .inl (cI, 8, .inl (F 13)))]) [17, 0, 1, 2, 3, 4, 5, 6, 7, 8, 9, 10, 11, 12, 13, 14, 15, 16] rfl) (hD.sub (ws' := [(q 0, .inr (2, [.ref (q 1), .ref (q 2), .ref (q 3), .ref (q 4), .ref (q 5), .ref (q 6), .ref (q 9), .int (nI (np + 1)), .int (nI ns), .int (nI w), .int (nI c), .int (nI (d / c)), .int (nI (d % c))])), (q 1, .inl (cI, 150, .inl (upd (F 0) np b))), (q 2, .inl (cI, 84, .inl (F 1))), (q 3, .inl (cI, 128, .inl (F 2))), (q 4, .inl (cI, 32, .inl (F 3))), (q 5, .inl (cI, 32, .inl (F 4))), (q 6, .inr (1, [.ref (q 7), .ref (q 8), .int (X 0)])), (q 7, .inl (cI, 8, .inl (F 5))), (q 8, .inl (cI, 64, .inl (F 6))), (q 9, .inr (0, [.ref (q 10), .ref (q 13), .ref (q 14), .ref (q 15), .ref (q 16), .ref (q 17)])), (q 10, .inr (1, [.ref (q 11), .ref (q 12), .int (X 1)])), (q 11, .inl (cI, 8, .inl (F 7))), (q 12, .inl (cI, 64, .inl (F 8))), (q 13, .inl (cI, 64, .inl (F 9))), (q 14, .inl (cI, 64, .inl (F 10))), (q 15, .inl (cI, 32, .inl (F 11))), (q 16, .inl (cI, 8, .inl (F 12))), (q 17, .inl (cI, 8, .inl (F 13)))]) [17, 0, 1, 2, 3, 4, 5, 6, 7, 8, 9, 10, 11, 12, 13, 14, 15, 16] (by decide) rfl) hS d_KeyMaker_password_47 (by decide) (by decide)
      · have hn : ¬ np < 150 := fun z => hn ((nI_ltI (a := np) (b := 150) (by omega) (by omega)).mpr z)
        refine lv_iconst (v := 0) hx hb d_KeyMaker_password_24 (by decide) ?_
        have hk : ka_password b (p, np, s, ns, c, w, d) = (0, (p, np, s, ns, c, w, d)) := if_neg (fun z => by obtain ⟨z1, z2, z3, z4⟩ := z; first | omega | exact h1.elim z1 z2)
        exact xe_z ((p, np, s, ns, c, w, d), (fun z => match z with | 0 => F 0 | 1 => F 1 | 2 => F 2 | 3 => F 3 | 4 => F 4 | 5 => F 5 | 6 => F 6 | 7 => F 7 | 8 => F 8 | 9 => F 9 | 10 => F 10 | 11 => F 11 | 12 => F 12 | _ => F 13), (fun z => match z with | 0 => X 0 | _ => X 1)) hx hb hr (by decide) hlk hK (⟨by rw [hk], by rw [hk], kC_same hC0 rfl rfl rfl rfl rfl rfl⟩) (hP.sub (ws' := [(q 0, .inr (2, [.ref (q 1), .ref (q 2), .ref (q 3), .ref (q 4), .ref (q 5), .ref (q 6), .ref (q 9), .int (nI np), .int (nI ns), .int (nI w), .int (nI c), .int (nI (d / c)), .int (nI (d % c))])), (q 1, .inl (cI, 150, .inl (F 0))), (q 2, .inl (cI, 84, .inl (F 1))), (q 3, .inl (cI, 128, .inl (F 2))), (q 4, .inl (cI, 32, .inl (F 3))), (q 5, .inl (cI, 32, .inl (F 4))), (q 6, .inr (1, [.ref (q 7), .ref (q 8), .int (X 0)])), (q 7, .inl (cI, 8, .inl (F 5))), (q 8, .inl (cI, 64, .inl (F 6))), (q 9, .inr (0, [.ref (q 10), .ref (q 13), .ref (q 14), .ref (q 15), .ref (q 16), .ref (q 17)])), (q 10, .inr (1, [.ref (q 11), .ref (q 12), .int (X 1)])), (q 11, .inl (cI, 8, .inl (F 7))), (q 12, .inl (cI, 64, .inl (F 8))), (q 13, .inl (cI, 64, .inl (F 9))), (q 14, .inl (cI, 64, .inl (F 10))), (q 15, .inl (cI, 32, .inl (F 11))), (q 16, .inl (cI, 8, .inl (F 12))), (q 17, .inl (cI, 8, .inl (F 13)))]) [17, 0, 1, 2, 3, 4, 5, 6, 7, 8, 9, 10, 11, 12, 13, 14, 15, 16] rfl) (hD.sub (ws' := [(q 0, .inr (2, [.ref (q 1), .ref (q 2), .ref (q 3), .ref (q 4), .ref (q 5), .ref (q 6), .ref (q 9), .int (nI np), .int (nI ns), .int (nI w), .int (nI c), .int (nI (d / c)), .int (nI (d % c))])), (q 1, .inl (cI, 150, .inl (F 0))), (q 2, .inl (cI, 84, .inl (F 1))), (q 3, .inl (cI, 128, .inl (F 2))), (q 4, .inl (cI, 32, .inl (F 3))), (q 5, .inl (cI, 32, .inl (F 4))), (q 6, .inr (1, [.ref (q 7), .ref (q 8), .int (X 0)])), (q 7, .inl (cI, 8, .inl (F 5))), (q 8, .inl (cI, 64, .inl (F 6))), (q 9, .inr (0, [.ref (q 10), .ref (q 13), .ref (q 14), .ref (q 15), .ref (q 16), .ref (q 17)])), (q 10, .inr (1, [.ref (q 11), .ref (q 12), .int (X 1)])), (q 11, .inl (cI, 8, .inl (F 7))), (q 12, .inl (cI, 64, .inl (F 8))), (q 13, .inl (cI, 64, .inl (F 9))), (q 14, .inl (cI, 64, .inl (F 10))), (q 15, .inl (cI, 32, .inl (F 11))), (q 16, .inl (cI, 8, .inl (F 12))), (q 17, .inl (cI, 8, .inl (F 13)))]) [17, 0, 1, 2, 3, 4, 5, 6, 7, 8, 9, 10, 11, 12, 13, 14, 15, 16] (by decide) rfl) hS d_KeyMaker_password_25 (by decide) (by decide)
  · refine lv_if_eq (tgt := 24) hx hb d_KeyMaker_password_4 (by decide) (fun _ => ?_) (fun hc => absurd hc (by decide))
    refine lv_iconst (v := 0) hx hb d_KeyMaker_password_24 (by decide) ?_
    have hk : ka_password b (p, np, s, ns, c, w, d) = (0, (p, np, s, ns, c, w, d)) := if_neg (fun z => by obtain ⟨z1, z2, z3, z4⟩ := z; first | omega | exact h1.elim z1 z2)
    exact xe_z ((p, np, s, ns, c, w, d), (fun z => match z with | 0 => F 0 | 1 => F 1 | 2 => F 2 | 3 => F 3 | 4 => F 4 | 5 => F 5 | 6 => F 6 | 7 => F 7 | 8 => F 8 | 9 => F 9 | 10 => F 10 | 11 => F 11 | 12 => F 12 | _ => F 13), (fun z => match z with | 0 => X 0 | _ => X 1)) hx hb hr (by decide) hlk hK (⟨by rw [hk], by rw [hk], kC_same hC0 rfl rfl rfl rfl rfl rfl⟩) hP hD hS d_KeyMaker_password_25 (by decide) (by decide)
set_option maxHeartbeats 4000000 in
set_option maxRecDepth 100000 in
theorem c_kfour (l : Launch) (G : va_G) (cI cB : ClassId) (tK tH sz : Nat) (q : Nat → Nat) (p s : Nat → Int32) (np ns c w d : Nat) (F : Nat → Nat → Int32) (X : Nat → Int32) (x : Int32) (hAb : kA_ok (p, np, s, ns, c, w, d)) (hC : kC (p, np, s, ns, c, w, d) F) : xMi l G cI cB tK tH y_KeyMaker_four b_KeyMaker_four 2 (some .boolean) ({ frames := 1, cells := 0, slots := 0, locals := 22 }) [.ref (q 0), .int x] sz [(q 0, .inr (2, [.ref (q 1), .ref (q 2), .ref (q 3), .ref (q 4), .ref (q 5), .ref (q 6), .ref (q 9), .int (nI np), .int (nI ns), .int (nI w), .int (nI c), .int (nI (d / c)), .int (nI (d % c))])), (q 1, .inl (cI, 150, .inl (F 0))), (q 2, .inl (cI, 84, .inl (F 1))), (q 3, .inl (cI, 128, .inl (F 2))), (q 4, .inl (cI, 32, .inl (F 3))), (q 5, .inl (cI, 32, .inl (F 4))), (q 6, .inr (1, [.ref (q 7), .ref (q 8), .int (X 0)])), (q 7, .inl (cI, 8, .inl (F 5))), (q 8, .inl (cI, 64, .inl (F 6))), (q 9, .inr (0, [.ref (q 10), .ref (q 13), .ref (q 14), .ref (q 15), .ref (q 16), .ref (q 17)])), (q 10, .inr (1, [.ref (q 11), .ref (q 12), .int (X 1)])), (q 11, .inl (cI, 8, .inl (F 7))), (q 12, .inl (cI, 64, .inl (F 8))), (q 13, .inl (cI, 64, .inl (F 9))), (q 14, .inl (cI, 64, .inl (F 10))), (q 15, .inl (cI, 32, .inl (F 11))), (q 16, .inl (cI, 8, .inl (F 12))), (q 17, .inl (cI, 8, .inl (F 13)))] (fun r u => r = (ka_four x (p, np, s, ns, c, w, d)).1 ∧ u.1 = (ka_four x (p, np, s, ns, c, w, d)).2 ∧ kC u.1 u.2.1) (fun u : kA × (Nat → Nat → Int32) × (Nat → Int32) => [(q 0, .inr (2, [.ref (q 1), .ref (q 2), .ref (q 3), .ref (q 4), .ref (q 5), .ref (q 6), .ref (q 9), .int (nI u.1.2.1), .int (nI u.1.2.2.2.1), .int (nI u.1.2.2.2.2.2.1), .int (nI u.1.2.2.2.2.1), .int (nI (u.1.2.2.2.2.2.2 / u.1.2.2.2.2.1)), .int (nI (u.1.2.2.2.2.2.2 % u.1.2.2.2.2.1))])), (q 1, .inl (cI, 150, .inl (u.2.1 0))), (q 2, .inl (cI, 84, .inl (u.2.1 1))), (q 3, .inl (cI, 128, .inl (u.2.1 2))), (q 4, .inl (cI, 32, .inl (u.2.1 3))), (q 5, .inl (cI, 32, .inl (u.2.1 4))), (q 6, .inr (1, [.ref (q 7), .ref (q 8), .int (u.2.2 0)])), (q 7, .inl (cI, 8, .inl (u.2.1 5))), (q 8, .inl (cI, 64, .inl (u.2.1 6))), (q 9, .inr (0, [.ref (q 10), .ref (q 13), .ref (q 14), .ref (q 15), .ref (q 16), .ref (q 17)])), (q 10, .inr (1, [.ref (q 11), .ref (q 12), .int (u.2.2 1)])), (q 11, .inl (cI, 8, .inl (u.2.1 7))), (q 12, .inl (cI, 64, .inl (u.2.1 8))), (q 13, .inl (cI, 64, .inl (u.2.1 9))), (q 14, .inl (cI, 64, .inl (u.2.1 10))), (q 15, .inl (cI, 32, .inl (u.2.1 11))), (q 16, .inl (cI, 8, .inl (u.2.1 12))), (q 17, .inl (cI, 8, .inl (u.2.1 13)))]) := by
  refine xMi.of (lv := [(0, .ref (q 0)), (1, .int x)]) (by decide) (Nat.le_of_ble_eq_true rfl) rfl ?_
  intro pp ee ss mm bel met cod A ls H locs hx hb hml hr hlk hts hown hnm hA hK hst hP hD hS hl
  have hown : ss.vm.findClass R_KeyMaker = some mm.cls := hown
  have hA0 := hAb
  have hC0 := hC
  obtain ⟨hA1, hA2, hA3, hA4, hA5, hA6, hA7, hA8, hA9⟩ := hAb
  obtain ⟨hC1, hC2, hC3⟩ := hC
  have hcd := kA_c0 hA0
  have hka := kt_all_le hA6 hA5
  have hdc := Nat.div_le_self d c
  refine lv_aload_n hx hb d_KeyMaker_four_0 rfl (lv_at hl 0 rfl) ?_
  refine xc_i (wr := [(q 1, .inl (cI, 150, .inl (F 0))), (q 2, .inl (cI, 84, .inl (F 1))), (q 3, .inl (cI, 128, .inl (F 2))), (q 4, .inl (cI, 32, .inl (F 3))), (q 5, .inl (cI, 32, .inl (F 4))), (q 6, .inr (1, [.ref (q 7), .ref (q 8), .int (X 0)])), (q 7, .inl (cI, 8, .inl (F 5))), (q 8, .inl (cI, 64, .inl (F 6))), (q 9, .inr (0, [.ref (q 10), .ref (q 13), .ref (q 14), .ref (q 15), .ref (q 16), .ref (q 17)])), (q 10, .inr (1, [.ref (q 11), .ref (q 12), .int (X 1)])), (q 11, .inl (cI, 8, .inl (F 7))), (q 12, .inl (cI, 64, .inl (F 8))), (q 13, .inl (cI, 64, .inl (F 9))), (q 14, .inl (cI, 64, .inl (F 10))), (q 15, .inl (cI, 32, .inl (F 11))), (q 16, .inl (cI, 8, .inl (F 12))), (q 17, .inl (cI, 8, .inl (F 13)))]) (va_runV (As := []) (rest := []) ⟨hx, hb, hml, hown, hts⟩ (c_isStarted l G cI cB tK tH H.size q (nI np) (nI ns) (nI c) (nI (d / c)) (nI (d % c)) w (by omega)) (cwV 0 hts (xg_V tw_128 tw_130 tw_1 tw_17 tw_131) rfl rfl rfl (by decide +kernel) ⟨Nat.le_of_ble_eq_true rfl, Nat.le_of_ble_eq_true rfl⟩) (xc_preV hK hst hA hP hD hS [0] (by decide) rfl 0 rfl rfl) rfl rfl hl.1 rfl (lv_room (Nat.le_of_ble_eq_true rfl)) d_KeyMaker_four_1 ⟨Nat.le_of_ble_eq_true rfl, Nat.le_of_ble_eq_true rfl⟩) hA hP hD hS [0] [1, 2, 3, 4, 5, 6, 7, 8, 9, 10, 11, 12, 13, 14, 15, 16, 17] rfl rfl (by decide) (by decide) (fun r2 u1 H locs hs hP hD hS => ?_)
  have hP : va_P G classes [(q 1, .inl (cI, 150, .inl (F 0))), (q 2, .inl (cI, 84, .inl (F 1))), (q 3, .inl (cI, 128, .inl (F 2))), (q 4, .inl (cI, 32, .inl (F 3))), (q 5, .inl (cI, 32, .inl (F 4))), (q 6, .inr (1, [.ref (q 7), .ref (q 8), .int (X 0)])), (q 7, .inl (cI, 8, .inl (F 5))), (q 8, .inl (cI, 64, .inl (F 6))), (q 9, .inr (0, [.ref (q 10), .ref (q 13), .ref (q 14), .ref (q 15), .ref (q 16), .ref (q 17)])), (q 10, .inr (1, [.ref (q 11), .ref (q 12), .int (X 1)])), (q 11, .inl (cI, 8, .inl (F 7))), (q 12, .inl (cI, 64, .inl (F 8))), (q 13, .inl (cI, 64, .inl (F 9))), (q 14, .inl (cI, 64, .inl (F 10))), (q 15, .inl (cI, 32, .inl (F 11))), (q 16, .inl (cI, 8, .inl (F 12))), (q 17, .inl (cI, 8, .inl (F 13))), (q 0, .inr (2, [.ref (q 1), .ref (q 2), .ref (q 3), .ref (q 4), .ref (q 5), .ref (q 6), .ref (q 9), .int (nI np), .int (nI ns), .int (nI w), .int (nI c), .int (nI (d / c)), .int (nI (d % c))]))] H := hP
  have hD : va_D A [(q 1, .inl (cI, 150, .inl (F 0))), (q 2, .inl (cI, 84, .inl (F 1))), (q 3, .inl (cI, 128, .inl (F 2))), (q 4, .inl (cI, 32, .inl (F 3))), (q 5, .inl (cI, 32, .inl (F 4))), (q 6, .inr (1, [.ref (q 7), .ref (q 8), .int (X 0)])), (q 7, .inl (cI, 8, .inl (F 5))), (q 8, .inl (cI, 64, .inl (F 6))), (q 9, .inr (0, [.ref (q 10), .ref (q 13), .ref (q 14), .ref (q 15), .ref (q 16), .ref (q 17)])), (q 10, .inr (1, [.ref (q 11), .ref (q 12), .int (X 1)])), (q 11, .inl (cI, 8, .inl (F 7))), (q 12, .inl (cI, 64, .inl (F 8))), (q 13, .inl (cI, 64, .inl (F 9))), (q 14, .inl (cI, 64, .inl (F 10))), (q 15, .inl (cI, 32, .inl (F 11))), (q 16, .inl (cI, 8, .inl (F 12))), (q 17, .inl (cI, 8, .inl (F 13))), (q 0, .inr (2, [.ref (q 1), .ref (q 2), .ref (q 3), .ref (q 4), .ref (q 5), .ref (q 6), .ref (q 9), .int (nI np), .int (nI ns), .int (nI w), .int (nI c), .int (nI (d / c)), .int (nI (d % c))]))] := hD
  rcases hs with ⟨hw, rfl⟩ | ⟨hw, rfl⟩
  · refine lv_if_ne (tgt := 19) hx hb d_KeyMaker_four_4 (by decide) (fun _ => ?_) (fun hc => absurd hc (by decide))
    refine lv_iconst (v := 0) hx hb d_KeyMaker_four_19 (by decide) ?_
    have hk : ka_four x (p, np, s, ns, c, w, d) = (0, (p, np, s, ns, c, w, d)) := if_neg (fun z => by omega)
    exact xe_z ((p, np, s, ns, c, w, d), (fun z => match z with | 0 => F 0 | 1 => F 1 | 2 => F 2 | 3 => F 3 | 4 => F 4 | 5 => F 5 | 6 => F 6 | 7 => F 7 | 8 => F 8 | 9 => F 9 | 10 => F 10 | 11 => F 11 | 12 => F 12 | _ => F 13), (fun z => match z with | 0 => X 0 | _ => X 1)) hx hb hr (by decide) hlk hK (⟨by rw [hk], by rw [hk], kC_same hC0 rfl rfl rfl rfl rfl rfl⟩) (hP.sub (ws' := [(q 0, .inr (2, [.ref (q 1), .ref (q 2), .ref (q 3), .ref (q 4), .ref (q 5), .ref (q 6), .ref (q 9), .int (nI np), .int (nI ns), .int (nI w), .int (nI c), .int (nI (d / c)), .int (nI (d % c))])), (q 1, .inl (cI, 150, .inl (F 0))), (q 2, .inl (cI, 84, .inl (F 1))), (q 3, .inl (cI, 128, .inl (F 2))), (q 4, .inl (cI, 32, .inl (F 3))), (q 5, .inl (cI, 32, .inl (F 4))), (q 6, .inr (1, [.ref (q 7), .ref (q 8), .int (X 0)])), (q 7, .inl (cI, 8, .inl (F 5))), (q 8, .inl (cI, 64, .inl (F 6))), (q 9, .inr (0, [.ref (q 10), .ref (q 13), .ref (q 14), .ref (q 15), .ref (q 16), .ref (q 17)])), (q 10, .inr (1, [.ref (q 11), .ref (q 12), .int (X 1)])), (q 11, .inl (cI, 8, .inl (F 7))), (q 12, .inl (cI, 64, .inl (F 8))), (q 13, .inl (cI, 64, .inl (F 9))), (q 14, .inl (cI, 64, .inl (F 10))), (q 15, .inl (cI, 32, .inl (F 11))), (q 16, .inl (cI, 8, .inl (F 12))), (q 17, .inl (cI, 8, .inl (F 13)))]) [17, 0, 1, 2, 3, 4, 5, 6, 7, 8, 9, 10, 11, 12, 13, 14, 15, 16] rfl) (hD.sub (ws' := [(q 0, .inr (2, [.ref (q 1), .ref (q 2), .ref (q 3), .ref (q 4), .ref (q 5), .ref (q 6), .ref (q 9), .int (nI np), .int (nI ns), .int (nI w), .int (nI c), .int (nI (d / c)), .int (nI (d % c))])), (q 1, .inl (cI, 150, .inl (F 0))), (q 2, .inl (cI, 84, .inl (F 1))), (q 3, .inl (cI, 128, .inl (F 2))), (q 4, .inl (cI, 32, .inl (F 3))), (q 5, .inl (cI, 32, .inl (F 4))), (q 6, .inr (1, [.ref (q 7), .ref (q 8), .int (X 0)])), (q 7, .inl (cI, 8, .inl (F 5))), (q 8, .inl (cI, 64, .inl (F 6))), (q 9, .inr (0, [.ref (q 10), .ref (q 13), .ref (q 14), .ref (q 15), .ref (q 16), .ref (q 17)])), (q 10, .inr (1, [.ref (q 11), .ref (q 12), .int (X 1)])), (q 11, .inl (cI, 8, .inl (F 7))), (q 12, .inl (cI, 64, .inl (F 8))), (q 13, .inl (cI, 64, .inl (F 9))), (q 14, .inl (cI, 64, .inl (F 10))), (q 15, .inl (cI, 32, .inl (F 11))), (q 16, .inl (cI, 8, .inl (F 12))), (q 17, .inl (cI, 8, .inl (F 13)))]) [17, 0, 1, 2, 3, 4, 5, 6, 7, 8, 9, 10, 11, 12, 13, 14, 15, 16] (by decide) rfl) hS d_KeyMaker_four_20 (by decide) (by decide)
  · refine lv_if_ne (tgt := 19) hx hb d_KeyMaker_four_4 (by decide) (fun hc => absurd hc (by decide)) (fun _ => ?_)
    refine lv_aload_n hx hb d_KeyMaker_four_7 rfl (lv_at hl 0 rfl) ?_
    refine va_get (D := G) (ci := 2) (v := .int (nI np)) (C := R_KeyMaker) (T := F_KeyMaker) (N := 13) hx hb hts hi_KeyMaker hown hK hP 17 rfl rfl 7 (by decide) (hts _ tw_88) (fun _ h9 => h9) rfl d_KeyMaker_four_8 ?_
    refine lv_iconst (v := 4) hx hb d_KeyMaker_four_11 (by decide) ?_
    refine lv_iadd hx hb d_KeyMaker_four_12 ?_
    refine lv_topi (fun y5 ey5 => ?_)
    obtain rfl : y5 = nI (np + 4) := ey5.trans (nI_add np 4)
    refine lv_sipush (v := 150) hx hb d_KeyMaker_four_13 (by decide) ?_
    refine lv_icmp_le (tgt := 21) hx hb d_KeyMaker_four_16 (by decide) (fun hn => ?_) (fun hn => ?_)
    · have hn : (np + 4) ≤ 150 := (nI_leI (a := (np + 4)) (b := 150) (by omega) (by omega)).mp hn
      refine lv_iload_n hx hb d_KeyMaker_four_21 rfl (lv_at hl 1 rfl) ?_
      refine lv_aload_n hx hb d_KeyMaker_four_22 rfl (lv_at hl 0 rfl) ?_
      refine va_get (D := G) (ci := 2) (v := .ref (q 1)) (C := R_KeyMaker) (T := F_KeyMaker) (N := 13) hx hb hts hi_KeyMaker hown hK hP 17 rfl rfl 0 (by decide) (hts _ tw_81) (fun _ h9 => h9) rfl d_KeyMaker_four_23 ?_
      refine lv_aload_n hx hb d_KeyMaker_four_26 rfl (lv_at hl 0 rfl) ?_
      refine va_get (D := G) (ci := 2) (v := .int (nI np)) (C := R_KeyMaker) (T := F_KeyMaker) (N := 13) hx hb hts hi_KeyMaker hown hK hP 17 rfl rfl 7 (by decide) (hts _ tw_88) (fun _ h9 => h9) rfl d_KeyMaker_four_27 ?_
      refine xc_v (wr := [(q 2, .inl (cI, 84, .inl (F 1))), (q 3, .inl (cI, 128, .inl (F 2))), (q 4, .inl (cI, 32, .inl (F 3))), (q 5, .inl (cI, 32, .inl (F 4))), (q 6, .inr (1, [.ref (q 7), .ref (q 8), .int (X 0)])), (q 7, .inl (cI, 8, .inl (F 5))), (q 8, .inl (cI, 64, .inl (F 6))), (q 9, .inr (0, [.ref (q 10), .ref (q 13), .ref (q 14), .ref (q 15), .ref (q 16), .ref (q 17)])), (q 10, .inr (1, [.ref (q 11), .ref (q 12), .int (X 1)])), (q 11, .inl (cI, 8, .inl (F 7))), (q 12, .inl (cI, 64, .inl (F 8))), (q 13, .inl (cI, 64, .inl (F 9))), (q 14, .inl (cI, 64, .inl (F 10))), (q 15, .inl (cI, 32, .inl (F 11))), (q 16, .inl (cI, 8, .inl (F 12))), (q 17, .inl (cI, 8, .inl (F 13))), (q 0, .inr (2, [.ref (q 1), .ref (q 2), .ref (q 3), .ref (q 4), .ref (q 5), .ref (q 6), .ref (q 9), .int (nI np), .int (nI ns), .int (nI w), .int (nI c), .int (nI (d / c)), .int (nI (d % c))]))]) (va_runS (As := [.int x, .ref (q 1), .int (nI np)]) (rest := []) ⟨hx, hb, hml, hown, hts⟩ (c_putWord l G cI cB tK tH H.size (q 1) 150 np (F 0) x (by omega) (by omega)) (va_cwS 3 hts (xg_S tw_136 tw_137 tw_17 tw_138) rfl rfl rfl (by decide +kernel) ⟨Nat.le_of_ble_eq_true rfl, Nat.le_of_ble_eq_true rfl⟩) (xc_pre hK hst hA hP hD hS [0] (by decide) rfl [.int x, .ref (q 1), .int (nI np)]) rfl rfl hl.1 rfl (lv_room (Nat.le_of_ble_eq_true rfl)) d_KeyMaker_four_30 ⟨Nat.le_of_ble_eq_true rfl, Nat.le_of_ble_eq_true rfl⟩) hA hP hD hS [0] [1, 2, 3, 4, 5, 6, 7, 8, 9, 10, 11, 12, 13, 14, 15, 16, 17] rfl rfl (by decide) (by decide) (fun u6 H locs hp7 hP hD hS => ?_)
      have hP : va_P G classes [(q 2, .inl (cI, 84, .inl (F 1))), (q 3, .inl (cI, 128, .inl (F 2))), (q 4, .inl (cI, 32, .inl (F 3))), (q 5, .inl (cI, 32, .inl (F 4))), (q 6, .inr (1, [.ref (q 7), .ref (q 8), .int (X 0)])), (q 7, .inl (cI, 8, .inl (F 5))), (q 8, .inl (cI, 64, .inl (F 6))), (q 9, .inr (0, [.ref (q 10), .ref (q 13), .ref (q 14), .ref (q 15), .ref (q 16), .ref (q 17)])), (q 10, .inr (1, [.ref (q 11), .ref (q 12), .int (X 1)])), (q 11, .inl (cI, 8, .inl (F 7))), (q 12, .inl (cI, 64, .inl (F 8))), (q 13, .inl (cI, 64, .inl (F 9))), (q 14, .inl (cI, 64, .inl (F 10))), (q 15, .inl (cI, 32, .inl (F 11))), (q 16, .inl (cI, 8, .inl (F 12))), (q 17, .inl (cI, 8, .inl (F 13))), (q 0, .inr (2, [.ref (q 1), .ref (q 2), .ref (q 3), .ref (q 4), .ref (q 5), .ref (q 6), .ref (q 9), .int (nI np), .int (nI ns), .int (nI w), .int (nI c), .int (nI (d / c)), .int (nI (d % c))])), (q 1, .inl (cI, 150, .inl (km_put (F 0) np x)))] H := hP
      have hD : va_D A [(q 2, .inl (cI, 84, .inl (F 1))), (q 3, .inl (cI, 128, .inl (F 2))), (q 4, .inl (cI, 32, .inl (F 3))), (q 5, .inl (cI, 32, .inl (F 4))), (q 6, .inr (1, [.ref (q 7), .ref (q 8), .int (X 0)])), (q 7, .inl (cI, 8, .inl (F 5))), (q 8, .inl (cI, 64, .inl (F 6))), (q 9, .inr (0, [.ref (q 10), .ref (q 13), .ref (q 14), .ref (q 15), .ref (q 16), .ref (q 17)])), (q 10, .inr (1, [.ref (q 11), .ref (q 12), .int (X 1)])), (q 11, .inl (cI, 8, .inl (F 7))), (q 12, .inl (cI, 64, .inl (F 8))), (q 13, .inl (cI, 64, .inl (F 9))), (q 14, .inl (cI, 64, .inl (F 10))), (q 15, .inl (cI, 32, .inl (F 11))), (q 16, .inl (cI, 8, .inl (F 12))), (q 17, .inl (cI, 8, .inl (F 13))), (q 0, .inr (2, [.ref (q 1), .ref (q 2), .ref (q 3), .ref (q 4), .ref (q 5), .ref (q 6), .ref (q 9), .int (nI np), .int (nI ns), .int (nI w), .int (nI c), .int (nI (d / c)), .int (nI (d % c))])), (q 1, .inl (cI, 150, .inl (km_put (F 0) np x)))] := hD
      refine lv_aload_n hx hb d_KeyMaker_four_33 rfl (lv_at hl 0 rfl) ?_
      refine lv_dup hx hb d_KeyMaker_four_34 rfl ?_
      refine va_get (D := G) (ci := 2) (v := .int (nI np)) (C := R_KeyMaker) (T := F_KeyMaker) (N := 13) hx hb hts hi_KeyMaker hown hK hP 16 rfl rfl 7 (by decide) (hts _ tw_88) (fun _ h9 => h9) rfl d_KeyMaker_four_35 ?_
      refine lv_iconst (v := 4) hx hb d_KeyMaker_four_38 (by decide) ?_
      refine lv_iadd hx hb d_KeyMaker_four_39 ?_
      refine lv_topi (fun y9 ey9 => ?_)
      obtain rfl : y9 = nI (np + 4) := ey9.trans (nI_add np 4)
      refine va_put (D := G) (ci := 2) (v := .int (nI (np + 4))) (ty := .int) (C := R_KeyMaker) (T := F_KeyMaker) (N := 13) hx hb hts hi_KeyMaker t_KeyMaker t_KeyMaker_ok n_KeyMaker hown hK hP hD hS 16 rfl rfl 7 (by decide) (hts _ tw_88) (fun _ h9 => h9) rfl (by decide +kernel) rfl rfl (Nat.le_of_ble_eq_true rfl) d_KeyMaker_four_40 (fun H locs hP hD hS => ?_)
      have hP : va_P G classes [(q 2, .inl (cI, 84, .inl (F 1))), (q 3, .inl (cI, 128, .inl (F 2))), (q 4, .inl (cI, 32, .inl (F 3))), (q 5, .inl (cI, 32, .inl (F 4))), (q 6, .inr (1, [.ref (q 7), .ref (q 8), .int (X 0)])), (q 7, .inl (cI, 8, .inl (F 5))), (q 8, .inl (cI, 64, .inl (F 6))), (q 9, .inr (0, [.ref (q 10), .ref (q 13), .ref (q 14), .ref (q 15), .ref (q 16), .ref (q 17)])), (q 10, .inr (1, [.ref (q 11), .ref (q 12), .int (X 1)])), (q 11, .inl (cI, 8, .inl (F 7))), (q 12, .inl (cI, 64, .inl (F 8))), (q 13, .inl (cI, 64, .inl (F 9))), (q 14, .inl (cI, 64, .inl (F 10))), (q 15, .inl (cI, 32, .inl (F 11))), (q 16, .inl (cI, 8, .inl (F 12))), (q 17, .inl (cI, 8, .inl (F 13))), (q 0, .inr (2, [.ref (q 1), .ref (q 2), .ref (q 3), .ref (q 4), .ref (q 5), .ref (q 6), .ref (q 9), .int (nI (np + 4)), .int (nI ns), .int (nI w), .int (nI c), .int (nI (d / c)), .int (nI (d % c))])), (q 1, .inl (cI, 150, .inl (km_put (F 0) np x)))] H := hP
      have hD : va_D A [(q 2, .inl (cI, 84, .inl (F 1))), (q 3, .inl (cI, 128, .inl (F 2))), (q 4, .inl (cI, 32, .inl (F 3))), (q 5, .inl (cI, 32, .inl (F 4))), (q 6, .inr (1, [.ref (q 7), .ref (q 8), .int (X 0)])), (q 7, .inl (cI, 8, .inl (F 5))), (q 8, .inl (cI, 64, .inl (F 6))), (q 9, .inr (0, [.ref (q 10), .ref (q 13), .ref (q 14), .ref (q 15), .ref (q 16), .ref (q 17)])), (q 10, .inr (1, [.ref (q 11), .ref (q 12), .int (X 1)])), (q 11, .inl (cI, 8, .inl (F 7))), (q 12, .inl (cI, 64, .inl (F 8))), (q 13, .inl (cI, 64, .inl (F 9))), (q 14, .inl (cI, 64, .inl (F 10))), (q 15, .inl (cI, 32, .inl (F 11))), (q 16, .inl (cI, 8, .inl (F 12))), (q 17, .inl (cI, 8, .inl (F 13))), (q 0, .inr (2, [.ref (q 1), .ref (q 2), .ref (q 3), .ref (q 4), .ref (q 5), .ref (q 6), .ref (q 9), .int (nI (np + 4)), .int (nI ns), .int (nI w), .int (nI c), .int (nI (d / c)), .int (nI (d % c))])), (q 1, .inl (cI, 150, .inl (km_put (F 0) np x)))] := hD
      refine lv_iconst (v := 1) hx hb d_KeyMaker_four_43 (by decide) ?_
      have hk : ka_four x (p, np, s, ns, c, w, d) = (1, (km_put p np x, np + 4, s, ns, c, w, d)) := if_pos ⟨hw, hn⟩
      exact xe_z ((km_put p np x, np + 4, s, ns, c, w, d), (fun z => match z with | 0 => km_put (F 0) np x | 1 => F 1 | 2 => F 2 | 3 => F 3 | 4 => F 4 | 5 => F 5 | 6 => F 6 | 7 => F 7 | 8 => F 8 | 9 => F 9 | 10 => F 10 | 11 => F 11 | 12 => F 12 | _ => F 13), (fun z => match z with | 0 => X 0 | _ => X 1)) hx hb hr (by decide) hlk hK (⟨by rw [hk], by rw [hk], kC_four hC0 x hw rfl rfl⟩) (hP.sub (ws' := [(q 0, .inr (2, [.ref (q 1), .ref (q 2), .ref (q 3), .ref (q 4), .ref (q 5), .ref (q 6), .ref (q 9), .int (nI (np + 4)), .int (nI ns), .int (nI w), .int (nI c), .int (nI (d / c)), .int (nI (d % c))])), (q 1, .inl (cI, 150, .inl (km_put (F 0) np x))), (q 2, .inl (cI, 84, .inl (F 1))), (q 3, .inl (cI, 128, .inl (F 2))), (q 4, .inl (cI, 32, .inl (F 3))), (q 5, .inl (cI, 32, .inl (F 4))), (q 6, .inr (1, [.ref (q 7), .ref (q 8), .int (X 0)])), (q 7, .inl (cI, 8, .inl (F 5))), (q 8, .inl (cI, 64, .inl (F 6))), (q 9, .inr (0, [.ref (q 10), .ref (q 13), .ref (q 14), .ref (q 15), .ref (q 16), .ref (q 17)])), (q 10, .inr (1, [.ref (q 11), .ref (q 12), .int (X 1)])), (q 11, .inl (cI, 8, .inl (F 7))), (q 12, .inl (cI, 64, .inl (F 8))), (q 13, .inl (cI, 64, .inl (F 9))), (q 14, .inl (cI, 64, .inl (F 10))), (q 15, .inl (cI, 32, .inl (F 11))), (q 16, .inl (cI, 8, .inl (F 12))), (q 17, .inl (cI, 8, .inl (F 13)))]) [16, 17, 0, 1, 2, 3, 4, 5, 6, 7, 8, 9, 10, 11, 12, 13, 14, 15] rfl) (hD.sub (ws' := [(q 0, .inr (2, [.ref (q 1), .ref (q 2), .ref (q 3), .ref (q 4), .ref (q 5), .ref (q 6), .ref (q 9), .int (nI (np + 4)), .int (nI ns), .int (nI w), .int (nI c), .int (nI (d / c)), .int (nI (d % c))])), (q 1, .inl (cI, 150, .inl (km_put (F 0) np x))), (q 2, .inl (cI, 84, .inl (F 1))), (q 3, .inl (cI, 128, .inl (F 2))), (q 4, .inl (cI, 32, .inl (F 3))), (q 5, .inl (cI, 32, .inl (F 4))), (q 6, .inr (1, [.ref (q 7), .ref (q 8), .int (X 0)])), (q 7, .inl (cI, 8, .inl (F 5))), (q 8, .inl (cI, 64, .inl (F 6))), (q 9, .inr (0, [.ref (q 10), .ref (q 13), .ref (q 14), .ref (q 15), .ref (q 16), .ref (q 17)])), (q 10, .inr (1, [.ref (q 11), .ref (q 12), .int (X 1)])), (q 11, .inl (cI, 8, .inl (F 7))), (q 12, .inl (cI, 64, .inl (F 8))), (q 13, .inl (cI, 64, .inl (F 9))), (q 14, .inl (cI, 64, .inl (F 10))), (q 15, .inl (cI, 32, .inl (F 11))), (q 16, .inl (cI, 8, .inl (F 12))), (q 17, .inl (cI, 8, .inl (F 13)))]) [16, 17, 0, 1, 2, 3, 4, 5, 6, 7, 8, 9, 10, 11, 12, 13, 14, 15] (by decide) rfl) hS d_KeyMaker_four_44 (by decide) (by decide)
    · have hn : ¬ (np + 4) ≤ 150 := fun z => hn ((nI_leI (a := (np + 4)) (b := 150) (by omega) (by omega)).mpr z)
      refine lv_iconst (v := 0) hx hb d_KeyMaker_four_19 (by decide) ?_
      have hk : ka_four x (p, np, s, ns, c, w, d) = (0, (p, np, s, ns, c, w, d)) := if_neg (fun z => by omega)
      exact xe_z ((p, np, s, ns, c, w, d), (fun z => match z with | 0 => F 0 | 1 => F 1 | 2 => F 2 | 3 => F 3 | 4 => F 4 | 5 => F 5 | 6 => F 6 | 7 => F 7 | 8 => F 8 | 9 => F 9 | 10 => F 10 | 11 => F 11 | 12 => F 12 | _ => F 13), (fun z => match z with | 0 => X 0 | _ => X 1)) hx hb hr (by decide) hlk hK (⟨by rw [hk], by rw [hk], kC_same hC0 rfl rfl rfl rfl rfl rfl⟩) (hP.sub (ws' := [(q 0, .inr (2, [.ref (q 1), .ref (q 2), .ref (q 3), .ref (q 4), .ref (q 5), .ref (q 6), .ref (q 9), .int (nI np), .int (nI ns), .int (nI w), .int (nI c), .int (nI (d / c)), .int (nI (d % c))])), (q 1, .inl (cI, 150, .inl (F 0))), (q 2, .inl (cI, 84, .inl (F 1))), (q 3, .inl (cI, 128, .inl (F 2))), (q 4, .inl (cI, 32, .inl (F 3))), (q 5, .inl (cI, 32, .inl (F 4))), (q 6, .inr (1, [.ref (q 7), .ref (q 8), .int (X 0)])), (q 7, .inl (cI, 8, .inl (F 5))), (q 8, .inl (cI, 64, .inl (F 6))), (q 9, .inr (0, [.ref (q 10), .ref (q 13), .ref (q 14), .ref (q 15), .ref (q 16), .ref (q 17)])), (q 10, .inr (1, [.ref (q 11), .ref (q 12), .int (X 1)])), (q 11, .inl (cI, 8, .inl (F 7))), (q 12, .inl (cI, 64, .inl (F 8))), (q 13, .inl (cI, 64, .inl (F 9))), (q 14, .inl (cI, 64, .inl (F 10))), (q 15, .inl (cI, 32, .inl (F 11))), (q 16, .inl (cI, 8, .inl (F 12))), (q 17, .inl (cI, 8, .inl (F 13)))]) [17, 0, 1, 2, 3, 4, 5, 6, 7, 8, 9, 10, 11, 12, 13, 14, 15, 16] rfl) (hD.sub (ws' := [(q 0, .inr (2, [.ref (q 1), .ref (q 2), .ref (q 3), .ref (q 4), .ref (q 5), .ref (q 6), .ref (q 9), .int (nI np), .int (nI ns), .int (nI w), .int (nI c), .int (nI (d / c)), .int (nI (d % c))])), (q 1, .inl (cI, 150, .inl (F 0))), (q 2, .inl (cI, 84, .inl (F 1))), (q 3, .inl (cI, 128, .inl (F 2))), (q 4, .inl (cI, 32, .inl (F 3))), (q 5, .inl (cI, 32, .inl (F 4))), (q 6, .inr (1, [.ref (q 7), .ref (q 8), .int (X 0)])), (q 7, .inl (cI, 8, .inl (F 5))), (q 8, .inl (cI, 64, .inl (F 6))), (q 9, .inr (0, [.ref (q 10), .ref (q 13), .ref (q 14), .ref (q 15), .ref (q 16), .ref (q 17)])), (q 10, .inr (1, [.ref (q 11), .ref (q 12), .int (X 1)])), (q 11, .inl (cI, 8, .inl (F 7))), (q 12, .inl (cI, 64, .inl (F 8))), (q 13, .inl (cI, 64, .inl (F 9))), (q 14, .inl (cI, 64, .inl (F 10))), (q 15, .inl (cI, 32, .inl (F 11))), (q 16, .inl (cI, 8, .inl (F 12))), (q 17, .inl (cI, 8, .inl (F 13)))]) [17, 0, 1, 2, 3, 4, 5, 6, 7, 8, 9, 10, 11, 12, 13, 14, 15, 16] (by decide) rfl) hS d_KeyMaker_four_20 (by decide) (by decide)
set_option maxHeartbeats 4000000 in
set_option maxRecDepth 100000 in
theorem c_ksalt (l : Launch) (G : va_G) (cI cB : ClassId) (tK tH sz : Nat) (q : Nat → Nat) (p s : Nat → Int32) (np ns c w d : Nat) (F : Nat → Nat → Int32) (X : Nat → Int32) (b : Int32) (hAb : kA_ok (p, np, s, ns, c, w, d)) (hC : kC (p, np, s, ns, c, w, d) F) : xMi l G cI cB tK tH y_KeyMaker_salt b_KeyMaker_salt 2 (some .boolean) ({ frames := 1, cells := 0, slots := 0, locals := 20 }) [.ref (q 0), .int b] sz [(q 0, .inr (2, [.ref (q 1), .ref (q 2), .ref (q 3), .ref (q 4), .ref (q 5), .ref (q 6), .ref (q 9), .int (nI np), .int (nI ns), .int (nI w), .int (nI c), .int (nI (d / c)), .int (nI (d % c))])), (q 1, .inl (cI, 150, .inl (F 0))), (q 2, .inl (cI, 84, .inl (F 1))), (q 3, .inl (cI, 128, .inl (F 2))), (q 4, .inl (cI, 32, .inl (F 3))), (q 5, .inl (cI, 32, .inl (F 4))), (q 6, .inr (1, [.ref (q 7), .ref (q 8), .int (X 0)])), (q 7, .inl (cI, 8, .inl (F 5))), (q 8, .inl (cI, 64, .inl (F 6))), (q 9, .inr (0, [.ref (q 10), .ref (q 13), .ref (q 14), .ref (q 15), .ref (q 16), .ref (q 17)])), (q 10, .inr (1, [.ref (q 11), .ref (q 12), .int (X 1)])), (q 11, .inl (cI, 8, .inl (F 7))), (q 12, .inl (cI, 64, .inl (F 8))), (q 13, .inl (cI, 64, .inl (F 9))), (q 14, .inl (cI, 64, .inl (F 10))), (q 15, .inl (cI, 32, .inl (F 11))), (q 16, .inl (cI, 8, .inl (F 12))), (q 17, .inl (cI, 8, .inl (F 13)))] (fun r u => r = (ka_salt b (p, np, s, ns, c, w, d)).1 ∧ u.1 = (ka_salt b (p, np, s, ns, c, w, d)).2 ∧ kC u.1 u.2.1) (fun u : kA × (Nat → Nat → Int32) × (Nat → Int32) => [(q 0, .inr (2, [.ref (q 1), .ref (q 2), .ref (q 3), .ref (q 4), .ref (q 5), .ref (q 6), .ref (q 9), .int (nI u.1.2.1), .int (nI u.1.2.2.2.1), .int (nI u.1.2.2.2.2.2.1), .int (nI u.1.2.2.2.2.1), .int (nI (u.1.2.2.2.2.2.2 / u.1.2.2.2.2.1)), .int (nI (u.1.2.2.2.2.2.2 % u.1.2.2.2.2.1))])), (q 1, .inl (cI, 150, .inl (u.2.1 0))), (q 2, .inl (cI, 84, .inl (u.2.1 1))), (q 3, .inl (cI, 128, .inl (u.2.1 2))), (q 4, .inl (cI, 32, .inl (u.2.1 3))), (q 5, .inl (cI, 32, .inl (u.2.1 4))), (q 6, .inr (1, [.ref (q 7), .ref (q 8), .int (u.2.2 0)])), (q 7, .inl (cI, 8, .inl (u.2.1 5))), (q 8, .inl (cI, 64, .inl (u.2.1 6))), (q 9, .inr (0, [.ref (q 10), .ref (q 13), .ref (q 14), .ref (q 15), .ref (q 16), .ref (q 17)])), (q 10, .inr (1, [.ref (q 11), .ref (q 12), .int (u.2.2 1)])), (q 11, .inl (cI, 8, .inl (u.2.1 7))), (q 12, .inl (cI, 64, .inl (u.2.1 8))), (q 13, .inl (cI, 64, .inl (u.2.1 9))), (q 14, .inl (cI, 64, .inl (u.2.1 10))), (q 15, .inl (cI, 32, .inl (u.2.1 11))), (q 16, .inl (cI, 8, .inl (u.2.1 12))), (q 17, .inl (cI, 8, .inl (u.2.1 13)))]) := by
  refine xMi.of (lv := [(0, .ref (q 0)), (1, .int b)]) (by decide) (Nat.le_of_ble_eq_true rfl) rfl ?_
  intro pp ee ss mm bel met cod A ls H locs hx hb hml hr hlk hts hown hnm hA hK hst hP hD hS hl
  have hown : ss.vm.findClass R_KeyMaker = some mm.cls := hown
  have hA0 := hAb
  have hC0 := hC
  obtain ⟨hA1, hA2, hA3, hA4, hA5, hA6, hA7, hA8, hA9⟩ := hAb
  obtain ⟨hC1, hC2, hC3⟩ := hC
  have hcd := kA_c0 hA0
  have hka := kt_all_le hA6 hA5
  have hdc := Nat.div_le_self d c
  refine lv_iload_n hx hb d_KeyMaker_salt_0 rfl (lv_at hl 1 rfl) ?_
  refine xc_i (wr := [(q 0, .inr (2, [.ref (q 1), .ref (q 2), .ref (q 3), .ref (q 4), .ref (q 5), .ref (q 6), .ref (q 9), .int (nI np), .int (nI ns), .int (nI w), .int (nI c), .int (nI (d / c)), .int (nI (d % c))])), (q 1, .inl (cI, 150, .inl (F 0))), (q 2, .inl (cI, 84, .inl (F 1))), (q 3, .inl (cI, 128, .inl (F 2))), (q 4, .inl (cI, 32, .inl (F 3))), (q 5, .inl (cI, 32, .inl (F 4))), (q 6, .inr (1, [.ref (q 7), .ref (q 8), .int (X 0)])), (q 7, .inl (cI, 8, .inl (F 5))), (q 8, .inl (cI, 64, .inl (F 6))), (q 9, .inr (0, [.ref (q 10), .ref (q 13), .ref (q 14), .ref (q 15), .ref (q 16), .ref (q 17)])), (q 10, .inr (1, [.ref (q 11), .ref (q 12), .int (X 1)])), (q 11, .inl (cI, 8, .inl (F 7))), (q 12, .inl (cI, 64, .inl (F 8))), (q 13, .inl (cI, 64, .inl (F 9))), (q 14, .inl (cI, 64, .inl (F 10))), (q 15, .inl (cI, 32, .inl (F 11))), (q 16, .inl (cI, 8, .inl (F 12))), (q 17, .inl (cI, 8, .inl (F 13)))]) (va_runS (As := [.int b]) (rest := []) ⟨hx, hb, hml, hown, hts⟩ (c_isByte l G cI cB tK tH H.size b ) (va_cwS 1 hts (xg_S tw_125 tw_126 tw_17 tw_127) rfl rfl rfl (by decide +kernel) ⟨Nat.le_of_ble_eq_true rfl, Nat.le_of_ble_eq_true rfl⟩) (xc_pre hK hst hA hP hD hS [] (by decide) rfl [.int b]) rfl rfl hl.1 rfl (lv_room (Nat.le_of_ble_eq_true rfl)) d_KeyMaker_salt_1 ⟨Nat.le_of_ble_eq_true rfl, Nat.le_of_ble_eq_true rfl⟩) hA hP hD hS [] [0, 1, 2, 3, 4, 5, 6, 7, 8, 9, 10, 11, 12, 13, 14, 15, 16, 17] rfl rfl (by decide) (by decide) (fun r2 u1 H locs hy hP hD hS => ?_)
  have hP : va_P G classes [(q 0, .inr (2, [.ref (q 1), .ref (q 2), .ref (q 3), .ref (q 4), .ref (q 5), .ref (q 6), .ref (q 9), .int (nI np), .int (nI ns), .int (nI w), .int (nI c), .int (nI (d / c)), .int (nI (d % c))])), (q 1, .inl (cI, 150, .inl (F 0))), (q 2, .inl (cI, 84, .inl (F 1))), (q 3, .inl (cI, 128, .inl (F 2))), (q 4, .inl (cI, 32, .inl (F 3))), (q 5, .inl (cI, 32, .inl (F 4))), (q 6, .inr (1, [.ref (q 7), .ref (q 8), .int (X 0)])), (q 7, .inl (cI, 8, .inl (F 5))), (q 8, .inl (cI, 64, .inl (F 6))), (q 9, .inr (0, [.ref (q 10), .ref (q 13), .ref (q 14), .ref (q 15), .ref (q 16), .ref (q 17)])), (q 10, .inr (1, [.ref (q 11), .ref (q 12), .int (X 1)])), (q 11, .inl (cI, 8, .inl (F 7))), (q 12, .inl (cI, 64, .inl (F 8))), (q 13, .inl (cI, 64, .inl (F 9))), (q 14, .inl (cI, 64, .inl (F 10))), (q 15, .inl (cI, 32, .inl (F 11))), (q 16, .inl (cI, 8, .inl (F 12))), (q 17, .inl (cI, 8, .inl (F 13)))] H := hP
  have hD : va_D A [(q 0, .inr (2, [.ref (q 1), .ref (q 2), .ref (q 3), .ref (q 4), .ref (q 5), .ref (q 6), .ref (q 9), .int (nI np), .int (nI ns), .int (nI w), .int (nI c), .int (nI (d / c)), .int (nI (d % c))])), (q 1, .inl (cI, 150, .inl (F 0))), (q 2, .inl (cI, 84, .inl (F 1))), (q 3, .inl (cI, 128, .inl (F 2))), (q 4, .inl (cI, 32, .inl (F 3))), (q 5, .inl (cI, 32, .inl (F 4))), (q 6, .inr (1, [.ref (q 7), .ref (q 8), .int (X 0)])), (q 7, .inl (cI, 8, .inl (F 5))), (q 8, .inl (cI, 64, .inl (F 6))), (q 9, .inr (0, [.ref (q 10), .ref (q 13), .ref (q 14), .ref (q 15), .ref (q 16), .ref (q 17)])), (q 10, .inr (1, [.ref (q 11), .ref (q 12), .int (X 1)])), (q 11, .inl (cI, 8, .inl (F 7))), (q 12, .inl (cI, 64, .inl (F 8))), (q 13, .inl (cI, 64, .inl (F 9))), (q 14, .inl (cI, 64, .inl (F 10))), (q 15, .inl (cI, 32, .inl (F 11))), (q 16, .inl (cI, 8, .inl (F 12))), (q 17, .inl (cI, 8, .inl (F 13)))] := hD
  rcases hy with ⟨h1, h2, rfl⟩ | ⟨h1, rfl⟩
  · refine lv_if_eq (tgt := 23) hx hb d_KeyMaker_salt_4 (by decide) (fun hc => absurd hc (by decide)) (fun _ => ?_)
    refine lv_aload_n hx hb d_KeyMaker_salt_7 rfl (lv_at hl 0 rfl) ?_
    refine xc_i (wr := [(q 1, .inl (cI, 150, .inl (F 0))), (q 2, .inl (cI, 84, .inl (F 1))), (q 3, .inl (cI, 128, .inl (F 2))), (q 4, .inl (cI, 32, .inl (F 3))), (q 5, .inl (cI, 32, .inl (F 4))), (q 6, .inr (1, [.ref (q 7), .ref (q 8), .int (X 0)])), (q 7, .inl (cI, 8, .inl (F 5))), (q 8, .inl (cI, 64, .inl (F 6))), (q 9, .inr (0, [.ref (q 10), .ref (q 13), .ref (q 14), .ref (q 15), .ref (q 16), .ref (q 17)])), (q 10, .inr (1, [.ref (q 11), .ref (q 12), .int (X 1)])), (q 11, .inl (cI, 8, .inl (F 7))), (q 12, .inl (cI, 64, .inl (F 8))), (q 13, .inl (cI, 64, .inl (F 9))), (q 14, .inl (cI, 64, .inl (F 10))), (q 15, .inl (cI, 32, .inl (F 11))), (q 16, .inl (cI, 8, .inl (F 12))), (q 17, .inl (cI, 8, .inl (F 13)))]) (va_runV (As := []) (rest := []) ⟨hx, hb, hml, hown, hts⟩ (c_isStarted l G cI cB tK tH H.size q (nI np) (nI ns) (nI c) (nI (d / c)) (nI (d % c)) w (by omega)) (cwV 0 hts (xg_V tw_128 tw_130 tw_1 tw_17 tw_131) rfl rfl rfl (by decide +kernel) ⟨Nat.le_of_ble_eq_true rfl, Nat.le_of_ble_eq_true rfl⟩) (xc_preV hK hst hA hP hD hS [0] (by decide) rfl 0 rfl rfl) rfl rfl hl.1 rfl (lv_room (Nat.le_of_ble_eq_true rfl)) d_KeyMaker_salt_8 ⟨Nat.le_of_ble_eq_true rfl, Nat.le_of_ble_eq_true rfl⟩) hA hP hD hS [0] [1, 2, 3, 4, 5, 6, 7, 8, 9, 10, 11, 12, 13, 14, 15, 16, 17] rfl rfl (by decide) (by decide) (fun r5 u4 H locs hs hP hD hS => ?_)
    have hP : va_P G classes [(q 1, .inl (cI, 150, .inl (F 0))), (q 2, .inl (cI, 84, .inl (F 1))), (q 3, .inl (cI, 128, .inl (F 2))), (q 4, .inl (cI, 32, .inl (F 3))), (q 5, .inl (cI, 32, .inl (F 4))), (q 6, .inr (1, [.ref (q 7), .ref (q 8), .int (X 0)])), (q 7, .inl (cI, 8, .inl (F 5))), (q 8, .inl (cI, 64, .inl (F 6))), (q 9, .inr (0, [.ref (q 10), .ref (q 13), .ref (q 14), .ref (q 15), .ref (q 16), .ref (q 17)])), (q 10, .inr (1, [.ref (q 11), .ref (q 12), .int (X 1)])), (q 11, .inl (cI, 8, .inl (F 7))), (q 12, .inl (cI, 64, .inl (F 8))), (q 13, .inl (cI, 64, .inl (F 9))), (q 14, .inl (cI, 64, .inl (F 10))), (q 15, .inl (cI, 32, .inl (F 11))), (q 16, .inl (cI, 8, .inl (F 12))), (q 17, .inl (cI, 8, .inl (F 13))), (q 0, .inr (2, [.ref (q 1), .ref (q 2), .ref (q 3), .ref (q 4), .ref (q 5), .ref (q 6), .ref (q 9), .int (nI np), .int (nI ns), .int (nI w), .int (nI c), .int (nI (d / c)), .int (nI (d % c))]))] H := hP
    have hD : va_D A [(q 1, .inl (cI, 150, .inl (F 0))), (q 2, .inl (cI, 84, .inl (F 1))), (q 3, .inl (cI, 128, .inl (F 2))), (q 4, .inl (cI, 32, .inl (F 3))), (q 5, .inl (cI, 32, .inl (F 4))), (q 6, .inr (1, [.ref (q 7), .ref (q 8), .int (X 0)])), (q 7, .inl (cI, 8, .inl (F 5))), (q 8, .inl (cI, 64, .inl (F 6))), (q 9, .inr (0, [.ref (q 10), .ref (q 13), .ref (q 14), .ref (q 15), .ref (q 16), .ref (q 17)])), (q 10, .inr (1, [.ref (q 11), .ref (q 12), .int (X 1)])), (q 11, .inl (cI, 8, .inl (F 7))), (q 12, .inl (cI, 64, .inl (F 8))), (q 13, .inl (cI, 64, .inl (F 9))), (q 14, .inl (cI, 64, .inl (F 10))), (q 15, .inl (cI, 32, .inl (F 11))), (q 16, .inl (cI, 8, .inl (F 12))), (q 17, .inl (cI, 8, .inl (F 13))), (q 0, .inr (2, [.ref (q 1), .ref (q 2), .ref (q 3), .ref (q 4), .ref (q 5), .ref (q 6), .ref (q 9), .int (nI np), .int (nI ns), .int (nI w), .int (nI c), .int (nI (d / c)), .int (nI (d % c))]))] := hD
    rcases hs with ⟨hw, rfl⟩ | ⟨hw, rfl⟩
    · refine lv_if_ne (tgt := 23) hx hb d_KeyMaker_salt_11 (by decide) (fun _ => ?_) (fun hc => absurd hc (by decide))
      refine lv_iconst (v := 0) hx hb d_KeyMaker_salt_23 (by decide) ?_
      have hk : ka_salt b (p, np, s, ns, c, w, d) = (0, (p, np, s, ns, c, w, d)) := if_neg (fun z => by obtain ⟨z1, z2, z3, z4⟩ := z; first | omega | exact h1.elim z1 z2)
      exact xe_z ((p, np, s, ns, c, w, d), (fun z => match z with | 0 => F 0 | 1 => F 1 | 2 => F 2 | 3 => F 3 | 4 => F 4 | 5 => F 5 | 6 => F 6 | 7 => F 7 | 8 => F 8 | 9 => F 9 | 10 => F 10 | 11 => F 11 | 12 => F 12 | _ => F 13), (fun z => match z with | 0 => X 0 | _ => X 1)) hx hb hr (by decide) hlk hK (⟨by rw [hk], by rw [hk], kC_same hC0 rfl rfl rfl rfl rfl rfl⟩) (hP.sub (ws' := [(q 0, .inr (2, [.ref (q 1), .ref (q 2), .ref (q 3), .ref (q 4), .ref (q 5), .ref (q 6), .ref (q 9), .int (nI np), .int (nI ns), .int (nI w), .int (nI c), .int (nI (d / c)), .int (nI (d % c))])), (q 1, .inl (cI, 150, .inl (F 0))), (q 2, .inl (cI, 84, .inl (F 1))), (q 3, .inl (cI, 128, .inl (F 2))), (q 4, .inl (cI, 32, .inl (F 3))), (q 5, .inl (cI, 32, .inl (F 4))), (q 6, .inr (1, [.ref (q 7), .ref (q 8), .int (X 0)])), (q 7, .inl (cI, 8, .inl (F 5))), (q 8, .inl (cI, 64, .inl (F 6))), (q 9, .inr (0, [.ref (q 10), .ref (q 13), .ref (q 14), .ref (q 15), .ref (q 16), .ref (q 17)])), (q 10, .inr (1, [.ref (q 11), .ref (q 12), .int (X 1)])), (q 11, .inl (cI, 8, .inl (F 7))), (q 12, .inl (cI, 64, .inl (F 8))), (q 13, .inl (cI, 64, .inl (F 9))), (q 14, .inl (cI, 64, .inl (F 10))), (q 15, .inl (cI, 32, .inl (F 11))), (q 16, .inl (cI, 8, .inl (F 12))), (q 17, .inl (cI, 8, .inl (F 13)))]) [17, 0, 1, 2, 3, 4, 5, 6, 7, 8, 9, 10, 11, 12, 13, 14, 15, 16] rfl) (hD.sub (ws' := [(q 0, .inr (2, [.ref (q 1), .ref (q 2), .ref (q 3), .ref (q 4), .ref (q 5), .ref (q 6), .ref (q 9), .int (nI np), .int (nI ns), .int (nI w), .int (nI c), .int (nI (d / c)), .int (nI (d % c))])), (q 1, .inl (cI, 150, .inl (F 0))), (q 2, .inl (cI, 84, .inl (F 1))), (q 3, .inl (cI, 128, .inl (F 2))), (q 4, .inl (cI, 32, .inl (F 3))), (q 5, .inl (cI, 32, .inl (F 4))), (q 6, .inr (1, [.ref (q 7), .ref (q 8), .int (X 0)])), (q 7, .inl (cI, 8, .inl (F 5))), (q 8, .inl (cI, 64, .inl (F 6))), (q 9, .inr (0, [.ref (q 10), .ref (q 13), .ref (q 14), .ref (q 15), .ref (q 16), .ref (q 17)])), (q 10, .inr (1, [.ref (q 11), .ref (q 12), .int (X 1)])), (q 11, .inl (cI, 8, .inl (F 7))), (q 12, .inl (cI, 64, .inl (F 8))), (q 13, .inl (cI, 64, .inl (F 9))), (q 14, .inl (cI, 64, .inl (F 10))), (q 15, .inl (cI, 32, .inl (F 11))), (q 16, .inl (cI, 8, .inl (F 12))), (q 17, .inl (cI, 8, .inl (F 13)))]) [17, 0, 1, 2, 3, 4, 5, 6, 7, 8, 9, 10, 11, 12, 13, 14, 15, 16] (by decide) rfl) hS d_KeyMaker_salt_24 (by decide) (by decide)
    · refine lv_if_ne (tgt := 23) hx hb d_KeyMaker_salt_11 (by decide) (fun hc => absurd hc (by decide)) (fun _ => ?_)
      refine lv_aload_n hx hb d_KeyMaker_salt_14 rfl (lv_at hl 0 rfl) ?_
      refine va_get (D := G) (ci := 2) (v := .int (nI ns)) (C := R_KeyMaker) (T := F_KeyMaker) (N := 13) hx hb hts hi_KeyMaker hown hK hP 17 rfl rfl 8 (by decide) (hts _ tw_89) (fun _ h9 => h9) rfl d_KeyMaker_salt_15 ?_
      refine lv_bipush (v := 80) hx hb d_KeyMaker_salt_18 (by decide) ?_
      refine lv_icmp_lt (tgt := 25) hx hb d_KeyMaker_salt_20 (by decide) (fun hn => ?_) (fun hn => ?_)
      · have hn : ns < 80 := (nI_ltI (a := ns) (b := 80) (by omega) (by omega)).mp hn
        refine lv_aload_n hx hb d_KeyMaker_salt_25 rfl (lv_at hl 0 rfl) ?_
        refine va_get (D := G) (ci := 2) (v := .ref (q 2)) (C := R_KeyMaker) (T := F_KeyMaker) (N := 13) hx hb hts hi_KeyMaker hown hK hP 17 rfl rfl 1 (by decide) (hts _ tw_82) (fun _ h9 => h9) rfl d_KeyMaker_salt_26 ?_
        refine lv_aload_n hx hb d_KeyMaker_salt_29 rfl (lv_at hl 0 rfl) ?_
        refine va_get (D := G) (ci := 2) (v := .int (nI ns)) (C := R_KeyMaker) (T := F_KeyMaker) (N := 13) hx hb hts hi_KeyMaker hown hK hP 17 rfl rfl 8 (by decide) (hts _ tw_89) (fun _ h9 => h9) rfl d_KeyMaker_salt_30 ?_
        refine lv_iload_n hx hb d_KeyMaker_salt_33 rfl (lv_at hl 1 rfl) ?_
        refine xa_iast (k := ns) (f := F 1) (x := b) hx hb hK hP hD hS 1 0 rfl rfl (by omega) (by omega) d_KeyMaker_salt_34 (fun H locs hP hD hS => ?_)
        have hP : va_P G classes [(q 1, .inl (cI, 150, .inl (F 0))), (q 2, .inl (cI, 84, .inl (upd (F 1) ns b))), (q 3, .inl (cI, 128, .inl (F 2))), (q 4, .inl (cI, 32, .inl (F 3))), (q 5, .inl (cI, 32, .inl (F 4))), (q 6, .inr (1, [.ref (q 7), .ref (q 8), .int (X 0)])), (q 7, .inl (cI, 8, .inl (F 5))), (q 8, .inl (cI, 64, .inl (F 6))), (q 9, .inr (0, [.ref (q 10), .ref (q 13), .ref (q 14), .ref (q 15), .ref (q 16), .ref (q 17)])), (q 10, .inr (1, [.ref (q 11), .ref (q 12), .int (X 1)])), (q 11, .inl (cI, 8, .inl (F 7))), (q 12, .inl (cI, 64, .inl (F 8))), (q 13, .inl (cI, 64, .inl (F 9))), (q 14, .inl (cI, 64, .inl (F 10))), (q 15, .inl (cI, 32, .inl (F 11))), (q 16, .inl (cI, 8, .inl (F 12))), (q 17, .inl (cI, 8, .inl (F 13))), (q 0, .inr (2, [.ref (q 1), .ref (q 2), .ref (q 3), .ref (q 4), .ref (q 5), .ref (q 6), .ref (q 9), .int (nI np), .int (nI ns), .int (nI w), .int (nI c), .int (nI (d / c)), .int (nI (d % c))]))] H := hP
        have hD : va_D A [(q 1, .inl (cI, 150, .inl (F 0))), (q 2, .inl (cI, 84, .inl (upd (F 1) ns b))), (q 3, .inl (cI, 128, .inl (F 2))), (q 4, .inl (cI, 32, .inl (F 3))), (q 5, .inl (cI, 32, .inl (F 4))), (q 6, .inr (1, [.ref (q 7), .ref (q 8), .int (X 0)])), (q 7, .inl (cI, 8, .inl (F 5))), (q 8, .inl (cI, 64, .inl (F 6))), (q 9, .inr (0, [.ref (q 10), .ref (q 13), .ref (q 14), .ref (q 15), .ref (q 16), .ref (q 17)])), (q 10, .inr (1, [.ref (q 11), .ref (q 12), .int (X 1)])), (q 11, .inl (cI, 8, .inl (F 7))), (q 12, .inl (cI, 64, .inl (F 8))), (q 13, .inl (cI, 64, .inl (F 9))), (q 14, .inl (cI, 64, .inl (F 10))), (q 15, .inl (cI, 32, .inl (F 11))), (q 16, .inl (cI, 8, .inl (F 12))), (q 17, .inl (cI, 8, .inl (F 13))), (q 0, .inr (2, [.ref (q 1), .ref (q 2), .ref (q 3), .ref (q 4), .ref (q 5), .ref (q 6), .ref (q 9), .int (nI np), .int (nI ns), .int (nI w), .int (nI c), .int (nI (d / c)), .int (nI (d % c))]))] := hD
        refine lv_aload_n hx hb d_KeyMaker_salt_35 rfl (lv_at hl 0 rfl) ?_
        refine lv_dup hx hb d_KeyMaker_salt_36 rfl ?_
        refine va_get (D := G) (ci := 2) (v := .int (nI ns)) (C := R_KeyMaker) (T := F_KeyMaker) (N := 13) hx hb hts hi_KeyMaker hown hK hP 17 rfl rfl 8 (by decide) (hts _ tw_89) (fun _ h9 => h9) rfl d_KeyMaker_salt_37 ?_
        refine lv_iconst (v := 1) hx hb d_KeyMaker_salt_40 (by decide) ?_
        refine lv_iadd hx hb d_KeyMaker_salt_41 ?_
        refine lv_topi (fun y8 ey8 => ?_)
        obtain rfl : y8 = nI (ns + 1) := ey8.trans (nI_add ns 1)
        refine va_put (D := G) (ci := 2) (v := .int (nI (ns + 1))) (ty := .int) (C := R_KeyMaker) (T := F_KeyMaker) (N := 13) hx hb hts hi_KeyMaker t_KeyMaker t_KeyMaker_ok n_KeyMaker hown hK hP hD hS 17 rfl rfl 8 (by decide) (hts _ tw_89) (fun _ h9 => h9) rfl (by decide +kernel) rfl rfl (Nat.le_of_ble_eq_true rfl) d_KeyMaker_salt_42 (fun H locs hP hD hS => ?_)
        have hP : va_P G classes [(q 1, .inl (cI, 150, .inl (F 0))), (q 2, .inl (cI, 84, .inl (upd (F 1) ns b))), (q 3, .inl (cI, 128, .inl (F 2))), (q 4, .inl (cI, 32, .inl (F 3))), (q 5, .inl (cI, 32, .inl (F 4))), (q 6, .inr (1, [.ref (q 7), .ref (q 8), .int (X 0)])), (q 7, .inl (cI, 8, .inl (F 5))), (q 8, .inl (cI, 64, .inl (F 6))), (q 9, .inr (0, [.ref (q 10), .ref (q 13), .ref (q 14), .ref (q 15), .ref (q 16), .ref (q 17)])), (q 10, .inr (1, [.ref (q 11), .ref (q 12), .int (X 1)])), (q 11, .inl (cI, 8, .inl (F 7))), (q 12, .inl (cI, 64, .inl (F 8))), (q 13, .inl (cI, 64, .inl (F 9))), (q 14, .inl (cI, 64, .inl (F 10))), (q 15, .inl (cI, 32, .inl (F 11))), (q 16, .inl (cI, 8, .inl (F 12))), (q 17, .inl (cI, 8, .inl (F 13))), (q 0, .inr (2, [.ref (q 1), .ref (q 2), .ref (q 3), .ref (q 4), .ref (q 5), .ref (q 6), .ref (q 9), .int (nI np), .int (nI (ns + 1)), .int (nI w), .int (nI c), .int (nI (d / c)), .int (nI (d % c))]))] H := hP
        have hD : va_D A [(q 1, .inl (cI, 150, .inl (F 0))), (q 2, .inl (cI, 84, .inl (upd (F 1) ns b))), (q 3, .inl (cI, 128, .inl (F 2))), (q 4, .inl (cI, 32, .inl (F 3))), (q 5, .inl (cI, 32, .inl (F 4))), (q 6, .inr (1, [.ref (q 7), .ref (q 8), .int (X 0)])), (q 7, .inl (cI, 8, .inl (F 5))), (q 8, .inl (cI, 64, .inl (F 6))), (q 9, .inr (0, [.ref (q 10), .ref (q 13), .ref (q 14), .ref (q 15), .ref (q 16), .ref (q 17)])), (q 10, .inr (1, [.ref (q 11), .ref (q 12), .int (X 1)])), (q 11, .inl (cI, 8, .inl (F 7))), (q 12, .inl (cI, 64, .inl (F 8))), (q 13, .inl (cI, 64, .inl (F 9))), (q 14, .inl (cI, 64, .inl (F 10))), (q 15, .inl (cI, 32, .inl (F 11))), (q 16, .inl (cI, 8, .inl (F 12))), (q 17, .inl (cI, 8, .inl (F 13))), (q 0, .inr (2, [.ref (q 1), .ref (q 2), .ref (q 3), .ref (q 4), .ref (q 5), .ref (q 6), .ref (q 9), .int (nI np), .int (nI (ns + 1)), .int (nI w), .int (nI c), .int (nI (d / c)), .int (nI (d % c))]))] := hD
        refine lv_iconst (v := 1) hx hb d_KeyMaker_salt_45 (by decide) ?_
        have hk : ka_salt b (p, np, s, ns, c, w, d) = (1, (p, np, upd s ns b, ns + 1, c, w, d)) := if_pos ⟨h1, h2, hw, hn⟩
        exact xe_z ((p, np, upd s ns b, ns + 1, c, w, d), (fun z => match z with | 0 => F 0 | 1 => upd (F 1) ns b | 2 => F 2 | 3 => F 3 | 4 => F 4 | 5 => F 5 | 6 => F 6 | 7 => F 7 | 8 => F 8 | 9 => F 9 | 10 => F 10 | 11 => F 11 | 12 => F 12 | _ => F 13), (fun z => match z with | 0 => X 0 | _ => X 1)) hx hb hr (by decide) hlk hK (⟨by rw [hk], by rw [hk], kC_salt hC0 b hw rfl rfl⟩) (hP.sub (ws' := [(q 0, .inr (2, [.ref (q 1), .ref (q 2), .ref (q 3), .ref (q 4), .ref (q 5), .ref (q 6), .ref (q 9), .int (nI np), .int (nI (ns + 1)), .int (nI w), .int (nI c), .int (nI (d / c)), .int (nI (d % c))])), (q 1, .inl (cI, 150, .inl (F 0))), (q 2, .inl (cI, 84, .inl (upd (F 1) ns b))), (q 3, .inl (cI, 128, .inl (F 2))), (q 4, .inl (cI, 32, .inl (F 3))), (q 5, .inl (cI, 32, .inl (F 4))), (q 6, .inr (1, [.ref (q 7), .ref (q 8), .int (X 0)])), (q 7, .inl (cI, 8, .inl (F 5))), (q 8, .inl (cI, 64, .inl (F 6))), (q 9, .inr (0, [.ref (q 10), .ref (q 13), .ref (q 14), .ref (q 15), .ref (q 16), .ref (q 17)])), (q 10, .inr (1, [.ref (q 11), .ref (q 12), .int (X 1)])), (q 11, .inl (cI, 8, .inl (F 7))), (q 12, .inl (cI, 64, .inl (F 8))), (q 13, .inl (cI, 64, .inl (F 9))), (q 14, .inl (cI, 64, .inl (F 10))), (q 15, .inl (cI, 32, .inl (F 11))), (q 16, .inl (cI, 8, .inl (F 12))), (q 17, .inl (cI, 8, .inl (F 13)))]) [17, 0, 1, 2, 3, 4, 5, 6, 7, 8, 9, 10, 11, 12, 13, 14, 15, 16] rfl) (hD.sub (ws' := [(q 0, .inr (2, [.ref (q 1), .ref (q 2), .ref (q 3), .ref (q 4), .ref (q 5), .ref (q 6), .ref (q 9), .int (nI np), .int (nI (ns + 1)), .int (nI w), .int (nI c), .int (nI (d / c)), .int (nI (d % c))])), (q 1, .inl (cI, 150, .inl (F 0))), (q 2, .inl (cI, 84, .inl (upd (F 1) ns b))), (q 3, .inl (cI, 128, .inl (F 2))), (q 4, .inl (cI, 32, .inl (F 3))), (q 5, .inl (cI, 32, .inl (F 4))), (q 6, .inr (1, [.ref (q 7), .ref (q 8), .int (X 0)])), (q 7, .inl (cI, 8, .inl (F 5))), (q 8, .inl (cI, 64, .inl (F 6))), (q 9, .inr (0, [.ref (q 10), .ref (q 13), .ref (q 14), .ref (q 15), .ref (q 16), .ref (q 17)])), (q 10, .inr (1, [.ref (q 11), .ref (q 12), .int (X 1)])), (q 11, .inl (cI, 8, .inl (F 7))), (q 12, .inl (cI, 64, .inl (F 8))), (q 13, .inl (cI, 64, .inl (F 9))), (q 14, .inl (cI, 64, .inl (F 10))), (q 15, .inl (cI, 32, .inl (F 11))), (q 16, .inl (cI, 8, .inl (F 12))), (q 17, .inl (cI, 8, .inl (F 13)))]) [17, 0, 1, 2, 3, 4, 5, 6, 7, 8, 9, 10, 11, 12, 13, 14, 15, 16] (by decide) rfl) hS d_KeyMaker_salt_46 (by decide) (by decide)
      · have hn : ¬ ns < 80 := fun z => hn ((nI_ltI (a := ns) (b := 80) (by omega) (by omega)).mpr z)
        refine lv_iconst (v := 0) hx hb d_KeyMaker_salt_23 (by decide) ?_
        have hk : ka_salt b (p, np, s, ns, c, w, d) = (0, (p, np, s, ns, c, w, d)) := if_neg (fun z => by obtain ⟨z1, z2, z3, z4⟩ := z; first | omega | exact h1.elim z1 z2)
        exact xe_z ((p, np, s, ns, c, w, d), (fun z => match z with | 0 => F 0 | 1 => F 1 | 2 => F 2 | 3 => F 3 | 4 => F 4 | 5 => F 5 | 6 => F 6 | 7 => F 7 | 8 => F 8 | 9 => F 9 | 10 => F 10 | 11 => F 11 | 12 => F 12 | _ => F 13), (fun z => match z with | 0 => X 0 | _ => X 1)) hx hb hr (by decide) hlk hK (⟨by rw [hk], by rw [hk], kC_same hC0 rfl rfl rfl rfl rfl rfl⟩) (hP.sub (ws' := [(q 0, .inr (2, [.ref (q 1), .ref (q 2), .ref (q 3), .ref (q 4), .ref (q 5), .ref (q 6), .ref (q 9), .int (nI np), .int (nI ns), .int (nI w), .int (nI c), .int (nI (d / c)), .int (nI (d % c))])), (q 1, .inl (cI, 150, .inl (F 0))), (q 2, .inl (cI, 84, .inl (F 1))), (q 3, .inl (cI, 128, .inl (F 2))), (q 4, .inl (cI, 32, .inl (F 3))), (q 5, .inl (cI, 32, .inl (F 4))), (q 6, .inr (1, [.ref (q 7), .ref (q 8), .int (X 0)])), (q 7, .inl (cI, 8, .inl (F 5))), (q 8, .inl (cI, 64, .inl (F 6))), (q 9, .inr (0, [.ref (q 10), .ref (q 13), .ref (q 14), .ref (q 15), .ref (q 16), .ref (q 17)])), (q 10, .inr (1, [.ref (q 11), .ref (q 12), .int (X 1)])), (q 11, .inl (cI, 8, .inl (F 7))), (q 12, .inl (cI, 64, .inl (F 8))), (q 13, .inl (cI, 64, .inl (F 9))), (q 14, .inl (cI, 64, .inl (F 10))), (q 15, .inl (cI, 32, .inl (F 11))), (q 16, .inl (cI, 8, .inl (F 12))), (q 17, .inl (cI, 8, .inl (F 13)))]) [17, 0, 1, 2, 3, 4, 5, 6, 7, 8, 9, 10, 11, 12, 13, 14, 15, 16] rfl) (hD.sub (ws' := [(q 0, .inr (2, [.ref (q 1), .ref (q 2), .ref (q 3), .ref (q 4), .ref (q 5), .ref (q 6), .ref (q 9), .int (nI np), .int (nI ns), .int (nI w), .int (nI c), .int (nI (d / c)), .int (nI (d % c))])), (q 1, .inl (cI, 150, .inl (F 0))), (q 2, .inl (cI, 84, .inl (F 1))), (q 3, .inl (cI, 128, .inl (F 2))), (q 4, .inl (cI, 32, .inl (F 3))), (q 5, .inl (cI, 32, .inl (F 4))), (q 6, .inr (1, [.ref (q 7), .ref (q 8), .int (X 0)])), (q 7, .inl (cI, 8, .inl (F 5))), (q 8, .inl (cI, 64, .inl (F 6))), (q 9, .inr (0, [.ref (q 10), .ref (q 13), .ref (q 14), .ref (q 15), .ref (q 16), .ref (q 17)])), (q 10, .inr (1, [.ref (q 11), .ref (q 12), .int (X 1)])), (q 11, .inl (cI, 8, .inl (F 7))), (q 12, .inl (cI, 64, .inl (F 8))), (q 13, .inl (cI, 64, .inl (F 9))), (q 14, .inl (cI, 64, .inl (F 10))), (q 15, .inl (cI, 32, .inl (F 11))), (q 16, .inl (cI, 8, .inl (F 12))), (q 17, .inl (cI, 8, .inl (F 13)))]) [17, 0, 1, 2, 3, 4, 5, 6, 7, 8, 9, 10, 11, 12, 13, 14, 15, 16] (by decide) rfl) hS d_KeyMaker_salt_24 (by decide) (by decide)
  · refine lv_if_eq (tgt := 23) hx hb d_KeyMaker_salt_4 (by decide) (fun _ => ?_) (fun hc => absurd hc (by decide))
    refine lv_iconst (v := 0) hx hb d_KeyMaker_salt_23 (by decide) ?_
    have hk : ka_salt b (p, np, s, ns, c, w, d) = (0, (p, np, s, ns, c, w, d)) := if_neg (fun z => by obtain ⟨z1, z2, z3, z4⟩ := z; first | omega | exact h1.elim z1 z2)
    exact xe_z ((p, np, s, ns, c, w, d), (fun z => match z with | 0 => F 0 | 1 => F 1 | 2 => F 2 | 3 => F 3 | 4 => F 4 | 5 => F 5 | 6 => F 6 | 7 => F 7 | 8 => F 8 | 9 => F 9 | 10 => F 10 | 11 => F 11 | 12 => F 12 | _ => F 13), (fun z => match z with | 0 => X 0 | _ => X 1)) hx hb hr (by decide) hlk hK (⟨by rw [hk], by rw [hk], kC_same hC0 rfl rfl rfl rfl rfl rfl⟩) hP hD hS d_KeyMaker_salt_24 (by decide) (by decide)
set_option maxHeartbeats 4000000 in
set_option maxRecDepth 100000 in
theorem c_kstart (l : Launch) (G : va_G) (cI cB : ClassId) (tK tH sz : Nat) (q : Nat → Nat) (p s : Nat → Int32) (np ns c w d : Nat) (F : Nat → Nat → Int32) (X : Nat → Int32) (t b : Int32) (hAb : kA_ok (p, np, s, ns, c, w, d)) (hC : kC (p, np, s, ns, c, w, d) F) : xMi l G cI cB tK tH y_KeyMaker_start b_KeyMaker_start 3 (some .int) ({ frames := 7, cells := 0, slots := 0, locals := 165 }) [.ref (q 0), .int t, .int b] sz [(q 0, .inr (2, [.ref (q 1), .ref (q 2), .ref (q 3), .ref (q 4), .ref (q 5), .ref (q 6), .ref (q 9), .int (nI np), .int (nI ns), .int (nI w), .int (nI c), .int (nI (d / c)), .int (nI (d % c))])), (q 1, .inl (cI, 150, .inl (F 0))), (q 2, .inl (cI, 84, .inl (F 1))), (q 3, .inl (cI, 128, .inl (F 2))), (q 4, .inl (cI, 32, .inl (F 3))), (q 5, .inl (cI, 32, .inl (F 4))), (q 6, .inr (1, [.ref (q 7), .ref (q 8), .int (X 0)])), (q 7, .inl (cI, 8, .inl (F 5))), (q 8, .inl (cI, 64, .inl (F 6))), (q 9, .inr (0, [.ref (q 10), .ref (q 13), .ref (q 14), .ref (q 15), .ref (q 16), .ref (q 17)])), (q 10, .inr (1, [.ref (q 11), .ref (q 12), .int (X 1)])), (q 11, .inl (cI, 8, .inl (F 7))), (q 12, .inl (cI, 64, .inl (F 8))), (q 13, .inl (cI, 64, .inl (F 9))), (q 14, .inl (cI, 64, .inl (F 10))), (q 15, .inl (cI, 32, .inl (F 11))), (q 16, .inl (cI, 8, .inl (F 12))), (q 17, .inl (cI, 8, .inl (F 13)))] (fun r u => r = (ka_start t b (p, np, s, ns, c, w, d)).1 ∧ u.1 = (ka_start t b (p, np, s, ns, c, w, d)).2 ∧ kC u.1 u.2.1) (fun u : kA × (Nat → Nat → Int32) × (Nat → Int32) => [(q 0, .inr (2, [.ref (q 1), .ref (q 2), .ref (q 3), .ref (q 4), .ref (q 5), .ref (q 6), .ref (q 9), .int (nI u.1.2.1), .int (nI u.1.2.2.2.1), .int (nI u.1.2.2.2.2.2.1), .int (nI u.1.2.2.2.2.1), .int (nI (u.1.2.2.2.2.2.2 / u.1.2.2.2.2.1)), .int (nI (u.1.2.2.2.2.2.2 % u.1.2.2.2.2.1))])), (q 1, .inl (cI, 150, .inl (u.2.1 0))), (q 2, .inl (cI, 84, .inl (u.2.1 1))), (q 3, .inl (cI, 128, .inl (u.2.1 2))), (q 4, .inl (cI, 32, .inl (u.2.1 3))), (q 5, .inl (cI, 32, .inl (u.2.1 4))), (q 6, .inr (1, [.ref (q 7), .ref (q 8), .int (u.2.2 0)])), (q 7, .inl (cI, 8, .inl (u.2.1 5))), (q 8, .inl (cI, 64, .inl (u.2.1 6))), (q 9, .inr (0, [.ref (q 10), .ref (q 13), .ref (q 14), .ref (q 15), .ref (q 16), .ref (q 17)])), (q 10, .inr (1, [.ref (q 11), .ref (q 12), .int (u.2.2 1)])), (q 11, .inl (cI, 8, .inl (u.2.1 7))), (q 12, .inl (cI, 64, .inl (u.2.1 8))), (q 13, .inl (cI, 64, .inl (u.2.1 9))), (q 14, .inl (cI, 64, .inl (u.2.1 10))), (q 15, .inl (cI, 32, .inl (u.2.1 11))), (q 16, .inl (cI, 8, .inl (u.2.1 12))), (q 17, .inl (cI, 8, .inl (u.2.1 13)))]) := by
  refine xMi.of (lv := [(0, .ref (q 0)), (1, .int t), (2, .int b)]) (by decide) (Nat.le_of_ble_eq_true rfl) rfl ?_
  intro pp ee ss mm bel met cod A ls H locs hx hb hml hr hlk hts hown hnm hA hK hst hP hD hS hl
  have hown : ss.vm.findClass R_KeyMaker = some mm.cls := hown
  have hA0 := hAb
  have hC0 := hC
  obtain ⟨hA1, hA2, hA3, hA4, hA5, hA6, hA7, hA8, hA9⟩ := hAb
  obtain ⟨hC1, hC2, hC3⟩ := hC
  have hcd := kA_c0 hA0
  have hka := kt_all_le hA6 hA5
  have hdc := Nat.div_le_self d c
  refine lv_aload_n hx hb d_KeyMaker_start_0 rfl (lv_at hl 0 rfl) ?_
  refine xc_i (wr := [(q 1, .inl (cI, 150, .inl (F 0))), (q 2, .inl (cI, 84, .inl (F 1))), (q 3, .inl (cI, 128, .inl (F 2))), (q 4, .inl (cI, 32, .inl (F 3))), (q 5, .inl (cI, 32, .inl (F 4))), (q 6, .inr (1, [.ref (q 7), .ref (q 8), .int (X 0)])), (q 7, .inl (cI, 8, .inl (F 5))), (q 8, .inl (cI, 64, .inl (F 6))), (q 9, .inr (0, [.ref (q 10), .ref (q 13), .ref (q 14), .ref (q 15), .ref (q 16), .ref (q 17)])), (q 10, .inr (1, [.ref (q 11), .ref (q 12), .int (X 1)])), (q 11, .inl (cI, 8, .inl (F 7))), (q 12, .inl (cI, 64, .inl (F 8))), (q 13, .inl (cI, 64, .inl (F 9))), (q 14, .inl (cI, 64, .inl (F 10))), (q 15, .inl (cI, 32, .inl (F 11))), (q 16, .inl (cI, 8, .inl (F 12))), (q 17, .inl (cI, 8, .inl (F 13)))]) (va_runV (As := []) (rest := []) ⟨hx, hb, hml, hown, hts⟩ (c_isStarted l G cI cB tK tH H.size q (nI np) (nI ns) (nI c) (nI (d / c)) (nI (d % c)) w (by omega)) (cwV 0 hts (xg_V tw_128 tw_130 tw_1 tw_17 tw_131) rfl rfl rfl (by decide +kernel) ⟨Nat.le_of_ble_eq_true rfl, Nat.le_of_ble_eq_true rfl⟩) (xc_preV hK hst hA hP hD hS [0] (by decide) rfl 0 rfl rfl) rfl rfl hl.1 rfl (lv_room (Nat.le_of_ble_eq_true rfl)) d_KeyMaker_start_1 ⟨Nat.le_of_ble_eq_true rfl, Nat.le_of_ble_eq_true rfl⟩) hA hP hD hS [0] [1, 2, 3, 4, 5, 6, 7, 8, 9, 10, 11, 12, 13, 14, 15, 16, 17] rfl rfl (by decide) (by decide) (fun r2 u1 H locs hs hP hD hS => ?_)
  have hP : va_P G classes [(q 1, .inl (cI, 150, .inl (F 0))), (q 2, .inl (cI, 84, .inl (F 1))), (q 3, .inl (cI, 128, .inl (F 2))), (q 4, .inl (cI, 32, .inl (F 3))), (q 5, .inl (cI, 32, .inl (F 4))), (q 6, .inr (1, [.ref (q 7), .ref (q 8), .int (X 0)])), (q 7, .inl (cI, 8, .inl (F 5))), (q 8, .inl (cI, 64, .inl (F 6))), (q 9, .inr (0, [.ref (q 10), .ref (q 13), .ref (q 14), .ref (q 15), .ref (q 16), .ref (q 17)])), (q 10, .inr (1, [.ref (q 11), .ref (q 12), .int (X 1)])), (q 11, .inl (cI, 8, .inl (F 7))), (q 12, .inl (cI, 64, .inl (F 8))), (q 13, .inl (cI, 64, .inl (F 9))), (q 14, .inl (cI, 64, .inl (F 10))), (q 15, .inl (cI, 32, .inl (F 11))), (q 16, .inl (cI, 8, .inl (F 12))), (q 17, .inl (cI, 8, .inl (F 13))), (q 0, .inr (2, [.ref (q 1), .ref (q 2), .ref (q 3), .ref (q 4), .ref (q 5), .ref (q 6), .ref (q 9), .int (nI np), .int (nI ns), .int (nI w), .int (nI c), .int (nI (d / c)), .int (nI (d % c))]))] H := hP
  have hD : va_D A [(q 1, .inl (cI, 150, .inl (F 0))), (q 2, .inl (cI, 84, .inl (F 1))), (q 3, .inl (cI, 128, .inl (F 2))), (q 4, .inl (cI, 32, .inl (F 3))), (q 5, .inl (cI, 32, .inl (F 4))), (q 6, .inr (1, [.ref (q 7), .ref (q 8), .int (X 0)])), (q 7, .inl (cI, 8, .inl (F 5))), (q 8, .inl (cI, 64, .inl (F 6))), (q 9, .inr (0, [.ref (q 10), .ref (q 13), .ref (q 14), .ref (q 15), .ref (q 16), .ref (q 17)])), (q 10, .inr (1, [.ref (q 11), .ref (q 12), .int (X 1)])), (q 11, .inl (cI, 8, .inl (F 7))), (q 12, .inl (cI, 64, .inl (F 8))), (q 13, .inl (cI, 64, .inl (F 9))), (q 14, .inl (cI, 64, .inl (F 10))), (q 15, .inl (cI, 32, .inl (F 11))), (q 16, .inl (cI, 8, .inl (F 12))), (q 17, .inl (cI, 8, .inl (F 13))), (q 0, .inr (2, [.ref (q 1), .ref (q 2), .ref (q 3), .ref (q 4), .ref (q 5), .ref (q 6), .ref (q 9), .int (nI np), .int (nI ns), .int (nI w), .int (nI c), .int (nI (d / c)), .int (nI (d % c))]))] := hD
  rcases hs with ⟨hw, rfl⟩ | ⟨hw, rfl⟩
  · refine lv_if_ne (tgt := 30) hx hb d_KeyMaker_start_4 (by decide) (fun _ => ?_) (fun hc => absurd hc (by decide))
    refine lv_iconst (v := (-1)) hx hb d_KeyMaker_start_30 (by decide) ?_
    have hk : ka_start t b (p, np, s, ns, c, w, d) = (-1, (p, np, s, ns, c, w, d)) := if_neg (fun z => by obtain ⟨z1, z2, z3, z4, z5⟩ := z; first | omega | contradiction)
    exact xe_i ((p, np, s, ns, c, w, d), (fun z => match z with | 0 => F 0 | 1 => F 1 | 2 => F 2 | 3 => F 3 | 4 => F 4 | 5 => F 5 | 6 => F 6 | 7 => F 7 | 8 => F 8 | 9 => F 9 | 10 => F 10 | 11 => F 11 | 12 => F 12 | _ => F 13), (fun z => match z with | 0 => X 0 | _ => X 1)) hx hb hr hlk hK (⟨by rw [hk], by rw [hk], kC_same hC0 rfl rfl rfl rfl rfl rfl⟩) (hP.sub (ws' := [(q 0, .inr (2, [.ref (q 1), .ref (q 2), .ref (q 3), .ref (q 4), .ref (q 5), .ref (q 6), .ref (q 9), .int (nI np), .int (nI ns), .int (nI w), .int (nI c), .int (nI (d / c)), .int (nI (d % c))])), (q 1, .inl (cI, 150, .inl (F 0))), (q 2, .inl (cI, 84, .inl (F 1))), (q 3, .inl (cI, 128, .inl (F 2))), (q 4, .inl (cI, 32, .inl (F 3))), (q 5, .inl (cI, 32, .inl (F 4))), (q 6, .inr (1, [.ref (q 7), .ref (q 8), .int (X 0)])), (q 7, .inl (cI, 8, .inl (F 5))), (q 8, .inl (cI, 64, .inl (F 6))), (q 9, .inr (0, [.ref (q 10), .ref (q 13), .ref (q 14), .ref (q 15), .ref (q 16), .ref (q 17)])), (q 10, .inr (1, [.ref (q 11), .ref (q 12), .int (X 1)])), (q 11, .inl (cI, 8, .inl (F 7))), (q 12, .inl (cI, 64, .inl (F 8))), (q 13, .inl (cI, 64, .inl (F 9))), (q 14, .inl (cI, 64, .inl (F 10))), (q 15, .inl (cI, 32, .inl (F 11))), (q 16, .inl (cI, 8, .inl (F 12))), (q 17, .inl (cI, 8, .inl (F 13)))]) [17, 0, 1, 2, 3, 4, 5, 6, 7, 8, 9, 10, 11, 12, 13, 14, 15, 16] rfl) (hD.sub (ws' := [(q 0, .inr (2, [.ref (q 1), .ref (q 2), .ref (q 3), .ref (q 4), .ref (q 5), .ref (q 6), .ref (q 9), .int (nI np), .int (nI ns), .int (nI w), .int (nI c), .int (nI (d / c)), .int (nI (d % c))])), (q 1, .inl (cI, 150, .inl (F 0))), (q 2, .inl (cI, 84, .inl (F 1))), (q 3, .inl (cI, 128, .inl (F 2))), (q 4, .inl (cI, 32, .inl (F 3))), (q 5, .inl (cI, 32, .inl (F 4))), (q 6, .inr (1, [.ref (q 7), .ref (q 8), .int (X 0)])), (q 7, .inl (cI, 8, .inl (F 5))), (q 8, .inl (cI, 64, .inl (F 6))), (q 9, .inr (0, [.ref (q 10), .ref (q 13), .ref (q 14), .ref (q 15), .ref (q 16), .ref (q 17)])), (q 10, .inr (1, [.ref (q 11), .ref (q 12), .int (X 1)])), (q 11, .inl (cI, 8, .inl (F 7))), (q 12, .inl (cI, 64, .inl (F 8))), (q 13, .inl (cI, 64, .inl (F 9))), (q 14, .inl (cI, 64, .inl (F 10))), (q 15, .inl (cI, 32, .inl (F 11))), (q 16, .inl (cI, 8, .inl (F 12))), (q 17, .inl (cI, 8, .inl (F 13)))]) [17, 0, 1, 2, 3, 4, 5, 6, 7, 8, 9, 10, 11, 12, 13, 14, 15, 16] (by decide) rfl) hS d_KeyMaker_start_31 (by decide) (by decide)
  · refine lv_if_ne (tgt := 30) hx hb d_KeyMaker_start_4 (by decide) (fun hc => absurd hc (by decide)) (fun _ => ?_)
    refine lv_iload_n hx hb d_KeyMaker_start_7 rfl (lv_at hl 1 rfl) ?_
    refine lv_iconst (v := 1) hx hb d_KeyMaker_start_8 (by decide) ?_
    refine lv_icmp_lt (tgt := 30) hx hb d_KeyMaker_start_9 (by decide) (fun h1 => ?_) (fun h1 => ?_)
    · refine lv_iconst (v := (-1)) hx hb d_KeyMaker_start_30 (by decide) ?_
      have hk : ka_start t b (p, np, s, ns, c, w, d) = (-1, (p, np, s, ns, c, w, d)) := if_neg (fun z => by obtain ⟨z1, z2, z3, z4, z5⟩ := z; first | omega | contradiction)
      exact xe_i ((p, np, s, ns, c, w, d), (fun z => match z with | 0 => F 0 | 1 => F 1 | 2 => F 2 | 3 => F 3 | 4 => F 4 | 5 => F 5 | 6 => F 6 | 7 => F 7 | 8 => F 8 | 9 => F 9 | 10 => F 10 | 11 => F 11 | 12 => F 12 | _ => F 13), (fun z => match z with | 0 => X 0 | _ => X 1)) hx hb hr hlk hK (⟨by rw [hk], by rw [hk], kC_same hC0 rfl rfl rfl rfl rfl rfl⟩) (hP.sub (ws' := [(q 0, .inr (2, [.ref (q 1), .ref (q 2), .ref (q 3), .ref (q 4), .ref (q 5), .ref (q 6), .ref (q 9), .int (nI np), .int (nI ns), .int (nI w), .int (nI c), .int (nI (d / c)), .int (nI (d % c))])), (q 1, .inl (cI, 150, .inl (F 0))), (q 2, .inl (cI, 84, .inl (F 1))), (q 3, .inl (cI, 128, .inl (F 2))), (q 4, .inl (cI, 32, .inl (F 3))), (q 5, .inl (cI, 32, .inl (F 4))), (q 6, .inr (1, [.ref (q 7), .ref (q 8), .int (X 0)])), (q 7, .inl (cI, 8, .inl (F 5))), (q 8, .inl (cI, 64, .inl (F 6))), (q 9, .inr (0, [.ref (q 10), .ref (q 13), .ref (q 14), .ref (q 15), .ref (q 16), .ref (q 17)])), (q 10, .inr (1, [.ref (q 11), .ref (q 12), .int (X 1)])), (q 11, .inl (cI, 8, .inl (F 7))), (q 12, .inl (cI, 64, .inl (F 8))), (q 13, .inl (cI, 64, .inl (F 9))), (q 14, .inl (cI, 64, .inl (F 10))), (q 15, .inl (cI, 32, .inl (F 11))), (q 16, .inl (cI, 8, .inl (F 12))), (q 17, .inl (cI, 8, .inl (F 13)))]) [17, 0, 1, 2, 3, 4, 5, 6, 7, 8, 9, 10, 11, 12, 13, 14, 15, 16] rfl) (hD.sub (ws' := [(q 0, .inr (2, [.ref (q 1), .ref (q 2), .ref (q 3), .ref (q 4), .ref (q 5), .ref (q 6), .ref (q 9), .int (nI np), .int (nI ns), .int (nI w), .int (nI c), .int (nI (d / c)), .int (nI (d % c))])), (q 1, .inl (cI, 150, .inl (F 0))), (q 2, .inl (cI, 84, .inl (F 1))), (q 3, .inl (cI, 128, .inl (F 2))), (q 4, .inl (cI, 32, .inl (F 3))), (q 5, .inl (cI, 32, .inl (F 4))), (q 6, .inr (1, [.ref (q 7), .ref (q 8), .int (X 0)])), (q 7, .inl (cI, 8, .inl (F 5))), (q 8, .inl (cI, 64, .inl (F 6))), (q 9, .inr (0, [.ref (q 10), .ref (q 13), .ref (q 14), .ref (q 15), .ref (q 16), .ref (q 17)])), (q 10, .inr (1, [.ref (q 11), .ref (q 12), .int (X 1)])), (q 11, .inl (cI, 8, .inl (F 7))), (q 12, .inl (cI, 64, .inl (F 8))), (q 13, .inl (cI, 64, .inl (F 9))), (q 14, .inl (cI, 64, .inl (F 10))), (q 15, .inl (cI, 32, .inl (F 11))), (q 16, .inl (cI, 8, .inl (F 12))), (q 17, .inl (cI, 8, .inl (F 13)))]) [17, 0, 1, 2, 3, 4, 5, 6, 7, 8, 9, 10, 11, 12, 13, 14, 15, 16] (by decide) rfl) hS d_KeyMaker_start_31 (by decide) (by decide)
    · refine lv_iload_n hx hb d_KeyMaker_start_12 rfl (lv_at hl 1 rfl) ?_
      refine lv_sipush (v := 1000) hx hb d_KeyMaker_start_13 (by decide) ?_
      refine lv_icmp_gt (tgt := 30) hx hb d_KeyMaker_start_16 (by decide) (fun h2 => ?_) (fun h2 => ?_)
      · refine lv_iconst (v := (-1)) hx hb d_KeyMaker_start_30 (by decide) ?_
        have hk : ka_start t b (p, np, s, ns, c, w, d) = (-1, (p, np, s, ns, c, w, d)) := if_neg (fun z => by obtain ⟨z1, z2, z3, z4, z5⟩ := z; first | omega | contradiction)
        exact xe_i ((p, np, s, ns, c, w, d), (fun z => match z with | 0 => F 0 | 1 => F 1 | 2 => F 2 | 3 => F 3 | 4 => F 4 | 5 => F 5 | 6 => F 6 | 7 => F 7 | 8 => F 8 | 9 => F 9 | 10 => F 10 | 11 => F 11 | 12 => F 12 | _ => F 13), (fun z => match z with | 0 => X 0 | _ => X 1)) hx hb hr hlk hK (⟨by rw [hk], by rw [hk], kC_same hC0 rfl rfl rfl rfl rfl rfl⟩) (hP.sub (ws' := [(q 0, .inr (2, [.ref (q 1), .ref (q 2), .ref (q 3), .ref (q 4), .ref (q 5), .ref (q 6), .ref (q 9), .int (nI np), .int (nI ns), .int (nI w), .int (nI c), .int (nI (d / c)), .int (nI (d % c))])), (q 1, .inl (cI, 150, .inl (F 0))), (q 2, .inl (cI, 84, .inl (F 1))), (q 3, .inl (cI, 128, .inl (F 2))), (q 4, .inl (cI, 32, .inl (F 3))), (q 5, .inl (cI, 32, .inl (F 4))), (q 6, .inr (1, [.ref (q 7), .ref (q 8), .int (X 0)])), (q 7, .inl (cI, 8, .inl (F 5))), (q 8, .inl (cI, 64, .inl (F 6))), (q 9, .inr (0, [.ref (q 10), .ref (q 13), .ref (q 14), .ref (q 15), .ref (q 16), .ref (q 17)])), (q 10, .inr (1, [.ref (q 11), .ref (q 12), .int (X 1)])), (q 11, .inl (cI, 8, .inl (F 7))), (q 12, .inl (cI, 64, .inl (F 8))), (q 13, .inl (cI, 64, .inl (F 9))), (q 14, .inl (cI, 64, .inl (F 10))), (q 15, .inl (cI, 32, .inl (F 11))), (q 16, .inl (cI, 8, .inl (F 12))), (q 17, .inl (cI, 8, .inl (F 13)))]) [17, 0, 1, 2, 3, 4, 5, 6, 7, 8, 9, 10, 11, 12, 13, 14, 15, 16] rfl) (hD.sub (ws' := [(q 0, .inr (2, [.ref (q 1), .ref (q 2), .ref (q 3), .ref (q 4), .ref (q 5), .ref (q 6), .ref (q 9), .int (nI np), .int (nI ns), .int (nI w), .int (nI c), .int (nI (d / c)), .int (nI (d % c))])), (q 1, .inl (cI, 150, .inl (F 0))), (q 2, .inl (cI, 84, .inl (F 1))), (q 3, .inl (cI, 128, .inl (F 2))), (q 4, .inl (cI, 32, .inl (F 3))), (q 5, .inl (cI, 32, .inl (F 4))), (q 6, .inr (1, [.ref (q 7), .ref (q 8), .int (X 0)])), (q 7, .inl (cI, 8, .inl (F 5))), (q 8, .inl (cI, 64, .inl (F 6))), (q 9, .inr (0, [.ref (q 10), .ref (q 13), .ref (q 14), .ref (q 15), .ref (q 16), .ref (q 17)])), (q 10, .inr (1, [.ref (q 11), .ref (q 12), .int (X 1)])), (q 11, .inl (cI, 8, .inl (F 7))), (q 12, .inl (cI, 64, .inl (F 8))), (q 13, .inl (cI, 64, .inl (F 9))), (q 14, .inl (cI, 64, .inl (F 10))), (q 15, .inl (cI, 32, .inl (F 11))), (q 16, .inl (cI, 8, .inl (F 12))), (q 17, .inl (cI, 8, .inl (F 13)))]) [17, 0, 1, 2, 3, 4, 5, 6, 7, 8, 9, 10, 11, 12, 13, 14, 15, 16] (by decide) rfl) hS d_KeyMaker_start_31 (by decide) (by decide)
      · refine lv_iload_n hx hb d_KeyMaker_start_19 rfl (lv_at hl 2 rfl) ?_
        refine lv_iconst (v := 1) hx hb d_KeyMaker_start_20 (by decide) ?_
        refine lv_icmp_lt (tgt := 30) hx hb d_KeyMaker_start_21 (by decide) (fun h3 => ?_) (fun h3 => ?_)
        · refine lv_iconst (v := (-1)) hx hb d_KeyMaker_start_30 (by decide) ?_
          have hk : ka_start t b (p, np, s, ns, c, w, d) = (-1, (p, np, s, ns, c, w, d)) := if_neg (fun z => by obtain ⟨z1, z2, z3, z4, z5⟩ := z; first | omega | contradiction)
          exact xe_i ((p, np, s, ns, c, w, d), (fun z => match z with | 0 => F 0 | 1 => F 1 | 2 => F 2 | 3 => F 3 | 4 => F 4 | 5 => F 5 | 6 => F 6 | 7 => F 7 | 8 => F 8 | 9 => F 9 | 10 => F 10 | 11 => F 11 | 12 => F 12 | _ => F 13), (fun z => match z with | 0 => X 0 | _ => X 1)) hx hb hr hlk hK (⟨by rw [hk], by rw [hk], kC_same hC0 rfl rfl rfl rfl rfl rfl⟩) (hP.sub (ws' := [(q 0, .inr (2, [.ref (q 1), .ref (q 2), .ref (q 3), .ref (q 4), .ref (q 5), .ref (q 6), .ref (q 9), .int (nI np), .int (nI ns), .int (nI w), .int (nI c), .int (nI (d / c)), .int (nI (d % c))])), (q 1, .inl (cI, 150, .inl (F 0))), (q 2, .inl (cI, 84, .inl (F 1))), (q 3, .inl (cI, 128, .inl (F 2))), (q 4, .inl (cI, 32, .inl (F 3))), (q 5, .inl (cI, 32, .inl (F 4))), (q 6, .inr (1, [.ref (q 7), .ref (q 8), .int (X 0)])), (q 7, .inl (cI, 8, .inl (F 5))), (q 8, .inl (cI, 64, .inl (F 6))), (q 9, .inr (0, [.ref (q 10), .ref (q 13), .ref (q 14), .ref (q 15), .ref (q 16), .ref (q 17)])), (q 10, .inr (1, [.ref (q 11), .ref (q 12), .int (X 1)])), (q 11, .inl (cI, 8, .inl (F 7))), (q 12, .inl (cI, 64, .inl (F 8))), (q 13, .inl (cI, 64, .inl (F 9))), (q 14, .inl (cI, 64, .inl (F 10))), (q 15, .inl (cI, 32, .inl (F 11))), (q 16, .inl (cI, 8, .inl (F 12))), (q 17, .inl (cI, 8, .inl (F 13)))]) [17, 0, 1, 2, 3, 4, 5, 6, 7, 8, 9, 10, 11, 12, 13, 14, 15, 16] rfl) (hD.sub (ws' := [(q 0, .inr (2, [.ref (q 1), .ref (q 2), .ref (q 3), .ref (q 4), .ref (q 5), .ref (q 6), .ref (q 9), .int (nI np), .int (nI ns), .int (nI w), .int (nI c), .int (nI (d / c)), .int (nI (d % c))])), (q 1, .inl (cI, 150, .inl (F 0))), (q 2, .inl (cI, 84, .inl (F 1))), (q 3, .inl (cI, 128, .inl (F 2))), (q 4, .inl (cI, 32, .inl (F 3))), (q 5, .inl (cI, 32, .inl (F 4))), (q 6, .inr (1, [.ref (q 7), .ref (q 8), .int (X 0)])), (q 7, .inl (cI, 8, .inl (F 5))), (q 8, .inl (cI, 64, .inl (F 6))), (q 9, .inr (0, [.ref (q 10), .ref (q 13), .ref (q 14), .ref (q 15), .ref (q 16), .ref (q 17)])), (q 10, .inr (1, [.ref (q 11), .ref (q 12), .int (X 1)])), (q 11, .inl (cI, 8, .inl (F 7))), (q 12, .inl (cI, 64, .inl (F 8))), (q 13, .inl (cI, 64, .inl (F 9))), (q 14, .inl (cI, 64, .inl (F 10))), (q 15, .inl (cI, 32, .inl (F 11))), (q 16, .inl (cI, 8, .inl (F 12))), (q 17, .inl (cI, 8, .inl (F 13)))]) [17, 0, 1, 2, 3, 4, 5, 6, 7, 8, 9, 10, 11, 12, 13, 14, 15, 16] (by decide) rfl) hS d_KeyMaker_start_31 (by decide) (by decide)
        · refine lv_iload_n hx hb d_KeyMaker_start_24 rfl (lv_at hl 2 rfl) ?_
          refine lv_bipush (v := 100) hx hb d_KeyMaker_start_25 (by decide) ?_
          refine lv_icmp_le (tgt := 32) hx hb d_KeyMaker_start_27 (by decide) (fun h4 => ?_) (fun h4 => ?_)
          · have h4 : ¬ 100 < b := Int32.not_lt.mpr h4
            obtain ⟨t9, ht1, ht2, rfl⟩ := kn_1 (M := 1000) (n := 1000) (by decide) h1 h2
            obtain ⟨b9, hb1, hb2, rfl⟩ := kn_1 (M := 100) (n := 100) (by decide) h3 h4
            obtain ⟨ec, ed⟩ := hA7 hw
            refine lv_aload_n hx hb d_KeyMaker_start_32 rfl (lv_at hl 0 rfl) ?_
            refine lv_iload_n hx hb d_KeyMaker_start_33 rfl (lv_at hl 2 rfl) ?_
            refine va_put (D := G) (ci := 2) (v := .int (nI b9)) (ty := .int) (C := R_KeyMaker) (T := F_KeyMaker) (N := 13) hx hb hts hi_KeyMaker t_KeyMaker t_KeyMaker_ok n_KeyMaker hown hK hP hD hS 17 rfl rfl 9 (by decide) (hts _ tw_90) (fun _ h9 => h9) rfl (by decide +kernel) rfl rfl (Nat.le_of_ble_eq_true rfl) d_KeyMaker_start_34 (fun H locs hP hD hS => ?_)
            have hP : va_P G classes [(q 1, .inl (cI, 150, .inl (F 0))), (q 2, .inl (cI, 84, .inl (F 1))), (q 3, .inl (cI, 128, .inl (F 2))), (q 4, .inl (cI, 32, .inl (F 3))), (q 5, .inl (cI, 32, .inl (F 4))), (q 6, .inr (1, [.ref (q 7), .ref (q 8), .int (X 0)])), (q 7, .inl (cI, 8, .inl (F 5))), (q 8, .inl (cI, 64, .inl (F 6))), (q 9, .inr (0, [.ref (q 10), .ref (q 13), .ref (q 14), .ref (q 15), .ref (q 16), .ref (q 17)])), (q 10, .inr (1, [.ref (q 11), .ref (q 12), .int (X 1)])), (q 11, .inl (cI, 8, .inl (F 7))), (q 12, .inl (cI, 64, .inl (F 8))), (q 13, .inl (cI, 64, .inl (F 9))), (q 14, .inl (cI, 64, .inl (F 10))), (q 15, .inl (cI, 32, .inl (F 11))), (q 16, .inl (cI, 8, .inl (F 12))), (q 17, .inl (cI, 8, .inl (F 13))), (q 0, .inr (2, [.ref (q 1), .ref (q 2), .ref (q 3), .ref (q 4), .ref (q 5), .ref (q 6), .ref (q 9), .int (nI np), .int (nI ns), .int (nI b9), .int (nI c), .int (nI (d / c)), .int (nI (d % c))]))] H := hP
            have hD : va_D A [(q 1, .inl (cI, 150, .inl (F 0))), (q 2, .inl (cI, 84, .inl (F 1))), (q 3, .inl (cI, 128, .inl (F 2))), (q 4, .inl (cI, 32, .inl (F 3))), (q 5, .inl (cI, 32, .inl (F 4))), (q 6, .inr (1, [.ref (q 7), .ref (q 8), .int (X 0)])), (q 7, .inl (cI, 8, .inl (F 5))), (q 8, .inl (cI, 64, .inl (F 6))), (q 9, .inr (0, [.ref (q 10), .ref (q 13), .ref (q 14), .ref (q 15), .ref (q 16), .ref (q 17)])), (q 10, .inr (1, [.ref (q 11), .ref (q 12), .int (X 1)])), (q 11, .inl (cI, 8, .inl (F 7))), (q 12, .inl (cI, 64, .inl (F 8))), (q 13, .inl (cI, 64, .inl (F 9))), (q 14, .inl (cI, 64, .inl (F 10))), (q 15, .inl (cI, 32, .inl (F 11))), (q 16, .inl (cI, 8, .inl (F 12))), (q 17, .inl (cI, 8, .inl (F 13))), (q 0, .inr (2, [.ref (q 1), .ref (q 2), .ref (q 3), .ref (q 4), .ref (q 5), .ref (q 6), .ref (q 9), .int (nI np), .int (nI ns), .int (nI b9), .int (nI c), .int (nI (d / c)), .int (nI (d % c))]))] := hD
            refine lv_aload_n hx hb d_KeyMaker_start_37 rfl (lv_at hl 0 rfl) ?_
            refine lv_iload_n hx hb d_KeyMaker_start_38 rfl (lv_at hl 1 rfl) ?_
            refine va_put (D := G) (ci := 2) (v := .int (nI t9)) (ty := .int) (C := R_KeyMaker) (T := F_KeyMaker) (N := 13) hx hb hts hi_KeyMaker t_KeyMaker t_KeyMaker_ok n_KeyMaker hown hK hP hD hS 17 rfl rfl 10 (by decide) (hts _ tw_91) (fun _ h9 => h9) rfl (by decide +kernel) rfl rfl (Nat.le_of_ble_eq_true rfl) d_KeyMaker_start_39 (fun H locs hP hD hS => ?_)
            have hP : va_P G classes [(q 1, .inl (cI, 150, .inl (F 0))), (q 2, .inl (cI, 84, .inl (F 1))), (q 3, .inl (cI, 128, .inl (F 2))), (q 4, .inl (cI, 32, .inl (F 3))), (q 5, .inl (cI, 32, .inl (F 4))), (q 6, .inr (1, [.ref (q 7), .ref (q 8), .int (X 0)])), (q 7, .inl (cI, 8, .inl (F 5))), (q 8, .inl (cI, 64, .inl (F 6))), (q 9, .inr (0, [.ref (q 10), .ref (q 13), .ref (q 14), .ref (q 15), .ref (q 16), .ref (q 17)])), (q 10, .inr (1, [.ref (q 11), .ref (q 12), .int (X 1)])), (q 11, .inl (cI, 8, .inl (F 7))), (q 12, .inl (cI, 64, .inl (F 8))), (q 13, .inl (cI, 64, .inl (F 9))), (q 14, .inl (cI, 64, .inl (F 10))), (q 15, .inl (cI, 32, .inl (F 11))), (q 16, .inl (cI, 8, .inl (F 12))), (q 17, .inl (cI, 8, .inl (F 13))), (q 0, .inr (2, [.ref (q 1), .ref (q 2), .ref (q 3), .ref (q 4), .ref (q 5), .ref (q 6), .ref (q 9), .int (nI np), .int (nI ns), .int (nI b9), .int (nI t9), .int (nI (d / c)), .int (nI (d % c))]))] H := hP
            have hD : va_D A [(q 1, .inl (cI, 150, .inl (F 0))), (q 2, .inl (cI, 84, .inl (F 1))), (q 3, .inl (cI, 128, .inl (F 2))), (q 4, .inl (cI, 32, .inl (F 3))), (q 5, .inl (cI, 32, .inl (F 4))), (q 6, .inr (1, [.ref (q 7), .ref (q 8), .int (X 0)])), (q 7, .inl (cI, 8, .inl (F 5))), (q 8, .inl (cI, 64, .inl (F 6))), (q 9, .inr (0, [.ref (q 10), .ref (q 13), .ref (q 14), .ref (q 15), .ref (q 16), .ref (q 17)])), (q 10, .inr (1, [.ref (q 11), .ref (q 12), .int (X 1)])), (q 11, .inl (cI, 8, .inl (F 7))), (q 12, .inl (cI, 64, .inl (F 8))), (q 13, .inl (cI, 64, .inl (F 9))), (q 14, .inl (cI, 64, .inl (F 10))), (q 15, .inl (cI, 32, .inl (F 11))), (q 16, .inl (cI, 8, .inl (F 12))), (q 17, .inl (cI, 8, .inl (F 13))), (q 0, .inr (2, [.ref (q 1), .ref (q 2), .ref (q 3), .ref (q 4), .ref (q 5), .ref (q 6), .ref (q 9), .int (nI np), .int (nI ns), .int (nI b9), .int (nI t9), .int (nI (d / c)), .int (nI (d % c))]))] := hD
            refine lv_aload_n hx hb d_KeyMaker_start_42 rfl (lv_at hl 0 rfl) ?_
            refine va_get (D := G) (ci := 2) (v := .ref (q 3)) (C := R_KeyMaker) (T := F_KeyMaker) (N := 13) hx hb hts hi_KeyMaker hown hK hP 17 rfl rfl 2 (by decide) (hts _ tw_83) (fun _ h9 => h9) rfl d_KeyMaker_start_43 ?_
            refine lv_iconst (v := 0) hx hb d_KeyMaker_start_46 (by decide) ?_
            refine xc_v (wr := [(q 1, .inl (cI, 150, .inl (F 0))), (q 2, .inl (cI, 84, .inl (F 1))), (q 4, .inl (cI, 32, .inl (F 3))), (q 5, .inl (cI, 32, .inl (F 4))), (q 6, .inr (1, [.ref (q 7), .ref (q 8), .int (X 0)])), (q 7, .inl (cI, 8, .inl (F 5))), (q 8, .inl (cI, 64, .inl (F 6))), (q 9, .inr (0, [.ref (q 10), .ref (q 13), .ref (q 14), .ref (q 15), .ref (q 16), .ref (q 17)])), (q 10, .inr (1, [.ref (q 11), .ref (q 12), .int (X 1)])), (q 11, .inl (cI, 8, .inl (F 7))), (q 12, .inl (cI, 64, .inl (F 8))), (q 13, .inl (cI, 64, .inl (F 9))), (q 14, .inl (cI, 64, .inl (F 10))), (q 15, .inl (cI, 32, .inl (F 11))), (q 16, .inl (cI, 8, .inl (F 12))), (q 17, .inl (cI, 8, .inl (F 13))), (q 0, .inr (2, [.ref (q 1), .ref (q 2), .ref (q 3), .ref (q 4), .ref (q 5), .ref (q 6), .ref (q 9), .int (nI np), .int (nI ns), .int (nI b9), .int (nI t9), .int (nI (d / c)), .int (nI (d % c))]))]) (va_runS (As := [.ref (q 3), .int 0]) (rest := []) ⟨hx, hb, hml, hown, hts⟩ (c_fill l G cI cB tK tH H.size (q 3) 128 (F 2) 0 (by omega)) (va_cwS 2 hts (xg_S tw_147 tw_148 tw_21 tw_149) rfl rfl rfl (by decide +kernel) ⟨Nat.le_of_ble_eq_true rfl, Nat.le_of_ble_eq_true rfl⟩) (xc_pre hK hst hA hP hD hS [2] (by decide) rfl [.ref (q 3), .int 0]) rfl rfl hl.1 rfl (lv_room (Nat.le_of_ble_eq_true rfl)) d_KeyMaker_start_47 ⟨Nat.le_of_ble_eq_true rfl, Nat.le_of_ble_eq_true rfl⟩) hA hP hD hS [2] [0, 1, 3, 4, 5, 6, 7, 8, 9, 10, 11, 12, 13, 14, 15, 16, 17] rfl rfl (by decide) (by decide) (fun u5 H locs hp6 hP hD hS => ?_)
            have hP : va_P G classes [(q 1, .inl (cI, 150, .inl (F 0))), (q 2, .inl (cI, 84, .inl (F 1))), (q 4, .inl (cI, 32, .inl (F 3))), (q 5, .inl (cI, 32, .inl (F 4))), (q 6, .inr (1, [.ref (q 7), .ref (q 8), .int (X 0)])), (q 7, .inl (cI, 8, .inl (F 5))), (q 8, .inl (cI, 64, .inl (F 6))), (q 9, .inr (0, [.ref (q 10), .ref (q 13), .ref (q 14), .ref (q 15), .ref (q 16), .ref (q 17)])), (q 10, .inr (1, [.ref (q 11), .ref (q 12), .int (X 1)])), (q 11, .inl (cI, 8, .inl (F 7))), (q 12, .inl (cI, 64, .inl (F 8))), (q 13, .inl (cI, 64, .inl (F 9))), (q 14, .inl (cI, 64, .inl (F 10))), (q 15, .inl (cI, 32, .inl (F 11))), (q 16, .inl (cI, 8, .inl (F 12))), (q 17, .inl (cI, 8, .inl (F 13))), (q 0, .inr (2, [.ref (q 1), .ref (q 2), .ref (q 3), .ref (q 4), .ref (q 5), .ref (q 6), .ref (q 9), .int (nI np), .int (nI ns), .int (nI b9), .int (nI t9), .int (nI (d / c)), .int (nI (d % c))])), (q 3, .inl (cI, 128, .inl (fun _ => 0)))] H := hP
            have hD : va_D A [(q 1, .inl (cI, 150, .inl (F 0))), (q 2, .inl (cI, 84, .inl (F 1))), (q 4, .inl (cI, 32, .inl (F 3))), (q 5, .inl (cI, 32, .inl (F 4))), (q 6, .inr (1, [.ref (q 7), .ref (q 8), .int (X 0)])), (q 7, .inl (cI, 8, .inl (F 5))), (q 8, .inl (cI, 64, .inl (F 6))), (q 9, .inr (0, [.ref (q 10), .ref (q 13), .ref (q 14), .ref (q 15), .ref (q 16), .ref (q 17)])), (q 10, .inr (1, [.ref (q 11), .ref (q 12), .int (X 1)])), (q 11, .inl (cI, 8, .inl (F 7))), (q 12, .inl (cI, 64, .inl (F 8))), (q 13, .inl (cI, 64, .inl (F 9))), (q 14, .inl (cI, 64, .inl (F 10))), (q 15, .inl (cI, 32, .inl (F 11))), (q 16, .inl (cI, 8, .inl (F 12))), (q 17, .inl (cI, 8, .inl (F 13))), (q 0, .inr (2, [.ref (q 1), .ref (q 2), .ref (q 3), .ref (q 4), .ref (q 5), .ref (q 6), .ref (q 9), .int (nI np), .int (nI ns), .int (nI b9), .int (nI t9), .int (nI (d / c)), .int (nI (d % c))])), (q 3, .inl (cI, 128, .inl (fun _ => 0)))] := hD
            refine lv_aload_n hx hb d_KeyMaker_start_50 rfl (lv_at hl 0 rfl) ?_
            refine va_get (D := G) (ci := 2) (v := .ref (q 9)) (C := R_KeyMaker) (T := F_KeyMaker) (N := 13) hx hb hts hi_KeyMaker hown hK hP 16 rfl rfl 6 (by decide) (hts _ tw_87) (fun _ h9 => h9) rfl d_KeyMaker_start_51 ?_
            refine lv_aload_n hx hb d_KeyMaker_start_54 rfl (lv_at hl 0 rfl) ?_
            refine va_get (D := G) (ci := 2) (v := .ref (q 1)) (C := R_KeyMaker) (T := F_KeyMaker) (N := 13) hx hb hts hi_KeyMaker hown hK hP 16 rfl rfl 0 (by decide) (hts _ tw_81) (fun _ h9 => h9) rfl d_KeyMaker_start_55 ?_
            refine lv_aload_n hx hb d_KeyMaker_start_58 rfl (lv_at hl 0 rfl) ?_
            refine va_get (D := G) (ci := 2) (v := .int (nI np)) (C := R_KeyMaker) (T := F_KeyMaker) (N := 13) hx hb hts hi_KeyMaker hown hK hP 16 rfl rfl 7 (by decide) (hts _ tw_88) (fun _ h9 => h9) rfl d_KeyMaker_start_59 ?_
            refine xc_v (wr := [(q 2, .inl (cI, 84, .inl (F 1))), (q 4, .inl (cI, 32, .inl (F 3))), (q 5, .inl (cI, 32, .inl (F 4))), (q 6, .inr (1, [.ref (q 7), .ref (q 8), .int (X 0)])), (q 7, .inl (cI, 8, .inl (F 5))), (q 8, .inl (cI, 64, .inl (F 6))), (q 15, .inl (cI, 32, .inl (F 11))), (q 0, .inr (2, [.ref (q 1), .ref (q 2), .ref (q 3), .ref (q 4), .ref (q 5), .ref (q 6), .ref (q 9), .int (nI np), .int (nI ns), .int (nI b9), .int (nI t9), .int (nI (d / c)), .int (nI (d % c))])), (q 3, .inl (cI, 128, .inl (fun _ => 0)))]) (va_runV (As := [.ref (q 1), .int (nI np)]) (rest := []) ⟨hx, hb, hml, hown, hts⟩ (c_takeKey l G cI cB tK tH H.size (q 9) (q 10) (q 11) (q 12) (q 13) (q 14) (q 15) (q 16) (q 17) (q 1) (F 7) (F 8) (F 9) (F 10) (F 12) (F 13) (F 0) (X 1) np 150 (by omega) (by omega) (by omega) (kr_eq hC1 hA3)) (cwV 2 hts (xg_V tw_150 tw_151 tw_152 tw_19 tw_153) rfl rfl rfl (by decide +kernel) ⟨Nat.le_of_ble_eq_true rfl, Nat.le_of_ble_eq_true rfl⟩) (xc_preV hK hst hA hP hD hS [7, 8, 9, 10, 11, 12, 14, 15, 0] (by decide) rfl 7 rfl rfl) rfl rfl hl.1 rfl (lv_room (Nat.le_of_ble_eq_true rfl)) d_KeyMaker_start_62 ⟨Nat.le_of_ble_eq_true rfl, Nat.le_of_ble_eq_true rfl⟩) hA hP hD hS [7, 8, 9, 10, 11, 12, 14, 15, 0] [1, 2, 3, 4, 5, 6, 13, 16, 17] rfl rfl (by decide) (by decide) (fun u8 H locs hp9 hP hD hS => ?_)
            obtain ⟨f7, w8, tk1, k9, b10⟩ := u8
            have hP : va_P G classes [(q 2, .inl (cI, 84, .inl (F 1))), (q 4, .inl (cI, 32, .inl (F 3))), (q 5, .inl (cI, 32, .inl (F 4))), (q 6, .inr (1, [.ref (q 7), .ref (q 8), .int (X 0)])), (q 7, .inl (cI, 8, .inl (F 5))), (q 8, .inl (cI, 64, .inl (F 6))), (q 15, .inl (cI, 32, .inl (F 11))), (q 0, .inr (2, [.ref (q 1), .ref (q 2), .ref (q 3), .ref (q 4), .ref (q 5), .ref (q 6), .ref (q 9), .int (nI np), .int (nI ns), .int (nI b9), .int (nI t9), .int (nI (d / c)), .int (nI (d % c))])), (q 3, .inl (cI, 128, .inl (fun _ => 0))), (q 9, .inr (0, [.ref (q 10), .ref (q 13), .ref (q 14), .ref (q 15), .ref (q 16), .ref (q 17)])), (q 10, .inr (1, [.ref (q 11), .ref (q 12), .int tk1])), (q 11, .inl (cI, 8, .inl f7)), (q 12, .inl (cI, 64, .inl w8)), (q 13, .inl (cI, 64, .inl k9)), (q 14, .inl (cI, 64, .inl b10)), (q 16, .inl (cI, 8, .inl (km_h (km_kx (F 0) np 54) 1))), (q 17, .inl (cI, 8, .inl (km_h (km_kx (F 0) np 92) 1))), (q 1, .inl (cI, 150, .inl (F 0)))] H := hP
            have hD : va_D A [(q 2, .inl (cI, 84, .inl (F 1))), (q 4, .inl (cI, 32, .inl (F 3))), (q 5, .inl (cI, 32, .inl (F 4))), (q 6, .inr (1, [.ref (q 7), .ref (q 8), .int (X 0)])), (q 7, .inl (cI, 8, .inl (F 5))), (q 8, .inl (cI, 64, .inl (F 6))), (q 15, .inl (cI, 32, .inl (F 11))), (q 0, .inr (2, [.ref (q 1), .ref (q 2), .ref (q 3), .ref (q 4), .ref (q 5), .ref (q 6), .ref (q 9), .int (nI np), .int (nI ns), .int (nI b9), .int (nI t9), .int (nI (d / c)), .int (nI (d % c))])), (q 3, .inl (cI, 128, .inl (fun _ => 0))), (q 9, .inr (0, [.ref (q 10), .ref (q 13), .ref (q 14), .ref (q 15), .ref (q 16), .ref (q 17)])), (q 10, .inr (1, [.ref (q 11), .ref (q 12), .int tk1])), (q 11, .inl (cI, 8, .inl f7)), (q 12, .inl (cI, 64, .inl w8)), (q 13, .inl (cI, 64, .inl k9)), (q 14, .inl (cI, 64, .inl b10)), (q 16, .inl (cI, 8, .inl (km_h (km_kx (F 0) np 54) 1))), (q 17, .inl (cI, 8, .inl (km_h (km_kx (F 0) np 92) 1))), (q 1, .inl (cI, 150, .inl (F 0)))] := hD
            have e1 : d / c = 0 / t9 := by rw [ed]; simp
            have e2 : d % c = 0 % t9 := by rw [ed]; simp
            rw [e1, e2] at hP hD
            refine lv_aload_n hx hb d_KeyMaker_start_65 rfl (lv_at hl 0 rfl) ?_
            refine xc_i (wr := [(q 2, .inl (cI, 84, .inl (F 1))), (q 4, .inl (cI, 32, .inl (F 3))), (q 5, .inl (cI, 32, .inl (F 4))), (q 6, .inr (1, [.ref (q 7), .ref (q 8), .int (X 0)])), (q 7, .inl (cI, 8, .inl (F 5))), (q 8, .inl (cI, 64, .inl (F 6))), (q 15, .inl (cI, 32, .inl (F 11))), (q 3, .inl (cI, 128, .inl (fun _ => 0))), (q 9, .inr (0, [.ref (q 10), .ref (q 13), .ref (q 14), .ref (q 15), .ref (q 16), .ref (q 17)])), (q 10, .inr (1, [.ref (q 11), .ref (q 12), .int tk1])), (q 11, .inl (cI, 8, .inl f7)), (q 12, .inl (cI, 64, .inl w8)), (q 13, .inl (cI, 64, .inl k9)), (q 14, .inl (cI, 64, .inl b10)), (q 16, .inl (cI, 8, .inl (km_h (km_kx (F 0) np 54) 1))), (q 17, .inl (cI, 8, .inl (km_h (km_kx (F 0) np 92) 1))), (q 1, .inl (cI, 150, .inl (F 0)))]) (va_runV (As := []) (rest := []) ⟨hx, hb, hml, hown, hts⟩ (c_turnsLeft l G cI cB tK tH H.size q (nI np) (nI ns) b9 t9 0 (by omega) (fun _ => rfl) (Nat.zero_le _)) (cwV 0 hts (xg_V tw_218 tw_220 tw_6 tw_17 tw_221) rfl rfl rfl (by decide +kernel) ⟨Nat.le_of_ble_eq_true rfl, Nat.le_of_ble_eq_true rfl⟩) (xc_preV hK hst hA hP hD hS [7] (by decide) rfl 7 rfl rfl) rfl rfl hl.1 rfl (lv_room (Nat.le_of_ble_eq_true rfl)) d_KeyMaker_start_66 ⟨Nat.le_of_ble_eq_true rfl, Nat.le_of_ble_eq_true rfl⟩) hA hP hD hS [7] [0, 1, 2, 3, 4, 5, 6, 8, 9, 10, 11, 12, 13, 14, 15, 16, 17] rfl rfl (by decide) (by decide) (fun r12 u11 H locs hr9 hP hD hS => ?_)
            have hP : va_P G classes [(q 2, .inl (cI, 84, .inl (F 1))), (q 4, .inl (cI, 32, .inl (F 3))), (q 5, .inl (cI, 32, .inl (F 4))), (q 6, .inr (1, [.ref (q 7), .ref (q 8), .int (X 0)])), (q 7, .inl (cI, 8, .inl (F 5))), (q 8, .inl (cI, 64, .inl (F 6))), (q 15, .inl (cI, 32, .inl (F 11))), (q 3, .inl (cI, 128, .inl (fun _ => 0))), (q 9, .inr (0, [.ref (q 10), .ref (q 13), .ref (q 14), .ref (q 15), .ref (q 16), .ref (q 17)])), (q 10, .inr (1, [.ref (q 11), .ref (q 12), .int tk1])), (q 11, .inl (cI, 8, .inl f7)), (q 12, .inl (cI, 64, .inl w8)), (q 13, .inl (cI, 64, .inl k9)), (q 14, .inl (cI, 64, .inl b10)), (q 16, .inl (cI, 8, .inl (km_h (km_kx (F 0) np 54) 1))), (q 17, .inl (cI, 8, .inl (km_h (km_kx (F 0) np 92) 1))), (q 1, .inl (cI, 150, .inl (F 0))), (q 0, .inr (2, [.ref (q 1), .ref (q 2), .ref (q 3), .ref (q 4), .ref (q 5), .ref (q 6), .ref (q 9), .int (nI np), .int (nI ns), .int (nI b9), .int (nI t9), .int (nI (0 / t9)), .int (nI (0 % t9))]))] H := hP
            have hD : va_D A [(q 2, .inl (cI, 84, .inl (F 1))), (q 4, .inl (cI, 32, .inl (F 3))), (q 5, .inl (cI, 32, .inl (F 4))), (q 6, .inr (1, [.ref (q 7), .ref (q 8), .int (X 0)])), (q 7, .inl (cI, 8, .inl (F 5))), (q 8, .inl (cI, 64, .inl (F 6))), (q 15, .inl (cI, 32, .inl (F 11))), (q 3, .inl (cI, 128, .inl (fun _ => 0))), (q 9, .inr (0, [.ref (q 10), .ref (q 13), .ref (q 14), .ref (q 15), .ref (q 16), .ref (q 17)])), (q 10, .inr (1, [.ref (q 11), .ref (q 12), .int tk1])), (q 11, .inl (cI, 8, .inl f7)), (q 12, .inl (cI, 64, .inl w8)), (q 13, .inl (cI, 64, .inl k9)), (q 14, .inl (cI, 64, .inl b10)), (q 16, .inl (cI, 8, .inl (km_h (km_kx (F 0) np 54) 1))), (q 17, .inl (cI, 8, .inl (km_h (km_kx (F 0) np 92) 1))), (q 1, .inl (cI, 150, .inl (F 0))), (q 0, .inr (2, [.ref (q 1), .ref (q 2), .ref (q 3), .ref (q 4), .ref (q 5), .ref (q 6), .ref (q 9), .int (nI np), .int (nI ns), .int (nI b9), .int (nI t9), .int (nI (0 / t9)), .int (nI (0 % t9))]))] := hD
            obtain rfl : r12 = nI (kt_all t9 b9) := hr9
            have hk : ka_start (nI t9) (nI b9) (p, np, s, ns, c, w, d) = (nI (kt_all t9 b9), (p, np, s, ns, t9, b9, 0)) := ka_start_pos hw h1 h2 h3 h4 (by omega) (by omega)
            exact xe_i ((p, np, s, ns, t9, b9, 0), (fun z => match z with | 0 => F 0 | 1 => F 1 | 2 => fun _ => 0 | 3 => F 3 | 4 => F 4 | 5 => F 5 | 6 => F 6 | 7 => f7 | 8 => w8 | 9 => k9 | 10 => b10 | 11 => F 11 | 12 => km_h (km_kx (F 0) np 54) 1 | _ => km_h (km_kx (F 0) np 92) 1), (fun z => match z with | 0 => X 0 | _ => tk1)) hx hb hr hlk hK (⟨by rw [hk], by rw [hk], kC_start hC0 t9 b9 rfl rfl rfl rfl rfl⟩) (hP.sub (ws' := [(q 0, .inr (2, [.ref (q 1), .ref (q 2), .ref (q 3), .ref (q 4), .ref (q 5), .ref (q 6), .ref (q 9), .int (nI np), .int (nI ns), .int (nI b9), .int (nI t9), .int (nI (0 / t9)), .int (nI (0 % t9))])), (q 1, .inl (cI, 150, .inl (F 0))), (q 2, .inl (cI, 84, .inl (F 1))), (q 3, .inl (cI, 128, .inl (fun _ => 0))), (q 4, .inl (cI, 32, .inl (F 3))), (q 5, .inl (cI, 32, .inl (F 4))), (q 6, .inr (1, [.ref (q 7), .ref (q 8), .int (X 0)])), (q 7, .inl (cI, 8, .inl (F 5))), (q 8, .inl (cI, 64, .inl (F 6))), (q 9, .inr (0, [.ref (q 10), .ref (q 13), .ref (q 14), .ref (q 15), .ref (q 16), .ref (q 17)])), (q 10, .inr (1, [.ref (q 11), .ref (q 12), .int tk1])), (q 11, .inl (cI, 8, .inl f7)), (q 12, .inl (cI, 64, .inl w8)), (q 13, .inl (cI, 64, .inl k9)), (q 14, .inl (cI, 64, .inl b10)), (q 15, .inl (cI, 32, .inl (F 11))), (q 16, .inl (cI, 8, .inl (km_h (km_kx (F 0) np 54) 1))), (q 17, .inl (cI, 8, .inl (km_h (km_kx (F 0) np 92) 1)))]) [17, 16, 0, 7, 1, 2, 3, 4, 5, 8, 9, 10, 11, 12, 13, 6, 14, 15] rfl) (hD.sub (ws' := [(q 0, .inr (2, [.ref (q 1), .ref (q 2), .ref (q 3), .ref (q 4), .ref (q 5), .ref (q 6), .ref (q 9), .int (nI np), .int (nI ns), .int (nI b9), .int (nI t9), .int (nI (0 / t9)), .int (nI (0 % t9))])), (q 1, .inl (cI, 150, .inl (F 0))), (q 2, .inl (cI, 84, .inl (F 1))), (q 3, .inl (cI, 128, .inl (fun _ => 0))), (q 4, .inl (cI, 32, .inl (F 3))), (q 5, .inl (cI, 32, .inl (F 4))), (q 6, .inr (1, [.ref (q 7), .ref (q 8), .int (X 0)])), (q 7, .inl (cI, 8, .inl (F 5))), (q 8, .inl (cI, 64, .inl (F 6))), (q 9, .inr (0, [.ref (q 10), .ref (q 13), .ref (q 14), .ref (q 15), .ref (q 16), .ref (q 17)])), (q 10, .inr (1, [.ref (q 11), .ref (q 12), .int tk1])), (q 11, .inl (cI, 8, .inl f7)), (q 12, .inl (cI, 64, .inl w8)), (q 13, .inl (cI, 64, .inl k9)), (q 14, .inl (cI, 64, .inl b10)), (q 15, .inl (cI, 32, .inl (F 11))), (q 16, .inl (cI, 8, .inl (km_h (km_kx (F 0) np 54) 1))), (q 17, .inl (cI, 8, .inl (km_h (km_kx (F 0) np 92) 1)))]) [17, 16, 0, 7, 1, 2, 3, 4, 5, 8, 9, 10, 11, 12, 13, 6, 14, 15] (by decide) rfl) hS d_KeyMaker_start_69 (by decide) (by decide)
          · have h4 : 100 < b := Int32.not_le.mp h4
            refine lv_iconst (v := (-1)) hx hb d_KeyMaker_start_30 (by decide) ?_
            have hk : ka_start t b (p, np, s, ns, c, w, d) = (-1, (p, np, s, ns, c, w, d)) := if_neg (fun z => by obtain ⟨z1, z2, z3, z4, z5⟩ := z; first | omega | contradiction)
            exact xe_i ((p, np, s, ns, c, w, d), (fun z => match z with | 0 => F 0 | 1 => F 1 | 2 => F 2 | 3 => F 3 | 4 => F 4 | 5 => F 5 | 6 => F 6 | 7 => F 7 | 8 => F 8 | 9 => F 9 | 10 => F 10 | 11 => F 11 | 12 => F 12 | _ => F 13), (fun z => match z with | 0 => X 0 | _ => X 1)) hx hb hr hlk hK (⟨by rw [hk], by rw [hk], kC_same hC0 rfl rfl rfl rfl rfl rfl⟩) (hP.sub (ws' := [(q 0, .inr (2, [.ref (q 1), .ref (q 2), .ref (q 3), .ref (q 4), .ref (q 5), .ref (q 6), .ref (q 9), .int (nI np), .int (nI ns), .int (nI w), .int (nI c), .int (nI (d / c)), .int (nI (d % c))])), (q 1, .inl (cI, 150, .inl (F 0))), (q 2, .inl (cI, 84, .inl (F 1))), (q 3, .inl (cI, 128, .inl (F 2))), (q 4, .inl (cI, 32, .inl (F 3))), (q 5, .inl (cI, 32, .inl (F 4))), (q 6, .inr (1, [.ref (q 7), .ref (q 8), .int (X 0)])), (q 7, .inl (cI, 8, .inl (F 5))), (q 8, .inl (cI, 64, .inl (F 6))), (q 9, .inr (0, [.ref (q 10), .ref (q 13), .ref (q 14), .ref (q 15), .ref (q 16), .ref (q 17)])), (q 10, .inr (1, [.ref (q 11), .ref (q 12), .int (X 1)])), (q 11, .inl (cI, 8, .inl (F 7))), (q 12, .inl (cI, 64, .inl (F 8))), (q 13, .inl (cI, 64, .inl (F 9))), (q 14, .inl (cI, 64, .inl (F 10))), (q 15, .inl (cI, 32, .inl (F 11))), (q 16, .inl (cI, 8, .inl (F 12))), (q 17, .inl (cI, 8, .inl (F 13)))]) [17, 0, 1, 2, 3, 4, 5, 6, 7, 8, 9, 10, 11, 12, 13, 14, 15, 16] rfl) (hD.sub (ws' := [(q 0, .inr (2, [.ref (q 1), .ref (q 2), .ref (q 3), .ref (q 4), .ref (q 5), .ref (q 6), .ref (q 9), .int (nI np), .int (nI ns), .int (nI w), .int (nI c), .int (nI (d / c)), .int (nI (d % c))])), (q 1, .inl (cI, 150, .inl (F 0))), (q 2, .inl (cI, 84, .inl (F 1))), (q 3, .inl (cI, 128, .inl (F 2))), (q 4, .inl (cI, 32, .inl (F 3))), (q 5, .inl (cI, 32, .inl (F 4))), (q 6, .inr (1, [.ref (q 7), .ref (q 8), .int (X 0)])), (q 7, .inl (cI, 8, .inl (F 5))), (q 8, .inl (cI, 64, .inl (F 6))), (q 9, .inr (0, [.ref (q 10), .ref (q 13), .ref (q 14), .ref (q 15), .ref (q 16), .ref (q 17)])), (q 10, .inr (1, [.ref (q 11), .ref (q 12), .int (X 1)])), (q 11, .inl (cI, 8, .inl (F 7))), (q 12, .inl (cI, 64, .inl (F 8))), (q 13, .inl (cI, 64, .inl (F 9))), (q 14, .inl (cI, 64, .inl (F 10))), (q 15, .inl (cI, 32, .inl (F 11))), (q 16, .inl (cI, 8, .inl (F 12))), (q 17, .inl (cI, 8, .inl (F 13)))]) [17, 0, 1, 2, 3, 4, 5, 6, 7, 8, 9, 10, 11, 12, 13, 14, 15, 16] (by decide) rfl) hS d_KeyMaker_start_31 (by decide) (by decide)
set_option maxHeartbeats 4000000 in
set_option maxRecDepth 100000 in
theorem c_kstep (l : Launch) (G : va_G) (cI cB : ClassId) (tK tH sz : Nat) (q : Nat → Nat) (p s : Nat → Int32) (np ns c w d : Nat) (F : Nat → Nat → Int32) (X : Nat → Int32) (hAb : kA_ok (p, np, s, ns, c, w, d)) (hC : kC (p, np, s, ns, c, w, d) F) : xMi l G cI cB tK tH y_KeyMaker_step b_KeyMaker_step 1 (some .int) ({ frames := 7, cells := 0, slots := 0, locals := 163 }) [.ref (q 0)] sz [(q 0, .inr (2, [.ref (q 1), .ref (q 2), .ref (q 3), .ref (q 4), .ref (q 5), .ref (q 6), .ref (q 9), .int (nI np), .int (nI ns), .int (nI w), .int (nI c), .int (nI (d / c)), .int (nI (d % c))])), (q 1, .inl (cI, 150, .inl (F 0))), (q 2, .inl (cI, 84, .inl (F 1))), (q 3, .inl (cI, 128, .inl (F 2))), (q 4, .inl (cI, 32, .inl (F 3))), (q 5, .inl (cI, 32, .inl (F 4))), (q 6, .inr (1, [.ref (q 7), .ref (q 8), .int (X 0)])), (q 7, .inl (cI, 8, .inl (F 5))), (q 8, .inl (cI, 64, .inl (F 6))), (q 9, .inr (0, [.ref (q 10), .ref (q 13), .ref (q 14), .ref (q 15), .ref (q 16), .ref (q 17)])), (q 10, .inr (1, [.ref (q 11), .ref (q 12), .int (X 1)])), (q 11, .inl (cI, 8, .inl (F 7))), (q 12, .inl (cI, 64, .inl (F 8))), (q 13, .inl (cI, 64, .inl (F 9))), (q 14, .inl (cI, 64, .inl (F 10))), (q 15, .inl (cI, 32, .inl (F 11))), (q 16, .inl (cI, 8, .inl (F 12))), (q 17, .inl (cI, 8, .inl (F 13)))] (fun r u => r = (ka_step (p, np, s, ns, c, w, d)).1 ∧ u.1 = (ka_step (p, np, s, ns, c, w, d)).2 ∧ kC u.1 u.2.1) (fun u : kA × (Nat → Nat → Int32) × (Nat → Int32) => [(q 0, .inr (2, [.ref (q 1), .ref (q 2), .ref (q 3), .ref (q 4), .ref (q 5), .ref (q 6), .ref (q 9), .int (nI u.1.2.1), .int (nI u.1.2.2.2.1), .int (nI u.1.2.2.2.2.2.1), .int (nI u.1.2.2.2.2.1), .int (nI (u.1.2.2.2.2.2.2 / u.1.2.2.2.2.1)), .int (nI (u.1.2.2.2.2.2.2 % u.1.2.2.2.2.1))])), (q 1, .inl (cI, 150, .inl (u.2.1 0))), (q 2, .inl (cI, 84, .inl (u.2.1 1))), (q 3, .inl (cI, 128, .inl (u.2.1 2))), (q 4, .inl (cI, 32, .inl (u.2.1 3))), (q 5, .inl (cI, 32, .inl (u.2.1 4))), (q 6, .inr (1, [.ref (q 7), .ref (q 8), .int (u.2.2 0)])), (q 7, .inl (cI, 8, .inl (u.2.1 5))), (q 8, .inl (cI, 64, .inl (u.2.1 6))), (q 9, .inr (0, [.ref (q 10), .ref (q 13), .ref (q 14), .ref (q 15), .ref (q 16), .ref (q 17)])), (q 10, .inr (1, [.ref (q 11), .ref (q 12), .int (u.2.2 1)])), (q 11, .inl (cI, 8, .inl (u.2.1 7))), (q 12, .inl (cI, 64, .inl (u.2.1 8))), (q 13, .inl (cI, 64, .inl (u.2.1 9))), (q 14, .inl (cI, 64, .inl (u.2.1 10))), (q 15, .inl (cI, 32, .inl (u.2.1 11))), (q 16, .inl (cI, 8, .inl (u.2.1 12))), (q 17, .inl (cI, 8, .inl (u.2.1 13)))]) := by
  refine xMi.of (lv := [(0, .ref (q 0))]) (by decide) (Nat.le_of_ble_eq_true rfl) rfl ?_
  intro pp ee ss mm bel met cod A ls H locs hx hb hml hr hlk hts hown hnm hA hK hst hP hD hS hl
  have hown : ss.vm.findClass R_KeyMaker = some mm.cls := hown
  have hA0 := hAb
  have hC0 := hC
  obtain ⟨hA1, hA2, hA3, hA4, hA5, hA6, hA7, hA8, hA9⟩ := hAb
  obtain ⟨hC1, hC2, hC3⟩ := hC
  have hcd := kA_c0 hA0
  have hka := kt_all_le hA6 hA5
  have hdc := Nat.div_le_self d c
  refine lv_aload_n hx hb d_KeyMaker_step_0 rfl (lv_at hl 0 rfl) ?_
  refine xc_i (wr := [(q 1, .inl (cI, 150, .inl (F 0))), (q 2, .inl (cI, 84, .inl (F 1))), (q 3, .inl (cI, 128, .inl (F 2))), (q 4, .inl (cI, 32, .inl (F 3))), (q 5, .inl (cI, 32, .inl (F 4))), (q 6, .inr (1, [.ref (q 7), .ref (q 8), .int (X 0)])), (q 7, .inl (cI, 8, .inl (F 5))), (q 8, .inl (cI, 64, .inl (F 6))), (q 9, .inr (0, [.ref (q 10), .ref (q 13), .ref (q 14), .ref (q 15), .ref (q 16), .ref (q 17)])), (q 10, .inr (1, [.ref (q 11), .ref (q 12), .int (X 1)])), (q 11, .inl (cI, 8, .inl (F 7))), (q 12, .inl (cI, 64, .inl (F 8))), (q 13, .inl (cI, 64, .inl (F 9))), (q 14, .inl (cI, 64, .inl (F 10))), (q 15, .inl (cI, 32, .inl (F 11))), (q 16, .inl (cI, 8, .inl (F 12))), (q 17, .inl (cI, 8, .inl (F 13)))]) (va_runV (As := []) (rest := []) ⟨hx, hb, hml, hown, hts⟩ (c_turnsLeft l G cI cB tK tH H.size q (nI np) (nI ns) w c d (by omega) hcd hA9) (cwV 0 hts (xg_V tw_218 tw_220 tw_6 tw_17 tw_221) rfl rfl rfl (by decide +kernel) ⟨Nat.le_of_ble_eq_true rfl, Nat.le_of_ble_eq_true rfl⟩) (xc_preV hK hst hA hP hD hS [0] (by decide) rfl 0 rfl rfl) rfl rfl hl.1 rfl (lv_room (Nat.le_of_ble_eq_true rfl)) d_KeyMaker_step_1 ⟨Nat.le_of_ble_eq_true rfl, Nat.le_of_ble_eq_true rfl⟩) hA hP hD hS [0] [1, 2, 3, 4, 5, 6, 7, 8, 9, 10, 11, 12, 13, 14, 15, 16, 17] rfl rfl (by decide) (by decide) (fun r2 u1 H locs hr9 hP hD hS => ?_)
  have hP : va_P G classes [(q 1, .inl (cI, 150, .inl (F 0))), (q 2, .inl (cI, 84, .inl (F 1))), (q 3, .inl (cI, 128, .inl (F 2))), (q 4, .inl (cI, 32, .inl (F 3))), (q 5, .inl (cI, 32, .inl (F 4))), (q 6, .inr (1, [.ref (q 7), .ref (q 8), .int (X 0)])), (q 7, .inl (cI, 8, .inl (F 5))), (q 8, .inl (cI, 64, .inl (F 6))), (q 9, .inr (0, [.ref (q 10), .ref (q 13), .ref (q 14), .ref (q 15), .ref (q 16), .ref (q 17)])), (q 10, .inr (1, [.ref (q 11), .ref (q 12), .int (X 1)])), (q 11, .inl (cI, 8, .inl (F 7))), (q 12, .inl (cI, 64, .inl (F 8))), (q 13, .inl (cI, 64, .inl (F 9))), (q 14, .inl (cI, 64, .inl (F 10))), (q 15, .inl (cI, 32, .inl (F 11))), (q 16, .inl (cI, 8, .inl (F 12))), (q 17, .inl (cI, 8, .inl (F 13))), (q 0, .inr (2, [.ref (q 1), .ref (q 2), .ref (q 3), .ref (q 4), .ref (q 5), .ref (q 6), .ref (q 9), .int (nI np), .int (nI ns), .int (nI w), .int (nI c), .int (nI (d / c)), .int (nI (d % c))]))] H := hP
  have hD : va_D A [(q 1, .inl (cI, 150, .inl (F 0))), (q 2, .inl (cI, 84, .inl (F 1))), (q 3, .inl (cI, 128, .inl (F 2))), (q 4, .inl (cI, 32, .inl (F 3))), (q 5, .inl (cI, 32, .inl (F 4))), (q 6, .inr (1, [.ref (q 7), .ref (q 8), .int (X 0)])), (q 7, .inl (cI, 8, .inl (F 5))), (q 8, .inl (cI, 64, .inl (F 6))), (q 9, .inr (0, [.ref (q 10), .ref (q 13), .ref (q 14), .ref (q 15), .ref (q 16), .ref (q 17)])), (q 10, .inr (1, [.ref (q 11), .ref (q 12), .int (X 1)])), (q 11, .inl (cI, 8, .inl (F 7))), (q 12, .inl (cI, 64, .inl (F 8))), (q 13, .inl (cI, 64, .inl (F 9))), (q 14, .inl (cI, 64, .inl (F 10))), (q 15, .inl (cI, 32, .inl (F 11))), (q 16, .inl (cI, 8, .inl (F 12))), (q 17, .inl (cI, 8, .inl (F 13))), (q 0, .inr (2, [.ref (q 1), .ref (q 2), .ref (q 3), .ref (q 4), .ref (q 5), .ref (q 6), .ref (q 9), .int (nI np), .int (nI ns), .int (nI w), .int (nI c), .int (nI (d / c)), .int (nI (d % c))]))] := hD
  obtain rfl : r2 = nI (kt_all c w - d) := hr9
  refine lv_if_gt (tgt := 9) hx hb d_KeyMaker_step_4 (by decide) (fun hd => ?_) (fun hd => ?_)
  · have hd : 0 < (kt_all c w - d) := (nI_ltI (a := 0) (b := (kt_all c w - d)) (by omega) (by omega)).mp hd
    have hw : 0 < w := by
      rcases Nat.eq_zero_or_pos w with z | z
      · rw [z, kt_all_0] at hd; omega
      · exact z
    obtain ⟨k1, k2, k3, k4⟩ := hC3 hw
    have hP := xp_fun hP 2 (km_K p np s ns c d) rfl (k1)
    have hD := hD.set (p := 2) (e := .inl (cI, 128, .inl (km_K p np s ns c d))) rfl
    have hP : va_P G classes [(q 1, .inl (cI, 150, .inl (F 0))), (q 2, .inl (cI, 84, .inl (F 1))), (q 3, .inl (cI, 128, .inl (km_K p np s ns c d))), (q 4, .inl (cI, 32, .inl (F 3))), (q 5, .inl (cI, 32, .inl (F 4))), (q 6, .inr (1, [.ref (q 7), .ref (q 8), .int (X 0)])), (q 7, .inl (cI, 8, .inl (F 5))), (q 8, .inl (cI, 64, .inl (F 6))), (q 9, .inr (0, [.ref (q 10), .ref (q 13), .ref (q 14), .ref (q 15), .ref (q 16), .ref (q 17)])), (q 10, .inr (1, [.ref (q 11), .ref (q 12), .int (X 1)])), (q 11, .inl (cI, 8, .inl (F 7))), (q 12, .inl (cI, 64, .inl (F 8))), (q 13, .inl (cI, 64, .inl (F 9))), (q 14, .inl (cI, 64, .inl (F 10))), (q 15, .inl (cI, 32, .inl (F 11))), (q 16, .inl (cI, 8, .inl (F 12))), (q 17, .inl (cI, 8, .inl (F 13))), (q 0, .inr (2, [.ref (q 1), .ref (q 2), .ref (q 3), .ref (q 4), .ref (q 5), .ref (q 6), .ref (q 9), .int (nI np), .int (nI ns), .int (nI w), .int (nI c), .int (nI (d / c)), .int (nI (d % c))]))] H := hP
    have hD : va_D A [(q 1, .inl (cI, 150, .inl (F 0))), (q 2, .inl (cI, 84, .inl (F 1))), (q 3, .inl (cI, 128, .inl (km_K p np s ns c d))), (q 4, .inl (cI, 32, .inl (F 3))), (q 5, .inl (cI, 32, .inl (F 4))), (q 6, .inr (1, [.ref (q 7), .ref (q 8), .int (X 0)])), (q 7, .inl (cI, 8, .inl (F 5))), (q 8, .inl (cI, 64, .inl (F 6))), (q 9, .inr (0, [.ref (q 10), .ref (q 13), .ref (q 14), .ref (q 15), .ref (q 16), .ref (q 17)])), (q 10, .inr (1, [.ref (q 11), .ref (q 12), .int (X 1)])), (q 11, .inl (cI, 8, .inl (F 7))), (q 12, .inl (cI, 64, .inl (F 8))), (q 13, .inl (cI, 64, .inl (F 9))), (q 14, .inl (cI, 64, .inl (F 10))), (q 15, .inl (cI, 32, .inl (F 11))), (q 16, .inl (cI, 8, .inl (F 12))), (q 17, .inl (cI, 8, .inl (F 13))), (q 0, .inr (2, [.ref (q 1), .ref (q 2), .ref (q 3), .ref (q 4), .ref (q 5), .ref (q 6), .ref (q 9), .int (nI np), .int (nI ns), .int (nI w), .int (nI c), .int (nI (d / c)), .int (nI (d % c))]))] := hD
    have hP := xp_fun hP 15 (km_h (km_kx p np 54) 1) rfl (k3)
    have hD := hD.set (p := 15) (e := .inl (cI, 8, .inl (km_h (km_kx p np 54) 1))) rfl
    have hP : va_P G classes [(q 1, .inl (cI, 150, .inl (F 0))), (q 2, .inl (cI, 84, .inl (F 1))), (q 3, .inl (cI, 128, .inl (km_K p np s ns c d))), (q 4, .inl (cI, 32, .inl (F 3))), (q 5, .inl (cI, 32, .inl (F 4))), (q 6, .inr (1, [.ref (q 7), .ref (q 8), .int (X 0)])), (q 7, .inl (cI, 8, .inl (F 5))), (q 8, .inl (cI, 64, .inl (F 6))), (q 9, .inr (0, [.ref (q 10), .ref (q 13), .ref (q 14), .ref (q 15), .ref (q 16), .ref (q 17)])), (q 10, .inr (1, [.ref (q 11), .ref (q 12), .int (X 1)])), (q 11, .inl (cI, 8, .inl (F 7))), (q 12, .inl (cI, 64, .inl (F 8))), (q 13, .inl (cI, 64, .inl (F 9))), (q 14, .inl (cI, 64, .inl (F 10))), (q 15, .inl (cI, 32, .inl (F 11))), (q 16, .inl (cI, 8, .inl (km_h (km_kx p np 54) 1))), (q 17, .inl (cI, 8, .inl (F 13))), (q 0, .inr (2, [.ref (q 1), .ref (q 2), .ref (q 3), .ref (q 4), .ref (q 5), .ref (q 6), .ref (q 9), .int (nI np), .int (nI ns), .int (nI w), .int (nI c), .int (nI (d / c)), .int (nI (d % c))]))] H := hP
    have hD : va_D A [(q 1, .inl (cI, 150, .inl (F 0))), (q 2, .inl (cI, 84, .inl (F 1))), (q 3, .inl (cI, 128, .inl (km_K p np s ns c d))), (q 4, .inl (cI, 32, .inl (F 3))), (q 5, .inl (cI, 32, .inl (F 4))), (q 6, .inr (1, [.ref (q 7), .ref (q 8), .int (X 0)])), (q 7, .inl (cI, 8, .inl (F 5))), (q 8, .inl (cI, 64, .inl (F 6))), (q 9, .inr (0, [.ref (q 10), .ref (q 13), .ref (q 14), .ref (q 15), .ref (q 16), .ref (q 17)])), (q 10, .inr (1, [.ref (q 11), .ref (q 12), .int (X 1)])), (q 11, .inl (cI, 8, .inl (F 7))), (q 12, .inl (cI, 64, .inl (F 8))), (q 13, .inl (cI, 64, .inl (F 9))), (q 14, .inl (cI, 64, .inl (F 10))), (q 15, .inl (cI, 32, .inl (F 11))), (q 16, .inl (cI, 8, .inl (km_h (km_kx p np 54) 1))), (q 17, .inl (cI, 8, .inl (F 13))), (q 0, .inr (2, [.ref (q 1), .ref (q 2), .ref (q 3), .ref (q 4), .ref (q 5), .ref (q 6), .ref (q 9), .int (nI np), .int (nI ns), .int (nI w), .int (nI c), .int (nI (d / c)), .int (nI (d % c))]))] := hD
    have hP := xp_fun hP 16 (km_h (km_kx p np 92) 1) rfl (k4)
    have hD := hD.set (p := 16) (e := .inl (cI, 8, .inl (km_h (km_kx p np 92) 1))) rfl
    have hP : va_P G classes [(q 1, .inl (cI, 150, .inl (F 0))), (q 2, .inl (cI, 84, .inl (F 1))), (q 3, .inl (cI, 128, .inl (km_K p np s ns c d))), (q 4, .inl (cI, 32, .inl (F 3))), (q 5, .inl (cI, 32, .inl (F 4))), (q 6, .inr (1, [.ref (q 7), .ref (q 8), .int (X 0)])), (q 7, .inl (cI, 8, .inl (F 5))), (q 8, .inl (cI, 64, .inl (F 6))), (q 9, .inr (0, [.ref (q 10), .ref (q 13), .ref (q 14), .ref (q 15), .ref (q 16), .ref (q 17)])), (q 10, .inr (1, [.ref (q 11), .ref (q 12), .int (X 1)])), (q 11, .inl (cI, 8, .inl (F 7))), (q 12, .inl (cI, 64, .inl (F 8))), (q 13, .inl (cI, 64, .inl (F 9))), (q 14, .inl (cI, 64, .inl (F 10))), (q 15, .inl (cI, 32, .inl (F 11))), (q 16, .inl (cI, 8, .inl (km_h (km_kx p np 54) 1))), (q 17, .inl (cI, 8, .inl (km_h (km_kx p np 92) 1))), (q 0, .inr (2, [.ref (q 1), .ref (q 2), .ref (q 3), .ref (q 4), .ref (q 5), .ref (q 6), .ref (q 9), .int (nI np), .int (nI ns), .int (nI w), .int (nI c), .int (nI (d / c)), .int (nI (d % c))]))] H := hP
    have hD : va_D A [(q 1, .inl (cI, 150, .inl (F 0))), (q 2, .inl (cI, 84, .inl (F 1))), (q 3, .inl (cI, 128, .inl (km_K p np s ns c d))), (q 4, .inl (cI, 32, .inl (F 3))), (q 5, .inl (cI, 32, .inl (F 4))), (q 6, .inr (1, [.ref (q 7), .ref (q 8), .int (X 0)])), (q 7, .inl (cI, 8, .inl (F 5))), (q 8, .inl (cI, 64, .inl (F 6))), (q 9, .inr (0, [.ref (q 10), .ref (q 13), .ref (q 14), .ref (q 15), .ref (q 16), .ref (q 17)])), (q 10, .inr (1, [.ref (q 11), .ref (q 12), .int (X 1)])), (q 11, .inl (cI, 8, .inl (F 7))), (q 12, .inl (cI, 64, .inl (F 8))), (q 13, .inl (cI, 64, .inl (F 9))), (q 14, .inl (cI, 64, .inl (F 10))), (q 15, .inl (cI, 32, .inl (F 11))), (q 16, .inl (cI, 8, .inl (km_h (km_kx p np 54) 1))), (q 17, .inl (cI, 8, .inl (km_h (km_kx p np 92) 1))), (q 0, .inr (2, [.ref (q 1), .ref (q 2), .ref (q 3), .ref (q 4), .ref (q 5), .ref (q 6), .ref (q 9), .int (nI np), .int (nI ns), .int (nI w), .int (nI c), .int (nI (d / c)), .int (nI (d % c))]))] := hD
    have hc0 := hA8 hw
    refine lv_aload_n hx hb d_KeyMaker_step_9 rfl (lv_at hl 0 rfl) ?_
    refine xc_v (wr := [(q 1, .inl (cI, 150, .inl (F 0))), (q 5, .inl (cI, 32, .inl (F 4))), (q 6, .inr (1, [.ref (q 7), .ref (q 8), .int (X 0)])), (q 7, .inl (cI, 8, .inl (F 5))), (q 8, .inl (cI, 64, .inl (F 6))), (q 13, .inl (cI, 64, .inl (F 9))), (q 14, .inl (cI, 64, .inl (F 10)))]) (va_runV (As := []) (rest := []) ⟨hx, hb, hml, hown, hts⟩ (c_turn l G cI cB tK tH H.size q p s np ns c w d (F 1) (F 3) (F 7) (F 8) (F 11) (X 1) hA0 (by omega) hC2 k2) (cwV 0 hts (xg_V tw_226 tw_228 tw_7 tw_17 tw_229) rfl rfl rfl (by decide +kernel) ⟨Nat.le_of_ble_eq_true rfl, Nat.le_of_ble_eq_true rfl⟩) (xc_preV hK hst hA hP hD hS [17, 1, 2, 3, 8, 9, 10, 11, 14, 15, 16] (by decide) rfl 17 rfl rfl) rfl rfl hl.1 rfl (lv_room (Nat.le_of_ble_eq_true rfl)) d_KeyMaker_step_10 ⟨Nat.le_of_ble_eq_true rfl, Nat.le_of_ble_eq_true rfl⟩) hA hP hD hS [17, 1, 2, 3, 8, 9, 10, 11, 14, 15, 16] [0, 4, 5, 6, 7, 12, 13] rfl rfl (by decide) (by decide) (fun u3 H locs hg1 hP hD hS => ?_)
    obtain ⟨g1, f7, w8, tk1, i11⟩ := u3
    have hP : va_P G classes [(q 1, .inl (cI, 150, .inl (F 0))), (q 5, .inl (cI, 32, .inl (F 4))), (q 6, .inr (1, [.ref (q 7), .ref (q 8), .int (X 0)])), (q 7, .inl (cI, 8, .inl (F 5))), (q 8, .inl (cI, 64, .inl (F 6))), (q 13, .inl (cI, 64, .inl (F 9))), (q 14, .inl (cI, 64, .inl (F 10))), (q 0, .inr (2, [.ref (q 1), .ref (q 2), .ref (q 3), .ref (q 4), .ref (q 5), .ref (q 6), .ref (q 9), .int (nI np), .int (nI ns), .int (nI w), .int (nI c), .int (nI ((d + 1) / c)), .int (nI ((d + 1) % c))])), (q 2, .inl (cI, 84, .inl g1)), (q 3, .inl (cI, 128, .inl (km_K p np s ns c (d + 1)))), (q 4, .inl (cI, 32, .inl (km_U p np s ns c (d + 1)))), (q 9, .inr (0, [.ref (q 10), .ref (q 13), .ref (q 14), .ref (q 15), .ref (q 16), .ref (q 17)])), (q 10, .inr (1, [.ref (q 11), .ref (q 12), .int tk1])), (q 11, .inl (cI, 8, .inl f7)), (q 12, .inl (cI, 64, .inl w8)), (q 15, .inl (cI, 32, .inl i11)), (q 16, .inl (cI, 8, .inl (km_h (km_kx p np 54) 1))), (q 17, .inl (cI, 8, .inl (km_h (km_kx p np 92) 1)))] H := hP
    have hD : va_D A [(q 1, .inl (cI, 150, .inl (F 0))), (q 5, .inl (cI, 32, .inl (F 4))), (q 6, .inr (1, [.ref (q 7), .ref (q 8), .int (X 0)])), (q 7, .inl (cI, 8, .inl (F 5))), (q 8, .inl (cI, 64, .inl (F 6))), (q 13, .inl (cI, 64, .inl (F 9))), (q 14, .inl (cI, 64, .inl (F 10))), (q 0, .inr (2, [.ref (q 1), .ref (q 2), .ref (q 3), .ref (q 4), .ref (q 5), .ref (q 6), .ref (q 9), .int (nI np), .int (nI ns), .int (nI w), .int (nI c), .int (nI ((d + 1) / c)), .int (nI ((d + 1) % c))])), (q 2, .inl (cI, 84, .inl g1)), (q 3, .inl (cI, 128, .inl (km_K p np s ns c (d + 1)))), (q 4, .inl (cI, 32, .inl (km_U p np s ns c (d + 1)))), (q 9, .inr (0, [.ref (q 10), .ref (q 13), .ref (q 14), .ref (q 15), .ref (q 16), .ref (q 17)])), (q 10, .inr (1, [.ref (q 11), .ref (q 12), .int tk1])), (q 11, .inl (cI, 8, .inl f7)), (q 12, .inl (cI, 64, .inl w8)), (q 15, .inl (cI, 32, .inl i11)), (q 16, .inl (cI, 8, .inl (km_h (km_kx p np 54) 1))), (q 17, .inl (cI, 8, .inl (km_h (km_kx p np 92) 1)))] := hD
    refine lv_aload_n hx hb d_KeyMaker_step_13 rfl (lv_at hl 0 rfl) ?_
    refine xc_i (wr := [(q 1, .inl (cI, 150, .inl (F 0))), (q 5, .inl (cI, 32, .inl (F 4))), (q 6, .inr (1, [.ref (q 7), .ref (q 8), .int (X 0)])), (q 7, .inl (cI, 8, .inl (F 5))), (q 8, .inl (cI, 64, .inl (F 6))), (q 13, .inl (cI, 64, .inl (F 9))), (q 14, .inl (cI, 64, .inl (F 10))), (q 2, .inl (cI, 84, .inl g1)), (q 3, .inl (cI, 128, .inl (km_K p np s ns c (d + 1)))), (q 4, .inl (cI, 32, .inl (km_U p np s ns c (d + 1)))), (q 9, .inr (0, [.ref (q 10), .ref (q 13), .ref (q 14), .ref (q 15), .ref (q 16), .ref (q 17)])), (q 10, .inr (1, [.ref (q 11), .ref (q 12), .int tk1])), (q 11, .inl (cI, 8, .inl f7)), (q 12, .inl (cI, 64, .inl w8)), (q 15, .inl (cI, 32, .inl i11)), (q 16, .inl (cI, 8, .inl (km_h (km_kx p np 54) 1))), (q 17, .inl (cI, 8, .inl (km_h (km_kx p np 92) 1)))]) (va_runV (As := []) (rest := []) ⟨hx, hb, hml, hown, hts⟩ (c_turnsLeft l G cI cB tK tH H.size q (nI np) (nI ns) w c (d + 1) (by omega) (fun z => by omega) (by omega)) (cwV 0 hts (xg_V tw_218 tw_220 tw_6 tw_17 tw_221) rfl rfl rfl (by decide +kernel) ⟨Nat.le_of_ble_eq_true rfl, Nat.le_of_ble_eq_true rfl⟩) (xc_preV hK hst hA hP hD hS [7] (by decide) rfl 7 rfl rfl) rfl rfl hl.1 rfl (lv_room (Nat.le_of_ble_eq_true rfl)) d_KeyMaker_step_14 ⟨Nat.le_of_ble_eq_true rfl, Nat.le_of_ble_eq_true rfl⟩) hA hP hD hS [7] [0, 1, 2, 3, 4, 5, 6, 8, 9, 10, 11, 12, 13, 14, 15, 16, 17] rfl rfl (by decide) (by decide) (fun r6 u5 H locs hr9 hP hD hS => ?_)
    have hP : va_P G classes [(q 1, .inl (cI, 150, .inl (F 0))), (q 5, .inl (cI, 32, .inl (F 4))), (q 6, .inr (1, [.ref (q 7), .ref (q 8), .int (X 0)])), (q 7, .inl (cI, 8, .inl (F 5))), (q 8, .inl (cI, 64, .inl (F 6))), (q 13, .inl (cI, 64, .inl (F 9))), (q 14, .inl (cI, 64, .inl (F 10))), (q 2, .inl (cI, 84, .inl g1)), (q 3, .inl (cI, 128, .inl (km_K p np s ns c (d + 1)))), (q 4, .inl (cI, 32, .inl (km_U p np s ns c (d + 1)))), (q 9, .inr (0, [.ref (q 10), .ref (q 13), .ref (q 14), .ref (q 15), .ref (q 16), .ref (q 17)])), (q 10, .inr (1, [.ref (q 11), .ref (q 12), .int tk1])), (q 11, .inl (cI, 8, .inl f7)), (q 12, .inl (cI, 64, .inl w8)), (q 15, .inl (cI, 32, .inl i11)), (q 16, .inl (cI, 8, .inl (km_h (km_kx p np 54) 1))), (q 17, .inl (cI, 8, .inl (km_h (km_kx p np 92) 1))), (q 0, .inr (2, [.ref (q 1), .ref (q 2), .ref (q 3), .ref (q 4), .ref (q 5), .ref (q 6), .ref (q 9), .int (nI np), .int (nI ns), .int (nI w), .int (nI c), .int (nI ((d + 1) / c)), .int (nI ((d + 1) % c))]))] H := hP
    have hD : va_D A [(q 1, .inl (cI, 150, .inl (F 0))), (q 5, .inl (cI, 32, .inl (F 4))), (q 6, .inr (1, [.ref (q 7), .ref (q 8), .int (X 0)])), (q 7, .inl (cI, 8, .inl (F 5))), (q 8, .inl (cI, 64, .inl (F 6))), (q 13, .inl (cI, 64, .inl (F 9))), (q 14, .inl (cI, 64, .inl (F 10))), (q 2, .inl (cI, 84, .inl g1)), (q 3, .inl (cI, 128, .inl (km_K p np s ns c (d + 1)))), (q 4, .inl (cI, 32, .inl (km_U p np s ns c (d + 1)))), (q 9, .inr (0, [.ref (q 10), .ref (q 13), .ref (q 14), .ref (q 15), .ref (q 16), .ref (q 17)])), (q 10, .inr (1, [.ref (q 11), .ref (q 12), .int tk1])), (q 11, .inl (cI, 8, .inl f7)), (q 12, .inl (cI, 64, .inl w8)), (q 15, .inl (cI, 32, .inl i11)), (q 16, .inl (cI, 8, .inl (km_h (km_kx p np 54) 1))), (q 17, .inl (cI, 8, .inl (km_h (km_kx p np 92) 1))), (q 0, .inr (2, [.ref (q 1), .ref (q 2), .ref (q 3), .ref (q 4), .ref (q 5), .ref (q 6), .ref (q 9), .int (nI np), .int (nI ns), .int (nI w), .int (nI c), .int (nI ((d + 1) / c)), .int (nI ((d + 1) % c))]))] := hD
    obtain rfl : r6 = nI (kt_all c w - (d + 1)) := hr9
    have hk : ka_step  (p, np, s, ns, c, w, d) = (nI (kt_all c w - (d + 1)), (p, np, s, ns, c, w, d + 1)) := if_pos (by omega)
    exact xe_i ((p, np, s, ns, c, w, d + 1), (fun z => match z with | 0 => F 0 | 1 => g1 | 2 => km_K p np s ns c (d + 1) | 3 => km_U p np s ns c (d + 1) | 4 => F 4 | 5 => F 5 | 6 => F 6 | 7 => f7 | 8 => w8 | 9 => F 9 | 10 => F 10 | 11 => i11 | 12 => km_h (km_kx p np 54) 1 | _ => km_h (km_kx p np 92) 1), (fun z => match z with | 0 => X 0 | _ => tk1)) hx hb hr hlk hK (⟨by rw [hk], by rw [hk], kC_turns hC0 rfl hg1 (fun j _ => rfl) (fun _ j _ => rfl) (fun j _ => rfl) (fun j _ => rfl)⟩) (hP.sub (ws' := [(q 0, .inr (2, [.ref (q 1), .ref (q 2), .ref (q 3), .ref (q 4), .ref (q 5), .ref (q 6), .ref (q 9), .int (nI np), .int (nI ns), .int (nI w), .int (nI c), .int (nI ((d + 1) / c)), .int (nI ((d + 1) % c))])), (q 1, .inl (cI, 150, .inl (F 0))), (q 2, .inl (cI, 84, .inl g1)), (q 3, .inl (cI, 128, .inl (km_K p np s ns c (d + 1)))), (q 4, .inl (cI, 32, .inl (km_U p np s ns c (d + 1)))), (q 5, .inl (cI, 32, .inl (F 4))), (q 6, .inr (1, [.ref (q 7), .ref (q 8), .int (X 0)])), (q 7, .inl (cI, 8, .inl (F 5))), (q 8, .inl (cI, 64, .inl (F 6))), (q 9, .inr (0, [.ref (q 10), .ref (q 13), .ref (q 14), .ref (q 15), .ref (q 16), .ref (q 17)])), (q 10, .inr (1, [.ref (q 11), .ref (q 12), .int tk1])), (q 11, .inl (cI, 8, .inl f7)), (q 12, .inl (cI, 64, .inl w8)), (q 13, .inl (cI, 64, .inl (F 9))), (q 14, .inl (cI, 64, .inl (F 10))), (q 15, .inl (cI, 32, .inl i11)), (q 16, .inl (cI, 8, .inl (km_h (km_kx p np 54) 1))), (q 17, .inl (cI, 8, .inl (km_h (km_kx p np 92) 1)))]) [17, 0, 7, 8, 9, 1, 2, 3, 4, 10, 11, 12, 13, 5, 6, 14, 15, 16] rfl) (hD.sub (ws' := [(q 0, .inr (2, [.ref (q 1), .ref (q 2), .ref (q 3), .ref (q 4), .ref (q 5), .ref (q 6), .ref (q 9), .int (nI np), .int (nI ns), .int (nI w), .int (nI c), .int (nI ((d + 1) / c)), .int (nI ((d + 1) % c))])), (q 1, .inl (cI, 150, .inl (F 0))), (q 2, .inl (cI, 84, .inl g1)), (q 3, .inl (cI, 128, .inl (km_K p np s ns c (d + 1)))), (q 4, .inl (cI, 32, .inl (km_U p np s ns c (d + 1)))), (q 5, .inl (cI, 32, .inl (F 4))), (q 6, .inr (1, [.ref (q 7), .ref (q 8), .int (X 0)])), (q 7, .inl (cI, 8, .inl (F 5))), (q 8, .inl (cI, 64, .inl (F 6))), (q 9, .inr (0, [.ref (q 10), .ref (q 13), .ref (q 14), .ref (q 15), .ref (q 16), .ref (q 17)])), (q 10, .inr (1, [.ref (q 11), .ref (q 12), .int tk1])), (q 11, .inl (cI, 8, .inl f7)), (q 12, .inl (cI, 64, .inl w8)), (q 13, .inl (cI, 64, .inl (F 9))), (q 14, .inl (cI, 64, .inl (F 10))), (q 15, .inl (cI, 32, .inl i11)), (q 16, .inl (cI, 8, .inl (km_h (km_kx p np 54) 1))), (q 17, .inl (cI, 8, .inl (km_h (km_kx p np 92) 1)))]) [17, 0, 7, 8, 9, 1, 2, 3, 4, 10, 11, 12, 13, 5, 6, 14, 15, 16] (by decide) rfl) hS d_KeyMaker_step_17 (by decide) (by decide)
  · have hd : ¬ 0 < (kt_all c w - d) := fun z => hd ((nI_ltI (a := 0) (b := (kt_all c w - d)) (by omega) (by omega)).mpr z)
    refine lv_iconst (v := (-1)) hx hb d_KeyMaker_step_7 (by decide) ?_
    have hk : ka_step  (p, np, s, ns, c, w, d) = (-1, (p, np, s, ns, c, w, d)) := if_neg (fun z => by omega)
    exact xe_i ((p, np, s, ns, c, w, d), (fun z => match z with | 0 => F 0 | 1 => F 1 | 2 => F 2 | 3 => F 3 | 4 => F 4 | 5 => F 5 | 6 => F 6 | 7 => F 7 | 8 => F 8 | 9 => F 9 | 10 => F 10 | 11 => F 11 | 12 => F 12 | _ => F 13), (fun z => match z with | 0 => X 0 | _ => X 1)) hx hb hr hlk hK (⟨by rw [hk], by rw [hk], kC_same hC0 rfl rfl rfl rfl rfl rfl⟩) (hP.sub (ws' := [(q 0, .inr (2, [.ref (q 1), .ref (q 2), .ref (q 3), .ref (q 4), .ref (q 5), .ref (q 6), .ref (q 9), .int (nI np), .int (nI ns), .int (nI w), .int (nI c), .int (nI (d / c)), .int (nI (d % c))])), (q 1, .inl (cI, 150, .inl (F 0))), (q 2, .inl (cI, 84, .inl (F 1))), (q 3, .inl (cI, 128, .inl (F 2))), (q 4, .inl (cI, 32, .inl (F 3))), (q 5, .inl (cI, 32, .inl (F 4))), (q 6, .inr (1, [.ref (q 7), .ref (q 8), .int (X 0)])), (q 7, .inl (cI, 8, .inl (F 5))), (q 8, .inl (cI, 64, .inl (F 6))), (q 9, .inr (0, [.ref (q 10), .ref (q 13), .ref (q 14), .ref (q 15), .ref (q 16), .ref (q 17)])), (q 10, .inr (1, [.ref (q 11), .ref (q 12), .int (X 1)])), (q 11, .inl (cI, 8, .inl (F 7))), (q 12, .inl (cI, 64, .inl (F 8))), (q 13, .inl (cI, 64, .inl (F 9))), (q 14, .inl (cI, 64, .inl (F 10))), (q 15, .inl (cI, 32, .inl (F 11))), (q 16, .inl (cI, 8, .inl (F 12))), (q 17, .inl (cI, 8, .inl (F 13)))]) [17, 0, 1, 2, 3, 4, 5, 6, 7, 8, 9, 10, 11, 12, 13, 14, 15, 16] rfl) (hD.sub (ws' := [(q 0, .inr (2, [.ref (q 1), .ref (q 2), .ref (q 3), .ref (q 4), .ref (q 5), .ref (q 6), .ref (q 9), .int (nI np), .int (nI ns), .int (nI w), .int (nI c), .int (nI (d / c)), .int (nI (d % c))])), (q 1, .inl (cI, 150, .inl (F 0))), (q 2, .inl (cI, 84, .inl (F 1))), (q 3, .inl (cI, 128, .inl (F 2))), (q 4, .inl (cI, 32, .inl (F 3))), (q 5, .inl (cI, 32, .inl (F 4))), (q 6, .inr (1, [.ref (q 7), .ref (q 8), .int (X 0)])), (q 7, .inl (cI, 8, .inl (F 5))), (q 8, .inl (cI, 64, .inl (F 6))), (q 9, .inr (0, [.ref (q 10), .ref (q 13), .ref (q 14), .ref (q 15), .ref (q 16), .ref (q 17)])), (q 10, .inr (1, [.ref (q 11), .ref (q 12), .int (X 1)])), (q 11, .inl (cI, 8, .inl (F 7))), (q 12, .inl (cI, 64, .inl (F 8))), (q 13, .inl (cI, 64, .inl (F 9))), (q 14, .inl (cI, 64, .inl (F 10))), (q 15, .inl (cI, 32, .inl (F 11))), (q 16, .inl (cI, 8, .inl (F 12))), (q 17, .inl (cI, 8, .inl (F 13)))]) [17, 0, 1, 2, 3, 4, 5, 6, 7, 8, 9, 10, 11, 12, 13, 14, 15, 16] (by decide) rfl) hS d_KeyMaker_step_8 (by decide) (by decide)
set_option maxHeartbeats 4000000 in
set_option maxRecDepth 100000 in
theorem c_krun (l : Launch) (G : va_G) (cI cB : ClassId) (tK tH sz : Nat) (q : Nat → Nat) (p s : Nat → Int32) (np ns c w d : Nat) (F : Nat → Nat → Int32) (X : Nat → Int32) (most : Int32) (hAb : kA_ok (p, np, s, ns, c, w, d)) (hC : kC (p, np, s, ns, c, w, d) F) : xMi l G cI cB tK tH y_KeyMaker_run b_KeyMaker_run 4 (some .int) ({ frames := 7, cells := 0, slots := 0, locals := 163 }) [.ref (q 0), .int most] sz [(q 0, .inr (2, [.ref (q 1), .ref (q 2), .ref (q 3), .ref (q 4), .ref (q 5), .ref (q 6), .ref (q 9), .int (nI np), .int (nI ns), .int (nI w), .int (nI c), .int (nI (d / c)), .int (nI (d % c))])), (q 1, .inl (cI, 150, .inl (F 0))), (q 2, .inl (cI, 84, .inl (F 1))), (q 3, .inl (cI, 128, .inl (F 2))), (q 4, .inl (cI, 32, .inl (F 3))), (q 5, .inl (cI, 32, .inl (F 4))), (q 6, .inr (1, [.ref (q 7), .ref (q 8), .int (X 0)])), (q 7, .inl (cI, 8, .inl (F 5))), (q 8, .inl (cI, 64, .inl (F 6))), (q 9, .inr (0, [.ref (q 10), .ref (q 13), .ref (q 14), .ref (q 15), .ref (q 16), .ref (q 17)])), (q 10, .inr (1, [.ref (q 11), .ref (q 12), .int (X 1)])), (q 11, .inl (cI, 8, .inl (F 7))), (q 12, .inl (cI, 64, .inl (F 8))), (q 13, .inl (cI, 64, .inl (F 9))), (q 14, .inl (cI, 64, .inl (F 10))), (q 15, .inl (cI, 32, .inl (F 11))), (q 16, .inl (cI, 8, .inl (F 12))), (q 17, .inl (cI, 8, .inl (F 13)))] (fun r u => r = (ka_run most (p, np, s, ns, c, w, d)).1 ∧ u.1 = (ka_run most (p, np, s, ns, c, w, d)).2 ∧ kC u.1 u.2.1) (fun u : kA × (Nat → Nat → Int32) × (Nat → Int32) => [(q 0, .inr (2, [.ref (q 1), .ref (q 2), .ref (q 3), .ref (q 4), .ref (q 5), .ref (q 6), .ref (q 9), .int (nI u.1.2.1), .int (nI u.1.2.2.2.1), .int (nI u.1.2.2.2.2.2.1), .int (nI u.1.2.2.2.2.1), .int (nI (u.1.2.2.2.2.2.2 / u.1.2.2.2.2.1)), .int (nI (u.1.2.2.2.2.2.2 % u.1.2.2.2.2.1))])), (q 1, .inl (cI, 150, .inl (u.2.1 0))), (q 2, .inl (cI, 84, .inl (u.2.1 1))), (q 3, .inl (cI, 128, .inl (u.2.1 2))), (q 4, .inl (cI, 32, .inl (u.2.1 3))), (q 5, .inl (cI, 32, .inl (u.2.1 4))), (q 6, .inr (1, [.ref (q 7), .ref (q 8), .int (u.2.2 0)])), (q 7, .inl (cI, 8, .inl (u.2.1 5))), (q 8, .inl (cI, 64, .inl (u.2.1 6))), (q 9, .inr (0, [.ref (q 10), .ref (q 13), .ref (q 14), .ref (q 15), .ref (q 16), .ref (q 17)])), (q 10, .inr (1, [.ref (q 11), .ref (q 12), .int (u.2.2 1)])), (q 11, .inl (cI, 8, .inl (u.2.1 7))), (q 12, .inl (cI, 64, .inl (u.2.1 8))), (q 13, .inl (cI, 64, .inl (u.2.1 9))), (q 14, .inl (cI, 64, .inl (u.2.1 10))), (q 15, .inl (cI, 32, .inl (u.2.1 11))), (q 16, .inl (cI, 8, .inl (u.2.1 12))), (q 17, .inl (cI, 8, .inl (u.2.1 13)))]) := by
  refine xMi.of (lv := [(0, .ref (q 0)), (1, .int most)]) (by decide) (Nat.le_of_ble_eq_true rfl) rfl ?_
  intro pp ee ss mm bel met cod A ls H locs hx hb hml hr hlk hts hown hnm hA hK hst hP hD hS hl
  have hown : ss.vm.findClass R_KeyMaker = some mm.cls := hown
  have hA0 := hAb
  have hC0 := hC
  obtain ⟨hA1, hA2, hA3, hA4, hA5, hA6, hA7, hA8, hA9⟩ := hAb
  obtain ⟨hC1, hC2, hC3⟩ := hC
  have hcd := kA_c0 hA0
  have hka := kt_all_le hA6 hA5
  have hdc := Nat.div_le_self d c
  refine lv_aload_n hx hb d_KeyMaker_run_0 rfl (lv_at hl 0 rfl) ?_
  refine xc_i (wr := [(q 1, .inl (cI, 150, .inl (F 0))), (q 2, .inl (cI, 84, .inl (F 1))), (q 3, .inl (cI, 128, .inl (F 2))), (q 4, .inl (cI, 32, .inl (F 3))), (q 5, .inl (cI, 32, .inl (F 4))), (q 6, .inr (1, [.ref (q 7), .ref (q 8), .int (X 0)])), (q 7, .inl (cI, 8, .inl (F 5))), (q 8, .inl (cI, 64, .inl (F 6))), (q 9, .inr (0, [.ref (q 10), .ref (q 13), .ref (q 14), .ref (q 15), .ref (q 16), .ref (q 17)])), (q 10, .inr (1, [.ref (q 11), .ref (q 12), .int (X 1)])), (q 11, .inl (cI, 8, .inl (F 7))), (q 12, .inl (cI, 64, .inl (F 8))), (q 13, .inl (cI, 64, .inl (F 9))), (q 14, .inl (cI, 64, .inl (F 10))), (q 15, .inl (cI, 32, .inl (F 11))), (q 16, .inl (cI, 8, .inl (F 12))), (q 17, .inl (cI, 8, .inl (F 13)))]) (va_runV (As := []) (rest := []) ⟨hx, hb, hml, hown, hts⟩ (c_isStarted l G cI cB tK tH H.size q (nI np) (nI ns) (nI c) (nI (d / c)) (nI (d % c)) w (by omega)) (cwV 0 hts (xg_V tw_128 tw_130 tw_1 tw_17 tw_131) rfl rfl rfl (by decide +kernel) ⟨Nat.le_of_ble_eq_true rfl, Nat.le_of_ble_eq_true rfl⟩) (xc_preV hK hst hA hP hD hS [0] (by decide) rfl 0 rfl rfl) rfl rfl hl.1 rfl (lv_room (Nat.le_of_ble_eq_true rfl)) d_KeyMaker_run_1 ⟨Nat.le_of_ble_eq_true rfl, Nat.le_of_ble_eq_true rfl⟩) hA hP hD hS [0] [1, 2, 3, 4, 5, 6, 7, 8, 9, 10, 11, 12, 13, 14, 15, 16, 17] rfl rfl (by decide) (by decide) (fun r2 u1 H locs hs hP hD hS => ?_)
  have hP : va_P G classes [(q 1, .inl (cI, 150, .inl (F 0))), (q 2, .inl (cI, 84, .inl (F 1))), (q 3, .inl (cI, 128, .inl (F 2))), (q 4, .inl (cI, 32, .inl (F 3))), (q 5, .inl (cI, 32, .inl (F 4))), (q 6, .inr (1, [.ref (q 7), .ref (q 8), .int (X 0)])), (q 7, .inl (cI, 8, .inl (F 5))), (q 8, .inl (cI, 64, .inl (F 6))), (q 9, .inr (0, [.ref (q 10), .ref (q 13), .ref (q 14), .ref (q 15), .ref (q 16), .ref (q 17)])), (q 10, .inr (1, [.ref (q 11), .ref (q 12), .int (X 1)])), (q 11, .inl (cI, 8, .inl (F 7))), (q 12, .inl (cI, 64, .inl (F 8))), (q 13, .inl (cI, 64, .inl (F 9))), (q 14, .inl (cI, 64, .inl (F 10))), (q 15, .inl (cI, 32, .inl (F 11))), (q 16, .inl (cI, 8, .inl (F 12))), (q 17, .inl (cI, 8, .inl (F 13))), (q 0, .inr (2, [.ref (q 1), .ref (q 2), .ref (q 3), .ref (q 4), .ref (q 5), .ref (q 6), .ref (q 9), .int (nI np), .int (nI ns), .int (nI w), .int (nI c), .int (nI (d / c)), .int (nI (d % c))]))] H := hP
  have hD : va_D A [(q 1, .inl (cI, 150, .inl (F 0))), (q 2, .inl (cI, 84, .inl (F 1))), (q 3, .inl (cI, 128, .inl (F 2))), (q 4, .inl (cI, 32, .inl (F 3))), (q 5, .inl (cI, 32, .inl (F 4))), (q 6, .inr (1, [.ref (q 7), .ref (q 8), .int (X 0)])), (q 7, .inl (cI, 8, .inl (F 5))), (q 8, .inl (cI, 64, .inl (F 6))), (q 9, .inr (0, [.ref (q 10), .ref (q 13), .ref (q 14), .ref (q 15), .ref (q 16), .ref (q 17)])), (q 10, .inr (1, [.ref (q 11), .ref (q 12), .int (X 1)])), (q 11, .inl (cI, 8, .inl (F 7))), (q 12, .inl (cI, 64, .inl (F 8))), (q 13, .inl (cI, 64, .inl (F 9))), (q 14, .inl (cI, 64, .inl (F 10))), (q 15, .inl (cI, 32, .inl (F 11))), (q 16, .inl (cI, 8, .inl (F 12))), (q 17, .inl (cI, 8, .inl (F 13))), (q 0, .inr (2, [.ref (q 1), .ref (q 2), .ref (q 3), .ref (q 4), .ref (q 5), .ref (q 6), .ref (q 9), .int (nI np), .int (nI ns), .int (nI w), .int (nI c), .int (nI (d / c)), .int (nI (d % c))]))] := hD
  rcases hs with ⟨hw, rfl⟩ | ⟨hw, rfl⟩
  · refine lv_if_eq (tgt := 11) hx hb d_KeyMaker_run_4 (by decide) (fun hc => absurd hc (by decide)) (fun _ => ?_)
    refine lv_iload_n hx hb d_KeyMaker_run_7 rfl (lv_at hl 1 rfl) ?_
    refine lv_if_ge (tgt := 13) hx hb d_KeyMaker_run_8 (by decide) (fun hm => ?_) (fun hm => ?_)
    · obtain ⟨k, hk0, rfl⟩ := nI_of (Int32.not_lt.mpr hm)
      refine lv_iload_n hx hb d_KeyMaker_run_13 rfl (lv_at hl 1 rfl) ?_
      refine lv_aload_n hx hb d_KeyMaker_run_14 rfl (lv_at hl 0 rfl) ?_
      refine xc_i (wr := [(q 1, .inl (cI, 150, .inl (F 0))), (q 2, .inl (cI, 84, .inl (F 1))), (q 3, .inl (cI, 128, .inl (F 2))), (q 4, .inl (cI, 32, .inl (F 3))), (q 5, .inl (cI, 32, .inl (F 4))), (q 6, .inr (1, [.ref (q 7), .ref (q 8), .int (X 0)])), (q 7, .inl (cI, 8, .inl (F 5))), (q 8, .inl (cI, 64, .inl (F 6))), (q 9, .inr (0, [.ref (q 10), .ref (q 13), .ref (q 14), .ref (q 15), .ref (q 16), .ref (q 17)])), (q 10, .inr (1, [.ref (q 11), .ref (q 12), .int (X 1)])), (q 11, .inl (cI, 8, .inl (F 7))), (q 12, .inl (cI, 64, .inl (F 8))), (q 13, .inl (cI, 64, .inl (F 9))), (q 14, .inl (cI, 64, .inl (F 10))), (q 15, .inl (cI, 32, .inl (F 11))), (q 16, .inl (cI, 8, .inl (F 12))), (q 17, .inl (cI, 8, .inl (F 13)))]) (va_runV (As := []) (rest := [.int (nI k)]) ⟨hx, hb, hml, hown, hts⟩ (c_turnsLeft l G cI cB tK tH H.size q (nI np) (nI ns) w c d (by omega) hcd hA9) (cwV 0 hts (xg_V tw_218 tw_220 tw_6 tw_17 tw_221) rfl rfl rfl (by decide +kernel) ⟨Nat.le_of_ble_eq_true rfl, Nat.le_of_ble_eq_true rfl⟩) (xc_preV hK hst hA hP hD hS [17] (by decide) rfl 17 rfl rfl) rfl rfl hl.1 rfl (lv_room (Nat.le_of_ble_eq_true rfl)) d_KeyMaker_run_15 ⟨Nat.le_of_ble_eq_true rfl, Nat.le_of_ble_eq_true rfl⟩) hA hP hD hS [17] [0, 1, 2, 3, 4, 5, 6, 7, 8, 9, 10, 11, 12, 13, 14, 15, 16] rfl rfl (by decide) (by decide) (fun r5 u4 H locs hr9 hP hD hS => ?_)
      have hP : va_P G classes [(q 1, .inl (cI, 150, .inl (F 0))), (q 2, .inl (cI, 84, .inl (F 1))), (q 3, .inl (cI, 128, .inl (F 2))), (q 4, .inl (cI, 32, .inl (F 3))), (q 5, .inl (cI, 32, .inl (F 4))), (q 6, .inr (1, [.ref (q 7), .ref (q 8), .int (X 0)])), (q 7, .inl (cI, 8, .inl (F 5))), (q 8, .inl (cI, 64, .inl (F 6))), (q 9, .inr (0, [.ref (q 10), .ref (q 13), .ref (q 14), .ref (q 15), .ref (q 16), .ref (q 17)])), (q 10, .inr (1, [.ref (q 11), .ref (q 12), .int (X 1)])), (q 11, .inl (cI, 8, .inl (F 7))), (q 12, .inl (cI, 64, .inl (F 8))), (q 13, .inl (cI, 64, .inl (F 9))), (q 14, .inl (cI, 64, .inl (F 10))), (q 15, .inl (cI, 32, .inl (F 11))), (q 16, .inl (cI, 8, .inl (F 12))), (q 17, .inl (cI, 8, .inl (F 13))), (q 0, .inr (2, [.ref (q 1), .ref (q 2), .ref (q 3), .ref (q 4), .ref (q 5), .ref (q 6), .ref (q 9), .int (nI np), .int (nI ns), .int (nI w), .int (nI c), .int (nI (d / c)), .int (nI (d % c))]))] H := hP
      have hD : va_D A [(q 1, .inl (cI, 150, .inl (F 0))), (q 2, .inl (cI, 84, .inl (F 1))), (q 3, .inl (cI, 128, .inl (F 2))), (q 4, .inl (cI, 32, .inl (F 3))), (q 5, .inl (cI, 32, .inl (F 4))), (q 6, .inr (1, [.ref (q 7), .ref (q 8), .int (X 0)])), (q 7, .inl (cI, 8, .inl (F 5))), (q 8, .inl (cI, 64, .inl (F 6))), (q 9, .inr (0, [.ref (q 10), .ref (q 13), .ref (q 14), .ref (q 15), .ref (q 16), .ref (q 17)])), (q 10, .inr (1, [.ref (q 11), .ref (q 12), .int (X 1)])), (q 11, .inl (cI, 8, .inl (F 7))), (q 12, .inl (cI, 64, .inl (F 8))), (q 13, .inl (cI, 64, .inl (F 9))), (q 14, .inl (cI, 64, .inl (F 10))), (q 15, .inl (cI, 32, .inl (F 11))), (q 16, .inl (cI, 8, .inl (F 12))), (q 17, .inl (cI, 8, .inl (F 13))), (q 0, .inr (2, [.ref (q 1), .ref (q 2), .ref (q 3), .ref (q 4), .ref (q 5), .ref (q 6), .ref (q 9), .int (nI np), .int (nI ns), .int (nI w), .int (nI c), .int (nI (d / c)), .int (nI (d % c))]))] := hD
      obtain rfl : r5 = nI (kt_all c w - d) := hr9
      refine va_mmin hx hb (by rw [hml]; exact hl.1.symm) hown (hts _ tw_247) (hts _ tw_248) (hts _ tw_24) (hts _ tw_249) (Nat.le_of_ble_eq_true rfl) (Nat.le_of_ble_eq_true rfl) (Nat.le_of_ble_eq_true rfl) (Nat.le_of_ble_eq_true rfl) d_KeyMaker_run_18 ?_
      refine lv_topi (fun y6 ey6 => ?_)
      obtain rfl : y6 = nI (min k (kt_all c w - d)) := ey6.trans (km_min hk0 (by omega))
      refine lv_istore_n (lv' := [(2, .int (nI (min k (kt_all c w - d)))), (0, .ref (q 0)), (1, .int (nI k))]) hx hb d_KeyMaker_run_21 rfl hl (by decide) rfl (fun ls hl => ?_)
      obtain ⟨k1, k2, k3, k4⟩ := hC3 hw
      have hP := xp_fun hP 2 (km_K p np s ns c d) rfl (k1)
      have hD := hD.set (p := 2) (e := .inl (cI, 128, .inl (km_K p np s ns c d))) rfl
      have hP : va_P G classes [(q 1, .inl (cI, 150, .inl (F 0))), (q 2, .inl (cI, 84, .inl (F 1))), (q 3, .inl (cI, 128, .inl (km_K p np s ns c d))), (q 4, .inl (cI, 32, .inl (F 3))), (q 5, .inl (cI, 32, .inl (F 4))), (q 6, .inr (1, [.ref (q 7), .ref (q 8), .int (X 0)])), (q 7, .inl (cI, 8, .inl (F 5))), (q 8, .inl (cI, 64, .inl (F 6))), (q 9, .inr (0, [.ref (q 10), .ref (q 13), .ref (q 14), .ref (q 15), .ref (q 16), .ref (q 17)])), (q 10, .inr (1, [.ref (q 11), .ref (q 12), .int (X 1)])), (q 11, .inl (cI, 8, .inl (F 7))), (q 12, .inl (cI, 64, .inl (F 8))), (q 13, .inl (cI, 64, .inl (F 9))), (q 14, .inl (cI, 64, .inl (F 10))), (q 15, .inl (cI, 32, .inl (F 11))), (q 16, .inl (cI, 8, .inl (F 12))), (q 17, .inl (cI, 8, .inl (F 13))), (q 0, .inr (2, [.ref (q 1), .ref (q 2), .ref (q 3), .ref (q 4), .ref (q 5), .ref (q 6), .ref (q 9), .int (nI np), .int (nI ns), .int (nI w), .int (nI c), .int (nI (d / c)), .int (nI (d % c))]))] H := hP
      have hD : va_D A [(q 1, .inl (cI, 150, .inl (F 0))), (q 2, .inl (cI, 84, .inl (F 1))), (q 3, .inl (cI, 128, .inl (km_K p np s ns c d))), (q 4, .inl (cI, 32, .inl (F 3))), (q 5, .inl (cI, 32, .inl (F 4))), (q 6, .inr (1, [.ref (q 7), .ref (q 8), .int (X 0)])), (q 7, .inl (cI, 8, .inl (F 5))), (q 8, .inl (cI, 64, .inl (F 6))), (q 9, .inr (0, [.ref (q 10), .ref (q 13), .ref (q 14), .ref (q 15), .ref (q 16), .ref (q 17)])), (q 10, .inr (1, [.ref (q 11), .ref (q 12), .int (X 1)])), (q 11, .inl (cI, 8, .inl (F 7))), (q 12, .inl (cI, 64, .inl (F 8))), (q 13, .inl (cI, 64, .inl (F 9))), (q 14, .inl (cI, 64, .inl (F 10))), (q 15, .inl (cI, 32, .inl (F 11))), (q 16, .inl (cI, 8, .inl (F 12))), (q 17, .inl (cI, 8, .inl (F 13))), (q 0, .inr (2, [.ref (q 1), .ref (q 2), .ref (q 3), .ref (q 4), .ref (q 5), .ref (q 6), .ref (q 9), .int (nI np), .int (nI ns), .int (nI w), .int (nI c), .int (nI (d / c)), .int (nI (d % c))]))] := hD
      have hP := xp_fun hP 15 (km_h (km_kx p np 54) 1) rfl (k3)
      have hD := hD.set (p := 15) (e := .inl (cI, 8, .inl (km_h (km_kx p np 54) 1))) rfl
      have hP : va_P G classes [(q 1, .inl (cI, 150, .inl (F 0))), (q 2, .inl (cI, 84, .inl (F 1))), (q 3, .inl (cI, 128, .inl (km_K p np s ns c d))), (q 4, .inl (cI, 32, .inl (F 3))), (q 5, .inl (cI, 32, .inl (F 4))), (q 6, .inr (1, [.ref (q 7), .ref (q 8), .int (X 0)])), (q 7, .inl (cI, 8, .inl (F 5))), (q 8, .inl (cI, 64, .inl (F 6))), (q 9, .inr (0, [.ref (q 10), .ref (q 13), .ref (q 14), .ref (q 15), .ref (q 16), .ref (q 17)])), (q 10, .inr (1, [.ref (q 11), .ref (q 12), .int (X 1)])), (q 11, .inl (cI, 8, .inl (F 7))), (q 12, .inl (cI, 64, .inl (F 8))), (q 13, .inl (cI, 64, .inl (F 9))), (q 14, .inl (cI, 64, .inl (F 10))), (q 15, .inl (cI, 32, .inl (F 11))), (q 16, .inl (cI, 8, .inl (km_h (km_kx p np 54) 1))), (q 17, .inl (cI, 8, .inl (F 13))), (q 0, .inr (2, [.ref (q 1), .ref (q 2), .ref (q 3), .ref (q 4), .ref (q 5), .ref (q 6), .ref (q 9), .int (nI np), .int (nI ns), .int (nI w), .int (nI c), .int (nI (d / c)), .int (nI (d % c))]))] H := hP
      have hD : va_D A [(q 1, .inl (cI, 150, .inl (F 0))), (q 2, .inl (cI, 84, .inl (F 1))), (q 3, .inl (cI, 128, .inl (km_K p np s ns c d))), (q 4, .inl (cI, 32, .inl (F 3))), (q 5, .inl (cI, 32, .inl (F 4))), (q 6, .inr (1, [.ref (q 7), .ref (q 8), .int (X 0)])), (q 7, .inl (cI, 8, .inl (F 5))), (q 8, .inl (cI, 64, .inl (F 6))), (q 9, .inr (0, [.ref (q 10), .ref (q 13), .ref (q 14), .ref (q 15), .ref (q 16), .ref (q 17)])), (q 10, .inr (1, [.ref (q 11), .ref (q 12), .int (X 1)])), (q 11, .inl (cI, 8, .inl (F 7))), (q 12, .inl (cI, 64, .inl (F 8))), (q 13, .inl (cI, 64, .inl (F 9))), (q 14, .inl (cI, 64, .inl (F 10))), (q 15, .inl (cI, 32, .inl (F 11))), (q 16, .inl (cI, 8, .inl (km_h (km_kx p np 54) 1))), (q 17, .inl (cI, 8, .inl (F 13))), (q 0, .inr (2, [.ref (q 1), .ref (q 2), .ref (q 3), .ref (q 4), .ref (q 5), .ref (q 6), .ref (q 9), .int (nI np), .int (nI ns), .int (nI w), .int (nI c), .int (nI (d / c)), .int (nI (d % c))]))] := hD
      have hP := xp_fun hP 16 (km_h (km_kx p np 92) 1) rfl (k4)
      have hD := hD.set (p := 16) (e := .inl (cI, 8, .inl (km_h (km_kx p np 92) 1))) rfl
      have hP : va_P G classes [(q 1, .inl (cI, 150, .inl (F 0))), (q 2, .inl (cI, 84, .inl (F 1))), (q 3, .inl (cI, 128, .inl (km_K p np s ns c d))), (q 4, .inl (cI, 32, .inl (F 3))), (q 5, .inl (cI, 32, .inl (F 4))), (q 6, .inr (1, [.ref (q 7), .ref (q 8), .int (X 0)])), (q 7, .inl (cI, 8, .inl (F 5))), (q 8, .inl (cI, 64, .inl (F 6))), (q 9, .inr (0, [.ref (q 10), .ref (q 13), .ref (q 14), .ref (q 15), .ref (q 16), .ref (q 17)])), (q 10, .inr (1, [.ref (q 11), .ref (q 12), .int (X 1)])), (q 11, .inl (cI, 8, .inl (F 7))), (q 12, .inl (cI, 64, .inl (F 8))), (q 13, .inl (cI, 64, .inl (F 9))), (q 14, .inl (cI, 64, .inl (F 10))), (q 15, .inl (cI, 32, .inl (F 11))), (q 16, .inl (cI, 8, .inl (km_h (km_kx p np 54) 1))), (q 17, .inl (cI, 8, .inl (km_h (km_kx p np 92) 1))), (q 0, .inr (2, [.ref (q 1), .ref (q 2), .ref (q 3), .ref (q 4), .ref (q 5), .ref (q 6), .ref (q 9), .int (nI np), .int (nI ns), .int (nI w), .int (nI c), .int (nI (d / c)), .int (nI (d % c))]))] H := hP
      have hD : va_D A [(q 1, .inl (cI, 150, .inl (F 0))), (q 2, .inl (cI, 84, .inl (F 1))), (q 3, .inl (cI, 128, .inl (km_K p np s ns c d))), (q 4, .inl (cI, 32, .inl (F 3))), (q 5, .inl (cI, 32, .inl (F 4))), (q 6, .inr (1, [.ref (q 7), .ref (q 8), .int (X 0)])), (q 7, .inl (cI, 8, .inl (F 5))), (q 8, .inl (cI, 64, .inl (F 6))), (q 9, .inr (0, [.ref (q 10), .ref (q 13), .ref (q 14), .ref (q 15), .ref (q 16), .ref (q 17)])), (q 10, .inr (1, [.ref (q 11), .ref (q 12), .int (X 1)])), (q 11, .inl (cI, 8, .inl (F 7))), (q 12, .inl (cI, 64, .inl (F 8))), (q 13, .inl (cI, 64, .inl (F 9))), (q 14, .inl (cI, 64, .inl (F 10))), (q 15, .inl (cI, 32, .inl (F 11))), (q 16, .inl (cI, 8, .inl (km_h (km_kx p np 54) 1))), (q 17, .inl (cI, 8, .inl (km_h (km_kx p np 92) 1))), (q 0, .inr (2, [.ref (q 1), .ref (q 2), .ref (q 3), .ref (q 4), .ref (q 5), .ref (q 6), .ref (q 9), .int (nI np), .int (nI ns), .int (nI w), .int (nI c), .int (nI (d / c)), .int (nI (d % c))]))] := hD
      have hc0 := hA8 hw
      refine lv_iconst (v := 0) hx hb d_KeyMaker_run_22 (by decide) ?_
      refine lv_istore_n (lv' := [(3, .int 0), (2, .int (nI (min k (kt_all c w - d)))), (0, .ref (q 0)), (1, .int (nI k))]) hx hb d_KeyMaker_run_23 rfl hl (by decide) rfl (fun ls hl => ?_)
      refine xl (pc := 24) (I := fun NN ls H locs => ∃ (i : Nat) (g1 lm f7 w8 : Nat → Int32) (tk : Int32) (i11 : Nat → Int32), min k (kt_all c w - d) - i = NN ∧ lv_has ls 4 [(3, .int (nI i)), (2, .int (nI (min k (kt_all c w - d)))), (0, .ref (q 0)), (1, .int (nI k))] ∧ va_P G classes [(q 0, .inr (2, [.ref (q 1), .ref (q 2), .ref (q 3), .ref (q 4), .ref (q 5), .ref (q 6), .ref (q 9), .int (nI np), .int (nI ns), .int (nI w), .int (nI c), .int (nI ((d + i) / c)), .int (nI ((d + i) % c))])), (q 1, .inl (cI, 150, .inl (F 0))), (q 2, .inl (cI, 84, .inl g1)), (q 3, .inl (cI, 128, .inl (km_K p np s ns c (d + i)))), (q 4, .inl (cI, 32, .inl lm)), (q 5, .inl (cI, 32, .inl (F 4))), (q 6, .inr (1, [.ref (q 7), .ref (q 8), .int (X 0)])), (q 7, .inl (cI, 8, .inl (F 5))), (q 8, .inl (cI, 64, .inl (F 6))), (q 9, .inr (0, [.ref (q 10), .ref (q 13), .ref (q 14), .ref (q 15), .ref (q 16), .ref (q 17)])), (q 10, .inr (1, [.ref (q 11), .ref (q 12), .int tk])), (q 11, .inl (cI, 8, .inl f7)), (q 12, .inl (cI, 64, .inl w8)), (q 13, .inl (cI, 64, .inl (F 9))), (q 14, .inl (cI, 64, .inl (F 10))), (q 15, .inl (cI, 32, .inl i11)), (q 16, .inl (cI, 8, .inl (km_h (km_kx p np 54) 1))), (q 17, .inl (cI, 8, .inl (km_h (km_kx p np 92) 1)))] H ∧ va_D A [(q 0, .inr (2, [.ref (q 1), .ref (q 2), .ref (q 3), .ref (q 4), .ref (q 5), .ref (q 6), .ref (q 9), .int (nI np), .int (nI ns), .int (nI w), .int (nI c), .int (nI ((d + i) / c)), .int (nI ((d + i) % c))])), (q 1, .inl (cI, 150, .inl (F 0))), (q 2, .inl (cI, 84, .inl g1)), (q 3, .inl (cI, 128, .inl (km_K p np s ns c (d + i)))), (q 4, .inl (cI, 32, .inl lm)), (q 5, .inl (cI, 32, .inl (F 4))), (q 6, .inr (1, [.ref (q 7), .ref (q 8), .int (X 0)])), (q 7, .inl (cI, 8, .inl (F 5))), (q 8, .inl (cI, 64, .inl (F 6))), (q 9, .inr (0, [.ref (q 10), .ref (q 13), .ref (q 14), .ref (q 15), .ref (q 16), .ref (q 17)])), (q 10, .inr (1, [.ref (q 11), .ref (q 12), .int tk])), (q 11, .inl (cI, 8, .inl f7)), (q 12, .inl (cI, 64, .inl w8)), (q 13, .inl (cI, 64, .inl (F 9))), (q 14, .inl (cI, 64, .inl (F 10))), (q 15, .inl (cI, 32, .inl i11)), (q 16, .inl (cI, 8, .inl (km_h (km_kx p np 54) 1))), (q 17, .inl (cI, 8, .inl (km_h (km_kx p np 92) 1)))] ∧ va_S A ss.heap H locs ∧ (i ≤ min k (kt_all c w - d)) ∧ (∀ j, j < ns → g1 j = s j) ∧ (0 < d + i → ∀ j, j < 32 → lm j = km_U p np s ns c (d + i) j)) [] ?_ _ _ _ _ ⟨0, F 1, F 3, F 7, F 8, X 1, F 11, rfl, lv_sub hl [0, 1, 2, 3] rfl, hP.sub [17, 0, 1, 2, 3, 4, 5, 6, 7, 8, 9, 10, 11, 12, 13, 14, 15, 16] rfl, hD.sub [17, 0, 1, 2, 3, 4, 5, 6, 7, 8, 9, 10, 11, 12, 13, 14, 15, 16] (by decide) rfl, hS, by omega, hC2, k2⟩
      intro NN ih24 ls H locs hI
      obtain ⟨i, g1, lm, f7, w8, tk, i11, hN, hl, hP, hD, hS, hi, hg1, hlm⟩ := hI
      refine lv_iload_n hx hb d_KeyMaker_run_24 rfl (lv_at hl 0 rfl) ?_
      refine lv_iload_n hx hb d_KeyMaker_run_25 rfl (lv_at hl 1 rfl) ?_
      refine lv_icmp_ge (tgt := 39) hx hb d_KeyMaker_run_26 (by decide) (fun hc7 => ?_) (fun hc7 => ?_)
      · have hc7 : (min k (kt_all c w - d)) ≤ i := (nI_leI (a := (min k (kt_all c w - d))) (b := i) (by omega) (by omega)).mp hc7
        refine lv_iload_n hx hb d_KeyMaker_run_39 rfl (lv_at hl 1 rfl) ?_
        have hi9 : i = min k (kt_all c w - d) := by omega
        have hk : ka_run (nI k) (p, np, s, ns, c, w, d) = (nI (min k (kt_all c w - d)), (p, np, s, ns, c, w, d + min k (kt_all c w - d))) := ka_run_pos hw hk0
        exact xe_i ((p, np, s, ns, c, w, d + i), (fun z => match z with | 0 => F 0 | 1 => g1 | 2 => km_K p np s ns c (d + i) | 3 => lm | 4 => F 4 | 5 => F 5 | 6 => F 6 | 7 => f7 | 8 => w8 | 9 => F 9 | 10 => F 10 | 11 => i11 | 12 => km_h (km_kx p np 54) 1 | _ => km_h (km_kx p np 92) 1), (fun z => match z with | 0 => X 0 | _ => tk)) hx hb hr hlk hK (⟨by rw [hk], by rw [hk, ← hi9], kC_turns hC0 rfl hg1 (fun j _ => rfl) hlm (fun j _ => rfl) (fun j _ => rfl)⟩) hP hD hS d_KeyMaker_run_40 (by decide) (by decide)
      · have hc7 : ¬ (min k (kt_all c w - d)) ≤ i := fun z => hc7 ((nI_leI (a := (min k (kt_all c w - d))) (b := i) (by omega) (by omega)).mpr z)
        refine lv_aload_n hx hb d_KeyMaker_run_29 rfl (lv_at hl 2 rfl) ?_
        refine xc_v (wr := [(q 1, .inl (cI, 150, .inl (F 0))), (q 5, .inl (cI, 32, .inl (F 4))), (q 6, .inr (1, [.ref (q 7), .ref (q 8), .int (X 0)])), (q 7, .inl (cI, 8, .inl (F 5))), (q 8, .inl (cI, 64, .inl (F 6))), (q 13, .inl (cI, 64, .inl (F 9))), (q 14, .inl (cI, 64, .inl (F 10)))]) (va_runV (As := []) (rest := []) ⟨hx, hb, hml, hown, hts⟩ (c_turn l G cI cB tK tH H.size q p s np ns c w (d + i) g1 lm f7 w8 i11 tk (kA_d hA0 hw (by omega)) (by omega) hg1 hlm) (cwV 0 hts (xg_V tw_226 tw_228 tw_7 tw_17 tw_229) rfl rfl rfl (by decide +kernel) ⟨Nat.le_of_ble_eq_true rfl, Nat.le_of_ble_eq_true rfl⟩) (xc_preV hK hst hA hP hD hS [0, 2, 3, 4, 9, 10, 11, 12, 15, 16, 17] (by decide) rfl 0 rfl rfl) rfl rfl hl.1 rfl (lv_room (Nat.le_of_ble_eq_true rfl)) d_KeyMaker_run_30 ⟨Nat.le_of_ble_eq_true rfl, Nat.le_of_ble_eq_true rfl⟩) hA hP hD hS [0, 2, 3, 4, 9, 10, 11, 12, 15, 16, 17] [1, 5, 6, 7, 8, 13, 14] rfl rfl (by decide) (by decide) (fun u8 H locs hg2 hP hD hS => ?_)
        obtain ⟨g2, f2, w2, tk2, i2⟩ := u8
        have hP : va_P G classes [(q 1, .inl (cI, 150, .inl (F 0))), (q 5, .inl (cI, 32, .inl (F 4))), (q 6, .inr (1, [.ref (q 7), .ref (q 8), .int (X 0)])), (q 7, .inl (cI, 8, .inl (F 5))), (q 8, .inl (cI, 64, .inl (F 6))), (q 13, .inl (cI, 64, .inl (F 9))), (q 14, .inl (cI, 64, .inl (F 10))), (q 0, .inr (2, [.ref (q 1), .ref (q 2), .ref (q 3), .ref (q 4), .ref (q 5), .ref (q 6), .ref (q 9), .int (nI np), .int (nI ns), .int (nI w), .int (nI c), .int (nI ((d + i + 1) / c)), .int (nI ((d + i + 1) % c))])), (q 2, .inl (cI, 84, .inl g2)), (q 3, .inl (cI, 128, .inl (km_K p np s ns c (d + i + 1)))), (q 4, .inl (cI, 32, .inl (km_U p np s ns c (d + i + 1)))), (q 9, .inr (0, [.ref (q 10), .ref (q 13), .ref (q 14), .ref (q 15), .ref (q 16), .ref (q 17)])), (q 10, .inr (1, [.ref (q 11), .ref (q 12), .int tk2])), (q 11, .inl (cI, 8, .inl f2)), (q 12, .inl (cI, 64, .inl w2)), (q 15, .inl (cI, 32, .inl i2)), (q 16, .inl (cI, 8, .inl (km_h (km_kx p np 54) 1))), (q 17, .inl (cI, 8, .inl (km_h (km_kx p np 92) 1)))] H := hP
        have hD : va_D A [(q 1, .inl (cI, 150, .inl (F 0))), (q 5, .inl (cI, 32, .inl (F 4))), (q 6, .inr (1, [.ref (q 7), .ref (q 8), .int (X 0)])), (q 7, .inl (cI, 8, .inl (F 5))), (q 8, .inl (cI, 64, .inl (F 6))), (q 13, .inl (cI, 64, .inl (F 9))), (q 14, .inl (cI, 64, .inl (F 10))), (q 0, .inr (2, [.ref (q 1), .ref (q 2), .ref (q 3), .ref (q 4), .ref (q 5), .ref (q 6), .ref (q 9), .int (nI np), .int (nI ns), .int (nI w), .int (nI c), .int (nI ((d + i + 1) / c)), .int (nI ((d + i + 1) % c))])), (q 2, .inl (cI, 84, .inl g2)), (q 3, .inl (cI, 128, .inl (km_K p np s ns c (d + i + 1)))), (q 4, .inl (cI, 32, .inl (km_U p np s ns c (d + i + 1)))), (q 9, .inr (0, [.ref (q 10), .ref (q 13), .ref (q 14), .ref (q 15), .ref (q 16), .ref (q 17)])), (q 10, .inr (1, [.ref (q 11), .ref (q 12), .int tk2])), (q 11, .inl (cI, 8, .inl f2)), (q 12, .inl (cI, 64, .inl w2)), (q 15, .inl (cI, 32, .inl i2)), (q 16, .inl (cI, 8, .inl (km_h (km_kx p np 54) 1))), (q 17, .inl (cI, 8, .inl (km_h (km_kx p np 92) 1)))] := hD
        refine lv_iinc (k := 0) (v := nI (i + 1)) (lv' := [(3, .int (nI (i + 1))), (2, .int (nI (min k (kt_all c w - d)))), (0, .ref (q 0)), (1, .int (nI k))]) hx hb d_KeyMaker_run_33 hl rfl (nI_1 i) (by decide) rfl (fun ls hl => ?_)
        refine lv_goto (tgt := 24) hx hb d_KeyMaker_run_36 (by decide) ?_
        exact ih24 _ (by omega) _ _ _ ⟨i + 1, g2, _, f2, w2, tk2, i2, rfl, lv_sub hl [0, 1, 2, 3] rfl, hP.sub [7, 0, 8, 9, 10, 1, 2, 3, 4, 11, 12, 13, 14, 5, 6, 15, 16, 17] rfl, hD.sub [7, 0, 8, 9, 10, 1, 2, 3, 4, 11, 12, 13, 14, 5, 6, 15, 16, 17] (by decide) rfl, hS, by omega, hg2, fun _ j _ => rfl⟩
    · have hm : most < 0 := Int32.not_le.mp hm
      refine lv_iconst (v := (-1)) hx hb d_KeyMaker_run_11 (by decide) ?_
      have hk : ka_run most (p, np, s, ns, c, w, d) = (-1, (p, np, s, ns, c, w, d)) := if_neg (fun z => by obtain ⟨z1, z2⟩ := z; first | omega | exact z2 hm)
      exact xe_i ((p, np, s, ns, c, w, d), (fun z => match z with | 0 => F 0 | 1 => F 1 | 2 => F 2 | 3 => F 3 | 4 => F 4 | 5 => F 5 | 6 => F 6 | 7 => F 7 | 8 => F 8 | 9 => F 9 | 10 => F 10 | 11 => F 11 | 12 => F 12 | _ => F 13), (fun z => match z with | 0 => X 0 | _ => X 1)) hx hb hr hlk hK (⟨by rw [hk], by rw [hk], kC_same hC0 rfl rfl rfl rfl rfl rfl⟩) (hP.sub (ws' := [(q 0, .inr (2, [.ref (q 1), .ref (q 2), .ref (q 3), .ref (q 4), .ref (q 5), .ref (q 6), .ref (q 9), .int (nI np), .int (nI ns), .int (nI w), .int (nI c), .int (nI (d / c)), .int (nI (d % c))])), (q 1, .inl (cI, 150, .inl (F 0))), (q 2, .inl (cI, 84, .inl (F 1))), (q 3, .inl (cI, 128, .inl (F 2))), (q 4, .inl (cI, 32, .inl (F 3))), (q 5, .inl (cI, 32, .inl (F 4))), (q 6, .inr (1, [.ref (q 7), .ref (q 8), .int (X 0)])), (q 7, .inl (cI, 8, .inl (F 5))), (q 8, .inl (cI, 64, .inl (F 6))), (q 9, .inr (0, [.ref (q 10), .ref (q 13), .ref (q 14), .ref (q 15), .ref (q 16), .ref (q 17)])), (q 10, .inr (1, [.ref (q 11), .ref (q 12), .int (X 1)])), (q 11, .inl (cI, 8, .inl (F 7))), (q 12, .inl (cI, 64, .inl (F 8))), (q 13, .inl (cI, 64, .inl (F 9))), (q 14, .inl (cI, 64, .inl (F 10))), (q 15, .inl (cI, 32, .inl (F 11))), (q 16, .inl (cI, 8, .inl (F 12))), (q 17, .inl (cI, 8, .inl (F 13)))]) [17, 0, 1, 2, 3, 4, 5, 6, 7, 8, 9, 10, 11, 12, 13, 14, 15, 16] rfl) (hD.sub (ws' := [(q 0, .inr (2, [.ref (q 1), .ref (q 2), .ref (q 3), .ref (q 4), .ref (q 5), .ref (q 6), .ref (q 9), .int (nI np), .int (nI ns), .int (nI w), .int (nI c), .int (nI (d / c)), .int (nI (d % c))])), (q 1, .inl (cI, 150, .inl (F 0))), (q 2, .inl (cI, 84, .inl (F 1))), (q 3, .inl (cI, 128, .inl (F 2))), (q 4, .inl (cI, 32, .inl (F 3))), (q 5, .inl (cI, 32, .inl (F 4))), (q 6, .inr (1, [.ref (q 7), .ref (q 8), .int (X 0)])), (q 7, .inl (cI, 8, .inl (F 5))), (q 8, .inl (cI, 64, .inl (F 6))), (q 9, .inr (0, [.ref (q 10), .ref (q 13), .ref (q 14), .ref (q 15), .ref (q 16), .ref (q 17)])), (q 10, .inr (1, [.ref (q 11), .ref (q 12), .int (X 1)])), (q 11, .inl (cI, 8, .inl (F 7))), (q 12, .inl (cI, 64, .inl (F 8))), (q 13, .inl (cI, 64, .inl (F 9))), (q 14, .inl (cI, 64, .inl (F 10))), (q 15, .inl (cI, 32, .inl (F 11))), (q 16, .inl (cI, 8, .inl (F 12))), (q 17, .inl (cI, 8, .inl (F 13)))]) [17, 0, 1, 2, 3, 4, 5, 6, 7, 8, 9, 10, 11, 12, 13, 14, 15, 16] (by decide) rfl) hS d_KeyMaker_run_12 (by decide) (by decide)
  · refine lv_if_eq (tgt := 11) hx hb d_KeyMaker_run_4 (by decide) (fun _ => ?_) (fun hc => absurd hc (by decide))
    refine lv_iconst (v := (-1)) hx hb d_KeyMaker_run_11 (by decide) ?_
    have hk : ka_run most (p, np, s, ns, c, w, d) = (-1, (p, np, s, ns, c, w, d)) := if_neg (fun z => by obtain ⟨z1, z2⟩ := z; first | omega | exact z2 hm)
    exact xe_i ((p, np, s, ns, c, w, d), (fun z => match z with | 0 => F 0 | 1 => F 1 | 2 => F 2 | 3 => F 3 | 4 => F 4 | 5 => F 5 | 6 => F 6 | 7 => F 7 | 8 => F 8 | 9 => F 9 | 10 => F 10 | 11 => F 11 | 12 => F 12 | _ => F 13), (fun z => match z with | 0 => X 0 | _ => X 1)) hx hb hr hlk hK (⟨by rw [hk], by rw [hk], kC_same hC0 rfl rfl rfl rfl rfl rfl⟩) (hP.sub (ws' := [(q 0, .inr (2, [.ref (q 1), .ref (q 2), .ref (q 3), .ref (q 4), .ref (q 5), .ref (q 6), .ref (q 9), .int (nI np), .int (nI ns), .int (nI w), .int (nI c), .int (nI (d / c)), .int (nI (d % c))])), (q 1, .inl (cI, 150, .inl (F 0))), (q 2, .inl (cI, 84, .inl (F 1))), (q 3, .inl (cI, 128, .inl (F 2))), (q 4, .inl (cI, 32, .inl (F 3))), (q 5, .inl (cI, 32, .inl (F 4))), (q 6, .inr (1, [.ref (q 7), .ref (q 8), .int (X 0)])), (q 7, .inl (cI, 8, .inl (F 5))), (q 8, .inl (cI, 64, .inl (F 6))), (q 9, .inr (0, [.ref (q 10), .ref (q 13), .ref (q 14), .ref (q 15), .ref (q 16), .ref (q 17)])), (q 10, .inr (1, [.ref (q 11), .ref (q 12), .int (X 1)])), (q 11, .inl (cI, 8, .inl (F 7))), (q 12, .inl (cI, 64, .inl (F 8))), (q 13, .inl (cI, 64, .inl (F 9))), (q 14, .inl (cI, 64, .inl (F 10))), (q 15, .inl (cI, 32, .inl (F 11))), (q 16, .inl (cI, 8, .inl (F 12))), (q 17, .inl (cI, 8, .inl (F 13)))]) [17, 0, 1, 2, 3, 4, 5, 6, 7, 8, 9, 10, 11, 12, 13, 14, 15, 16] rfl) (hD.sub (ws' := [(q 0, .inr (2, [.ref (q 1), .ref (q 2), .ref (q 3), .ref (q 4), .ref (q 5), .ref (q 6), .ref (q 9), .int (nI np), .int (nI ns), .int (nI w), .int (nI c), .int (nI (d / c)), .int (nI (d % c))])), (q 1, .inl (cI, 150, .inl (F 0))), (q 2, .inl (cI, 84, .inl (F 1))), (q 3, .inl (cI, 128, .inl (F 2))), (q 4, .inl (cI, 32, .inl (F 3))), (q 5, .inl (cI, 32, .inl (F 4))), (q 6, .inr (1, [.ref (q 7), .ref (q 8), .int (X 0)])), (q 7, .inl (cI, 8, .inl (F 5))), (q 8, .inl (cI, 64, .inl (F 6))), (q 9, .inr (0, [.ref (q 10), .ref (q 13), .ref (q 14), .ref (q 15), .ref (q 16), .ref (q 17)])), (q 10, .inr (1, [.ref (q 11), .ref (q 12), .int (X 1)])), (q 11, .inl (cI, 8, .inl (F 7))), (q 12, .inl (cI, 64, .inl (F 8))), (q 13, .inl (cI, 64, .inl (F 9))), (q 14, .inl (cI, 64, .inl (F 10))), (q 15, .inl (cI, 32, .inl (F 11))), (q 16, .inl (cI, 8, .inl (F 12))), (q 17, .inl (cI, 8, .inl (F 13)))]) [17, 0, 1, 2, 3, 4, 5, 6, 7, 8, 9, 10, 11, 12, 13, 14, 15, 16] (by decide) rfl) hS d_KeyMaker_run_12 (by decide) (by decide)
set_option maxHeartbeats 4000000 in
set_option maxRecDepth 100000 in
theorem c_kleft (l : Launch) (G : va_G) (cI cB : ClassId) (tK tH sz : Nat) (q : Nat → Nat) (p s : Nat → Int32) (np ns c w d : Nat) (F : Nat → Nat → Int32) (X : Nat → Int32) (hAb : kA_ok (p, np, s, ns, c, w, d)) (hC : kC (p, np, s, ns, c, w, d) F) : xMi l G cI cB tK tH y_KeyMaker_left b_KeyMaker_left 1 (some .int) ({ frames := 1, cells := 0, slots := 0, locals := 21 }) [.ref (q 0)] sz [(q 0, .inr (2, [.ref (q 1), .ref (q 2), .ref (q 3), .ref (q 4), .ref (q 5), .ref (q 6), .ref (q 9), .int (nI np), .int (nI ns), .int (nI w), .int (nI c), .int (nI (d / c)), .int (nI (d % c))])), (q 1, .inl (cI, 150, .inl (F 0))), (q 2, .inl (cI, 84, .inl (F 1))), (q 3, .inl (cI, 128, .inl (F 2))), (q 4, .inl (cI, 32, .inl (F 3))), (q 5, .inl (cI, 32, .inl (F 4))), (q 6, .inr (1, [.ref (q 7), .ref (q 8), .int (X 0)])), (q 7, .inl (cI, 8, .inl (F 5))), (q 8, .inl (cI, 64, .inl (F 6))), (q 9, .inr (0, [.ref (q 10), .ref (q 13), .ref (q 14), .ref (q 15), .ref (q 16), .ref (q 17)])), (q 10, .inr (1, [.ref (q 11), .ref (q 12), .int (X 1)])), (q 11, .inl (cI, 8, .inl (F 7))), (q 12, .inl (cI, 64, .inl (F 8))), (q 13, .inl (cI, 64, .inl (F 9))), (q 14, .inl (cI, 64, .inl (F 10))), (q 15, .inl (cI, 32, .inl (F 11))), (q 16, .inl (cI, 8, .inl (F 12))), (q 17, .inl (cI, 8, .inl (F 13)))] (fun r u => r = (ka_left (p, np, s, ns, c, w, d)).1 ∧ u.1 = (ka_left (p, np, s, ns, c, w, d)).2 ∧ kC u.1 u.2.1) (fun u : kA × (Nat → Nat → Int32) × (Nat → Int32) => [(q 0, .inr (2, [.ref (q 1), .ref (q 2), .ref (q 3), .ref (q 4), .ref (q 5), .ref (q 6), .ref (q 9), .int (nI u.1.2.1), .int (nI u.1.2.2.2.1), .int (nI u.1.2.2.2.2.2.1), .int (nI u.1.2.2.2.2.1), .int (nI (u.1.2.2.2.2.2.2 / u.1.2.2.2.2.1)), .int (nI (u.1.2.2.2.2.2.2 % u.1.2.2.2.2.1))])), (q 1, .inl (cI, 150, .inl (u.2.1 0))), (q 2, .inl (cI, 84, .inl (u.2.1 1))), (q 3, .inl (cI, 128, .inl (u.2.1 2))), (q 4, .inl (cI, 32, .inl (u.2.1 3))), (q 5, .inl (cI, 32, .inl (u.2.1 4))), (q 6, .inr (1, [.ref (q 7), .ref (q 8), .int (u.2.2 0)])), (q 7, .inl (cI, 8, .inl (u.2.1 5))), (q 8, .inl (cI, 64, .inl (u.2.1 6))), (q 9, .inr (0, [.ref (q 10), .ref (q 13), .ref (q 14), .ref (q 15), .ref (q 16), .ref (q 17)])), (q 10, .inr (1, [.ref (q 11), .ref (q 12), .int (u.2.2 1)])), (q 11, .inl (cI, 8, .inl (u.2.1 7))), (q 12, .inl (cI, 64, .inl (u.2.1 8))), (q 13, .inl (cI, 64, .inl (u.2.1 9))), (q 14, .inl (cI, 64, .inl (u.2.1 10))), (q 15, .inl (cI, 32, .inl (u.2.1 11))), (q 16, .inl (cI, 8, .inl (u.2.1 12))), (q 17, .inl (cI, 8, .inl (u.2.1 13)))]) := by
  refine xMi.of (lv := [(0, .ref (q 0))]) (by decide) (Nat.le_of_ble_eq_true rfl) rfl ?_
  intro pp ee ss mm bel met cod A ls H locs hx hb hml hr hlk hts hown hnm hA hK hst hP hD hS hl
  have hown : ss.vm.findClass R_KeyMaker = some mm.cls := hown
  have hA0 := hAb
  have hC0 := hC
  obtain ⟨hA1, hA2, hA3, hA4, hA5, hA6, hA7, hA8, hA9⟩ := hAb
  obtain ⟨hC1, hC2, hC3⟩ := hC
  have hcd := kA_c0 hA0
  have hka := kt_all_le hA6 hA5
  have hdc := Nat.div_le_self d c
  refine lv_aload_n hx hb d_KeyMaker_left_0 rfl (lv_at hl 0 rfl) ?_
  refine xc_i (wr := [(q 1, .inl (cI, 150, .inl (F 0))), (q 2, .inl (cI, 84, .inl (F 1))), (q 3, .inl (cI, 128, .inl (F 2))), (q 4, .inl (cI, 32, .inl (F 3))), (q 5, .inl (cI, 32, .inl (F 4))), (q 6, .inr (1, [.ref (q 7), .ref (q 8), .int (X 0)])), (q 7, .inl (cI, 8, .inl (F 5))), (q 8, .inl (cI, 64, .inl (F 6))), (q 9, .inr (0, [.ref (q 10), .ref (q 13), .ref (q 14), .ref (q 15), .ref (q 16), .ref (q 17)])), (q 10, .inr (1, [.ref (q 11), .ref (q 12), .int (X 1)])), (q 11, .inl (cI, 8, .inl (F 7))), (q 12, .inl (cI, 64, .inl (F 8))), (q 13, .inl (cI, 64, .inl (F 9))), (q 14, .inl (cI, 64, .inl (F 10))), (q 15, .inl (cI, 32, .inl (F 11))), (q 16, .inl (cI, 8, .inl (F 12))), (q 17, .inl (cI, 8, .inl (F 13)))]) (va_runV (As := []) (rest := []) ⟨hx, hb, hml, hown, hts⟩ (c_isStarted l G cI cB tK tH H.size q (nI np) (nI ns) (nI c) (nI (d / c)) (nI (d % c)) w (by omega)) (cwV 0 hts (xg_V tw_128 tw_130 tw_1 tw_17 tw_131) rfl rfl rfl (by decide +kernel) ⟨Nat.le_of_ble_eq_true rfl, Nat.le_of_ble_eq_true rfl⟩) (xc_preV hK hst hA hP hD hS [0] (by decide) rfl 0 rfl rfl) rfl rfl hl.1 rfl (lv_room (Nat.le_of_ble_eq_true rfl)) d_KeyMaker_left_1 ⟨Nat.le_of_ble_eq_true rfl, Nat.le_of_ble_eq_true rfl⟩) hA hP hD hS [0] [1, 2, 3, 4, 5, 6, 7, 8, 9, 10, 11, 12, 13, 14, 15, 16, 17] rfl rfl (by decide) (by decide) (fun r2 u1 H locs hs hP hD hS => ?_)
  have hP : va_P G classes [(q 1, .inl (cI, 150, .inl (F 0))), (q 2, .inl (cI, 84, .inl (F 1))), (q 3, .inl (cI, 128, .inl (F 2))), (q 4, .inl (cI, 32, .inl (F 3))), (q 5, .inl (cI, 32, .inl (F 4))), (q 6, .inr (1, [.ref (q 7), .ref (q 8), .int (X 0)])), (q 7, .inl (cI, 8, .inl (F 5))), (q 8, .inl (cI, 64, .inl (F 6))), (q 9, .inr (0, [.ref (q 10), .ref (q 13), .ref (q 14), .ref (q 15), .ref (q 16), .ref (q 17)])), (q 10, .inr (1, [.ref (q 11), .ref (q 12), .int (X 1)])), (q 11, .inl (cI, 8, .inl (F 7))), (q 12, .inl (cI, 64, .inl (F 8))), (q 13, .inl (cI, 64, .inl (F 9))), (q 14, .inl (cI, 64, .inl (F 10))), (q 15, .inl (cI, 32, .inl (F 11))), (q 16, .inl (cI, 8, .inl (F 12))), (q 17, .inl (cI, 8, .inl (F 13))), (q 0, .inr (2, [.ref (q 1), .ref (q 2), .ref (q 3), .ref (q 4), .ref (q 5), .ref (q 6), .ref (q 9), .int (nI np), .int (nI ns), .int (nI w), .int (nI c), .int (nI (d / c)), .int (nI (d % c))]))] H := hP
  have hD : va_D A [(q 1, .inl (cI, 150, .inl (F 0))), (q 2, .inl (cI, 84, .inl (F 1))), (q 3, .inl (cI, 128, .inl (F 2))), (q 4, .inl (cI, 32, .inl (F 3))), (q 5, .inl (cI, 32, .inl (F 4))), (q 6, .inr (1, [.ref (q 7), .ref (q 8), .int (X 0)])), (q 7, .inl (cI, 8, .inl (F 5))), (q 8, .inl (cI, 64, .inl (F 6))), (q 9, .inr (0, [.ref (q 10), .ref (q 13), .ref (q 14), .ref (q 15), .ref (q 16), .ref (q 17)])), (q 10, .inr (1, [.ref (q 11), .ref (q 12), .int (X 1)])), (q 11, .inl (cI, 8, .inl (F 7))), (q 12, .inl (cI, 64, .inl (F 8))), (q 13, .inl (cI, 64, .inl (F 9))), (q 14, .inl (cI, 64, .inl (F 10))), (q 15, .inl (cI, 32, .inl (F 11))), (q 16, .inl (cI, 8, .inl (F 12))), (q 17, .inl (cI, 8, .inl (F 13))), (q 0, .inr (2, [.ref (q 1), .ref (q 2), .ref (q 3), .ref (q 4), .ref (q 5), .ref (q 6), .ref (q 9), .int (nI np), .int (nI ns), .int (nI w), .int (nI c), .int (nI (d / c)), .int (nI (d % c))]))] := hD
  rcases hs with ⟨hw, rfl⟩ | ⟨hw, rfl⟩
  · refine lv_if_eq (tgt := 14) hx hb d_KeyMaker_left_4 (by decide) (fun hc => absurd hc (by decide)) (fun _ => ?_)
    refine lv_aload_n hx hb d_KeyMaker_left_7 rfl (lv_at hl 0 rfl) ?_
    refine xc_i (wr := [(q 1, .inl (cI, 150, .inl (F 0))), (q 2, .inl (cI, 84, .inl (F 1))), (q 3, .inl (cI, 128, .inl (F 2))), (q 4, .inl (cI, 32, .inl (F 3))), (q 5, .inl (cI, 32, .inl (F 4))), (q 6, .inr (1, [.ref (q 7), .ref (q 8), .int (X 0)])), (q 7, .inl (cI, 8, .inl (F 5))), (q 8, .inl (cI, 64, .inl (F 6))), (q 9, .inr (0, [.ref (q 10), .ref (q 13), .ref (q 14), .ref (q 15), .ref (q 16), .ref (q 17)])), (q 10, .inr (1, [.ref (q 11), .ref (q 12), .int (X 1)])), (q 11, .inl (cI, 8, .inl (F 7))), (q 12, .inl (cI, 64, .inl (F 8))), (q 13, .inl (cI, 64, .inl (F 9))), (q 14, .inl (cI, 64, .inl (F 10))), (q 15, .inl (cI, 32, .inl (F 11))), (q 16, .inl (cI, 8, .inl (F 12))), (q 17, .inl (cI, 8, .inl (F 13)))]) (va_runV (As := []) (rest := []) ⟨hx, hb, hml, hown, hts⟩ (c_turnsLeft l G cI cB tK tH H.size q (nI np) (nI ns) w c d (by omega) hcd hA9) (cwV 0 hts (xg_V tw_218 tw_220 tw_6 tw_17 tw_221) rfl rfl rfl (by decide +kernel) ⟨Nat.le_of_ble_eq_true rfl, Nat.le_of_ble_eq_true rfl⟩) (xc_preV hK hst hA hP hD hS [17] (by decide) rfl 17 rfl rfl) rfl rfl hl.1 rfl (lv_room (Nat.le_of_ble_eq_true rfl)) d_KeyMaker_left_8 ⟨Nat.le_of_ble_eq_true rfl, Nat.le_of_ble_eq_true rfl⟩) hA hP hD hS [17] [0, 1, 2, 3, 4, 5, 6, 7, 8, 9, 10, 11, 12, 13, 14, 15, 16] rfl rfl (by decide) (by decide) (fun r5 u4 H locs hr9 hP hD hS => ?_)
    have hP : va_P G classes [(q 1, .inl (cI, 150, .inl (F 0))), (q 2, .inl (cI, 84, .inl (F 1))), (q 3, .inl (cI, 128, .inl (F 2))), (q 4, .inl (cI, 32, .inl (F 3))), (q 5, .inl (cI, 32, .inl (F 4))), (q 6, .inr (1, [.ref (q 7), .ref (q 8), .int (X 0)])), (q 7, .inl (cI, 8, .inl (F 5))), (q 8, .inl (cI, 64, .inl (F 6))), (q 9, .inr (0, [.ref (q 10), .ref (q 13), .ref (q 14), .ref (q 15), .ref (q 16), .ref (q 17)])), (q 10, .inr (1, [.ref (q 11), .ref (q 12), .int (X 1)])), (q 11, .inl (cI, 8, .inl (F 7))), (q 12, .inl (cI, 64, .inl (F 8))), (q 13, .inl (cI, 64, .inl (F 9))), (q 14, .inl (cI, 64, .inl (F 10))), (q 15, .inl (cI, 32, .inl (F 11))), (q 16, .inl (cI, 8, .inl (F 12))), (q 17, .inl (cI, 8, .inl (F 13))), (q 0, .inr (2, [.ref (q 1), .ref (q 2), .ref (q 3), .ref (q 4), .ref (q 5), .ref (q 6), .ref (q 9), .int (nI np), .int (nI ns), .int (nI w), .int (nI c), .int (nI (d / c)), .int (nI (d % c))]))] H := hP
    have hD : va_D A [(q 1, .inl (cI, 150, .inl (F 0))), (q 2, .inl (cI, 84, .inl (F 1))), (q 3, .inl (cI, 128, .inl (F 2))), (q 4, .inl (cI, 32, .inl (F 3))), (q 5, .inl (cI, 32, .inl (F 4))), (q 6, .inr (1, [.ref (q 7), .ref (q 8), .int (X 0)])), (q 7, .inl (cI, 8, .inl (F 5))), (q 8, .inl (cI, 64, .inl (F 6))), (q 9, .inr (0, [.ref (q 10), .ref (q 13), .ref (q 14), .ref (q 15), .ref (q 16), .ref (q 17)])), (q 10, .inr (1, [.ref (q 11), .ref (q 12), .int (X 1)])), (q 11, .inl (cI, 8, .inl (F 7))), (q 12, .inl (cI, 64, .inl (F 8))), (q 13, .inl (cI, 64, .inl (F 9))), (q 14, .inl (cI, 64, .inl (F 10))), (q 15, .inl (cI, 32, .inl (F 11))), (q 16, .inl (cI, 8, .inl (F 12))), (q 17, .inl (cI, 8, .inl (F 13))), (q 0, .inr (2, [.ref (q 1), .ref (q 2), .ref (q 3), .ref (q 4), .ref (q 5), .ref (q 6), .ref (q 9), .int (nI np), .int (nI ns), .int (nI w), .int (nI c), .int (nI (d / c)), .int (nI (d % c))]))] := hD
    obtain rfl : r5 = nI (kt_all c w - d) := hr9
    refine lv_goto (tgt := 15) hx hb d_KeyMaker_left_11 (by decide) ?_
    have hk : ka_left  (p, np, s, ns, c, w, d) = (nI (kt_all c w - d), (p, np, s, ns, c, w, d)) := ka_left_pos hw
    exact xe_i ((p, np, s, ns, c, w, d), (fun z => match z with | 0 => F 0 | 1 => F 1 | 2 => F 2 | 3 => F 3 | 4 => F 4 | 5 => F 5 | 6 => F 6 | 7 => F 7 | 8 => F 8 | 9 => F 9 | 10 => F 10 | 11 => F 11 | 12 => F 12 | _ => F 13), (fun z => match z with | 0 => X 0 | _ => X 1)) hx hb hr hlk hK (⟨by rw [hk], by rw [hk], kC_same hC0 rfl rfl rfl rfl rfl rfl⟩) (hP.sub (ws' := [(q 0, .inr (2, [.ref (q 1), .ref (q 2), .ref (q 3), .ref (q 4), .ref (q 5), .ref (q 6), .ref (q 9), .int (nI np), .int (nI ns), .int (nI w), .int (nI c), .int (nI (d / c)), .int (nI (d % c))])), (q 1, .inl (cI, 150, .inl (F 0))), (q 2, .inl (cI, 84, .inl (F 1))), (q 3, .inl (cI, 128, .inl (F 2))), (q 4, .inl (cI, 32, .inl (F 3))), (q 5, .inl (cI, 32, .inl (F 4))), (q 6, .inr (1, [.ref (q 7), .ref (q 8), .int (X 0)])), (q 7, .inl (cI, 8, .inl (F 5))), (q 8, .inl (cI, 64, .inl (F 6))), (q 9, .inr (0, [.ref (q 10), .ref (q 13), .ref (q 14), .ref (q 15), .ref (q 16), .ref (q 17)])), (q 10, .inr (1, [.ref (q 11), .ref (q 12), .int (X 1)])), (q 11, .inl (cI, 8, .inl (F 7))), (q 12, .inl (cI, 64, .inl (F 8))), (q 13, .inl (cI, 64, .inl (F 9))), (q 14, .inl (cI, 64, .inl (F 10))), (q 15, .inl (cI, 32, .inl (F 11))), (q 16, .inl (cI, 8, .inl (F 12))), (q 17, .inl (cI, 8, .inl (F 13)))]) [17, 0, 1, 2, 3, 4, 5, 6, 7, 8, 9, 10, 11, 12, 13, 14, 15, 16] rfl) (hD.sub (ws' := [(q 0, .inr (2, [.ref (q 1), .ref (q 2), .ref (q 3), .ref (q 4), .ref (q 5), .ref (q 6), .ref (q 9), .int (nI np), .int (nI ns), .int (nI w), .int (nI c), .int (nI (d / c)), .int (nI (d % c))])), (q 1, .inl (cI, 150, .inl (F 0))), (q 2, .inl (cI, 84, .inl (F 1))), (q 3, .inl (cI, 128, .inl (F 2))), (q 4, .inl (cI, 32, .inl (F 3))), (q 5, .inl (cI, 32, .inl (F 4))), (q 6, .inr (1, [.ref (q 7), .ref (q 8), .int (X 0)])), (q 7, .inl (cI, 8, .inl (F 5))), (q 8, .inl (cI, 64, .inl (F 6))), (q 9, .inr (0, [.ref (q 10), .ref (q 13), .ref (q 14), .ref (q 15), .ref (q 16), .ref (q 17)])), (q 10, .inr (1, [.ref (q 11), .ref (q 12), .int (X 1)])), (q 11, .inl (cI, 8, .inl (F 7))), (q 12, .inl (cI, 64, .inl (F 8))), (q 13, .inl (cI, 64, .inl (F 9))), (q 14, .inl (cI, 64, .inl (F 10))), (q 15, .inl (cI, 32, .inl (F 11))), (q 16, .inl (cI, 8, .inl (F 12))), (q 17, .inl (cI, 8, .inl (F 13)))]) [17, 0, 1, 2, 3, 4, 5, 6, 7, 8, 9, 10, 11, 12, 13, 14, 15, 16] (by decide) rfl) hS d_KeyMaker_left_15 (by decide) (by decide)
  · refine lv_if_eq (tgt := 14) hx hb d_KeyMaker_left_4 (by decide) (fun _ => ?_) (fun hc => absurd hc (by decide))
    refine lv_iconst (v := (-1)) hx hb d_KeyMaker_left_14 (by decide) ?_
    have hk : ka_left  (p, np, s, ns, c, w, d) = (-1, (p, np, s, ns, c, w, d)) := ka_left_neg hw
    exact xe_i ((p, np, s, ns, c, w, d), (fun z => match z with | 0 => F 0 | 1 => F 1 | 2 => F 2 | 3 => F 3 | 4 => F 4 | 5 => F 5 | 6 => F 6 | 7 => F 7 | 8 => F 8 | 9 => F 9 | 10 => F 10 | 11 => F 11 | 12 => F 12 | _ => F 13), (fun z => match z with | 0 => X 0 | _ => X 1)) hx hb hr hlk hK (⟨by rw [hk], by rw [hk], kC_same hC0 rfl rfl rfl rfl rfl rfl⟩) (hP.sub (ws' := [(q 0, .inr (2, [.ref (q 1), .ref (q 2), .ref (q 3), .ref (q 4), .ref (q 5), .ref (q 6), .ref (q 9), .int (nI np), .int (nI ns), .int (nI w), .int (nI c), .int (nI (d / c)), .int (nI (d % c))])), (q 1, .inl (cI, 150, .inl (F 0))), (q 2, .inl (cI, 84, .inl (F 1))), (q 3, .inl (cI, 128, .inl (F 2))), (q 4, .inl (cI, 32, .inl (F 3))), (q 5, .inl (cI, 32, .inl (F 4))), (q 6, .inr (1, [.ref (q 7), .ref (q 8), .int (X 0)])), (q 7, .inl (cI, 8, .inl (F 5))), (q 8, .inl (cI, 64, .inl (F 6))), (q 9, .inr (0, [.ref (q 10), .ref (q 13), .ref (q 14), .ref (q 15), .ref (q 16), .ref (q 17)])), (q 10, .inr (1, [.ref (q 11), .ref (q 12), .int (X 1)])), (q 11, .inl (cI, 8, .inl (F 7))), (q 12, .inl (cI, 64, .inl (F 8))), (q 13, .inl (cI, 64, .inl (F 9))), (q 14, .inl (cI, 64, .inl (F 10))), (q 15, .inl (cI, 32, .inl (F 11))), (q 16, .inl (cI, 8, .inl (F 12))), (q 17, .inl (cI, 8, .inl (F 13)))]) [17, 0, 1, 2, 3, 4, 5, 6, 7, 8, 9, 10, 11, 12, 13, 14, 15, 16] rfl) (hD.sub (ws' := [(q 0, .inr (2, [.ref (q 1), .ref (q 2), .ref (q 3), .ref (q 4), .ref (q 5), .ref (q 6), .ref (q 9), .int (nI np), .int (nI ns), .int (nI w), .int (nI c), .int (nI (d / c)), .int (nI (d % c))])), (q 1, .inl (cI, 150, .inl (F 0))), (q 2, .inl (cI, 84, .inl (F 1))), (q 3, .inl (cI, 128, .inl (F 2))), (q 4, .inl (cI, 32, .inl (F 3))), (q 5, .inl (cI, 32, .inl (F 4))), (q 6, .inr (1, [.ref (q 7), .ref (q 8), .int (X 0)])), (q 7, .inl (cI, 8, .inl (F 5))), (q 8, .inl (cI, 64, .inl (F 6))), (q 9, .inr (0, [.ref (q 10), .ref (q 13), .ref (q 14), .ref (q 15), .ref (q 16), .ref (q 17)])), (q 10, .inr (1, [.ref (q 11), .ref (q 12), .int (X 1)])), (q 11, .inl (cI, 8, .inl (F 7))), (q 12, .inl (cI, 64, .inl (F 8))), (q 13, .inl (cI, 64, .inl (F 9))), (q 14, .inl (cI, 64, .inl (F 10))), (q 15, .inl (cI, 32, .inl (F 11))), (q 16, .inl (cI, 8, .inl (F 12))), (q 17, .inl (cI, 8, .inl (F 13)))]) [17, 0, 1, 2, 3, 4, 5, 6, 7, 8, 9, 10, 11, 12, 13, 14, 15, 16] (by decide) rfl) hS d_KeyMaker_left_15 (by decide) (by decide)
set_option maxHeartbeats 4000000 in
set_option maxRecDepth 100000 in
theorem c_kkey (l : Launch) (G : va_G) (cI cB : ClassId) (tK tH sz : Nat) (q : Nat → Nat) (p s : Nat → Int32) (np ns c w d : Nat) (F : Nat → Nat → Int32) (X : Nat → Int32) (i : Int32) (hAb : kA_ok (p, np, s, ns, c, w, d)) (hC : kC (p, np, s, ns, c, w, d) F) : xMi l G cI cB tK tH y_KeyMaker_key b_KeyMaker_key 2 (some .int) ({ frames := 0, cells := 0, slots := 0, locals := 0 }) [.ref (q 0), .int i] sz [(q 0, .inr (2, [.ref (q 1), .ref (q 2), .ref (q 3), .ref (q 4), .ref (q 5), .ref (q 6), .ref (q 9), .int (nI np), .int (nI ns), .int (nI w), .int (nI c), .int (nI (d / c)), .int (nI (d % c))])), (q 1, .inl (cI, 150, .inl (F 0))), (q 2, .inl (cI, 84, .inl (F 1))), (q 3, .inl (cI, 128, .inl (F 2))), (q 4, .inl (cI, 32, .inl (F 3))), (q 5, .inl (cI, 32, .inl (F 4))), (q 6, .inr (1, [.ref (q 7), .ref (q 8), .int (X 0)])), (q 7, .inl (cI, 8, .inl (F 5))), (q 8, .inl (cI, 64, .inl (F 6))), (q 9, .inr (0, [.ref (q 10), .ref (q 13), .ref (q 14), .ref (q 15), .ref (q 16), .ref (q 17)])), (q 10, .inr (1, [.ref (q 11), .ref (q 12), .int (X 1)])), (q 11, .inl (cI, 8, .inl (F 7))), (q 12, .inl (cI, 64, .inl (F 8))), (q 13, .inl (cI, 64, .inl (F 9))), (q 14, .inl (cI, 64, .inl (F 10))), (q 15, .inl (cI, 32, .inl (F 11))), (q 16, .inl (cI, 8, .inl (F 12))), (q 17, .inl (cI, 8, .inl (F 13)))] (fun r u => r = (ka_key i (p, np, s, ns, c, w, d)).1 ∧ u.1 = (ka_key i (p, np, s, ns, c, w, d)).2 ∧ kC u.1 u.2.1) (fun u : kA × (Nat → Nat → Int32) × (Nat → Int32) => [(q 0, .inr (2, [.ref (q 1), .ref (q 2), .ref (q 3), .ref (q 4), .ref (q 5), .ref (q 6), .ref (q 9), .int (nI u.1.2.1), .int (nI u.1.2.2.2.1), .int (nI u.1.2.2.2.2.2.1), .int (nI u.1.2.2.2.2.1), .int (nI (u.1.2.2.2.2.2.2 / u.1.2.2.2.2.1)), .int (nI (u.1.2.2.2.2.2.2 % u.1.2.2.2.2.1))])), (q 1, .inl (cI, 150, .inl (u.2.1 0))), (q 2, .inl (cI, 84, .inl (u.2.1 1))), (q 3, .inl (cI, 128, .inl (u.2.1 2))), (q 4, .inl (cI, 32, .inl (u.2.1 3))), (q 5, .inl (cI, 32, .inl (u.2.1 4))), (q 6, .inr (1, [.ref (q 7), .ref (q 8), .int (u.2.2 0)])), (q 7, .inl (cI, 8, .inl (u.2.1 5))), (q 8, .inl (cI, 64, .inl (u.2.1 6))), (q 9, .inr (0, [.ref (q 10), .ref (q 13), .ref (q 14), .ref (q 15), .ref (q 16), .ref (q 17)])), (q 10, .inr (1, [.ref (q 11), .ref (q 12), .int (u.2.2 1)])), (q 11, .inl (cI, 8, .inl (u.2.1 7))), (q 12, .inl (cI, 64, .inl (u.2.1 8))), (q 13, .inl (cI, 64, .inl (u.2.1 9))), (q 14, .inl (cI, 64, .inl (u.2.1 10))), (q 15, .inl (cI, 32, .inl (u.2.1 11))), (q 16, .inl (cI, 8, .inl (u.2.1 12))), (q 17, .inl (cI, 8, .inl (u.2.1 13)))]) := by
  refine xMi.of (lv := [(0, .ref (q 0)), (1, .int i)]) (by decide) (Nat.le_of_ble_eq_true rfl) rfl ?_
  intro pp ee ss mm bel met cod A ls H locs hx hb hml hr hlk hts hown hnm hA hK hst hP hD hS hl
  have hown : ss.vm.findClass R_KeyMaker = some mm.cls := hown
  have hA0 := hAb
  have hC0 := hC
  obtain ⟨hA1, hA2, hA3, hA4, hA5, hA6, hA7, hA8, hA9⟩ := hAb
  obtain ⟨hC1, hC2, hC3⟩ := hC
  have hcd := kA_c0 hA0
  have hka := kt_all_le hA6 hA5
  have hdc := Nat.div_le_self d c
  refine lv_iload_n hx hb d_KeyMaker_key_0 rfl (lv_at hl 1 rfl) ?_
  refine lv_if_lt (tgt := 23) hx hb d_KeyMaker_key_1 (by decide) (fun h1 => ?_) (fun h1 => ?_)
  · refine lv_iconst (v := (-1)) hx hb d_KeyMaker_key_23 (by decide) ?_
    have hk : ka_key i (p, np, s, ns, c, w, d) = (-1, (p, np, s, ns, c, w, d)) := ka_key_neg (fun z => by obtain ⟨z1, z2, z3⟩ := z; first | contradiction | (rw [nI_clamp hj] at z2 z3; first | omega | exact h3 ((kt_key (hA8 (by omega))).mpr z3)))
    exact xe_i ((p, np, s, ns, c, w, d), (fun z => match z with | 0 => F 0 | 1 => F 1 | 2 => F 2 | 3 => F 3 | 4 => F 4 | 5 => F 5 | 6 => F 6 | 7 => F 7 | 8 => F 8 | 9 => F 9 | 10 => F 10 | 11 => F 11 | 12 => F 12 | _ => F 13), (fun z => match z with | 0 => X 0 | _ => X 1)) hx hb hr hlk hK (⟨by rw [hk], by rw [hk], kC_same hC0 rfl rfl rfl rfl rfl rfl⟩) hP hD hS d_KeyMaker_key_24 (by decide) (by decide)
  · obtain ⟨j, hj, rfl⟩ := nI_of h1
    refine lv_iload_n hx hb d_KeyMaker_key_4 rfl (lv_at hl 1 rfl) ?_
    refine lv_aload_n hx hb d_KeyMaker_key_5 rfl (lv_at hl 0 rfl) ?_
    refine va_get (D := G) (ci := 2) (v := .int (nI w)) (C := R_KeyMaker) (T := F_KeyMaker) (N := 13) hx hb hts hi_KeyMaker hown hK hP 0 rfl rfl 9 (by decide) (hts _ tw_90) (fun _ h9 => h9) rfl d_KeyMaker_key_6 ?_
    refine lv_icmp_ge (tgt := 23) hx hb d_KeyMaker_key_9 (by decide) (fun h2 => ?_) (fun h2 => ?_)
    · have h2 : w ≤ j := (nI_leI (a := w) (b := j) (by omega) (by omega)).mp h2
      refine lv_iconst (v := (-1)) hx hb d_KeyMaker_key_23 (by decide) ?_
      have hk : ka_key (nI j) (p, np, s, ns, c, w, d) = (-1, (p, np, s, ns, c, w, d)) := ka_key_neg (fun z => by obtain ⟨z1, z2, z3⟩ := z; first | contradiction | (rw [nI_clamp hj] at z2 z3; first | omega | exact h3 ((kt_key (hA8 (by omega))).mpr z3)))
      exact xe_i ((p, np, s, ns, c, w, d), (fun z => match z with | 0 => F 0 | 1 => F 1 | 2 => F 2 | 3 => F 3 | 4 => F 4 | 5 => F 5 | 6 => F 6 | 7 => F 7 | 8 => F 8 | 9 => F 9 | 10 => F 10 | 11 => F 11 | 12 => F 12 | _ => F 13), (fun z => match z with | 0 => X 0 | _ => X 1)) hx hb hr hlk hK (⟨by rw [hk], by rw [hk], kC_same hC0 rfl rfl rfl rfl rfl rfl⟩) hP hD hS d_KeyMaker_key_24 (by decide) (by decide)
    · have h2 : ¬ w ≤ j := fun z => h2 ((nI_leI (a := w) (b := j) (by omega) (by omega)).mpr z)
      refine lv_iload_n hx hb d_KeyMaker_key_12 rfl (lv_at hl 1 rfl) ?_
      refine lv_aload_n hx hb d_KeyMaker_key_13 rfl (lv_at hl 0 rfl) ?_
      refine va_get (D := G) (ci := 2) (v := .int (nI (d / c))) (C := R_KeyMaker) (T := F_KeyMaker) (N := 13) hx hb hts hi_KeyMaker hown hK hP 0 rfl rfl 11 (by decide) (hts _ tw_92) (fun _ h9 => h9) rfl d_KeyMaker_key_14 ?_
      refine lv_bipush (v := 32) hx hb d_KeyMaker_key_17 (by decide) ?_
      refine lv_imul hx hb d_KeyMaker_key_19 ?_
      refine lv_topi (fun y1 ey1 => ?_)
      obtain rfl : y1 = nI ((d / c) * 32) := ey1.trans (pk_mul (d / c) 32)
      refine lv_icmp_lt (tgt := 25) hx hb d_KeyMaker_key_20 (by decide) (fun h3 => ?_) (fun h3 => ?_)
      · have h3 : j < ((d / c) * 32) := (nI_ltI (a := j) (b := ((d / c) * 32)) (by omega) (by omega)).mp h3
        refine lv_aload_n hx hb d_KeyMaker_key_25 rfl (lv_at hl 0 rfl) ?_
        refine va_get (D := G) (ci := 2) (v := .ref (q 3)) (C := R_KeyMaker) (T := F_KeyMaker) (N := 13) hx hb hts hi_KeyMaker hown hK hP 0 rfl rfl 2 (by decide) (hts _ tw_83) (fun _ h9 => h9) rfl d_KeyMaker_key_26 ?_
        refine lv_iload_n hx hb d_KeyMaker_key_29 rfl (lv_at hl 1 rfl) ?_
        refine xa_iald (k := j) (f := F 2) hx hb hK hP 3 0 rfl rfl (by omega) (by omega) d_KeyMaker_key_30 ?_
        refine lv_topi (fun y2 ey2 => ?_)
        obtain rfl : y2 = km_K p np s ns c d j := ey2.trans ((hC3 (by omega)).1 j (by omega))
        have hk : ka_key (nI j) (p, np, s, ns, c, w, d) = (km_K p np s ns c d j, (p, np, s, ns, c, w, d)) := ka_key_pos hj (by omega) ((kt_key (hA8 (by omega))).mp h3)
        exact xe_i ((p, np, s, ns, c, w, d), (fun z => match z with | 0 => F 0 | 1 => F 1 | 2 => F 2 | 3 => F 3 | 4 => F 4 | 5 => F 5 | 6 => F 6 | 7 => F 7 | 8 => F 8 | 9 => F 9 | 10 => F 10 | 11 => F 11 | 12 => F 12 | _ => F 13), (fun z => match z with | 0 => X 0 | _ => X 1)) hx hb hr hlk hK (⟨by rw [hk], by rw [hk], kC_same hC0 rfl rfl rfl rfl rfl rfl⟩) hP hD hS d_KeyMaker_key_31 (by decide) (by decide)
      · have h3 : ¬ j < ((d / c) * 32) := fun z => h3 ((nI_ltI (a := j) (b := ((d / c) * 32)) (by omega) (by omega)).mpr z)
        refine lv_iconst (v := (-1)) hx hb d_KeyMaker_key_23 (by decide) ?_
        have hk : ka_key (nI j) (p, np, s, ns, c, w, d) = (-1, (p, np, s, ns, c, w, d)) := ka_key_neg (fun z => by obtain ⟨z1, z2, z3⟩ := z; first | contradiction | (rw [nI_clamp hj] at z2 z3; first | omega | exact h3 ((kt_key (hA8 (by omega))).mpr z3)))
        exact xe_i ((p, np, s, ns, c, w, d), (fun z => match z with | 0 => F 0 | 1 => F 1 | 2 => F 2 | 3 => F 3 | 4 => F 4 | 5 => F 5 | 6 => F 6 | 7 => F 7 | 8 => F 8 | 9 => F 9 | 10 => F 10 | 11 => F 11 | 12 => F 12 | _ => F 13), (fun z => match z with | 0 => X 0 | _ => X 1)) hx hb hr hlk hK (⟨by rw [hk], by rw [hk], kC_same hC0 rfl rfl rfl rfl rfl rfl⟩) hP hD hS d_KeyMaker_key_24 (by decide) (by decide)
set_option maxHeartbeats 4000000 in
set_option maxRecDepth 100000 in
theorem c_kreset (l : Launch) (G : va_G) (cI cB : ClassId) (tK tH sz : Nat) (q : Nat → Nat) (p s : Nat → Int32) (np ns c w d : Nat) (F : Nat → Nat → Int32) (X : Nat → Int32) (hAb : kA_ok (p, np, s, ns, c, w, d)) (hC : kC (p, np, s, ns, c, w, d) F) : xMv l G cI cB tK tH y_KeyMaker_reset b_KeyMaker_reset 1 none ({ frames := 1, cells := 0, slots := 0, locals := 20 }) [.ref (q 0)] sz [(q 0, .inr (2, [.ref (q 1), .ref (q 2), .ref (q 3), .ref (q 4), .ref (q 5), .ref (q 6), .ref (q 9), .int (nI np), .int (nI ns), .int (nI w), .int (nI c), .int (nI (d / c)), .int (nI (d % c))])), (q 1, .inl (cI, 150, .inl (F 0))), (q 2, .inl (cI, 84, .inl (F 1))), (q 3, .inl (cI, 128, .inl (F 2))), (q 4, .inl (cI, 32, .inl (F 3))), (q 5, .inl (cI, 32, .inl (F 4))), (q 6, .inr (1, [.ref (q 7), .ref (q 8), .int (X 0)])), (q 7, .inl (cI, 8, .inl (F 5))), (q 8, .inl (cI, 64, .inl (F 6))), (q 9, .inr (0, [.ref (q 10), .ref (q 13), .ref (q 14), .ref (q 15), .ref (q 16), .ref (q 17)])), (q 10, .inr (1, [.ref (q 11), .ref (q 12), .int (X 1)])), (q 11, .inl (cI, 8, .inl (F 7))), (q 12, .inl (cI, 64, .inl (F 8))), (q 13, .inl (cI, 64, .inl (F 9))), (q 14, .inl (cI, 64, .inl (F 10))), (q 15, .inl (cI, 32, .inl (F 11))), (q 16, .inl (cI, 8, .inl (F 12))), (q 17, .inl (cI, 8, .inl (F 13)))] (fun u => u.1 = (ka_reset (p, np, s, ns, c, w, d)) ∧ kC u.1 u.2.1) (fun u : kA × (Nat → Nat → Int32) × (Nat → Int32) => [(q 0, .inr (2, [.ref (q 1), .ref (q 2), .ref (q 3), .ref (q 4), .ref (q 5), .ref (q 6), .ref (q 9), .int (nI u.1.2.1), .int (nI u.1.2.2.2.1), .int (nI u.1.2.2.2.2.2.1), .int (nI u.1.2.2.2.2.1), .int (nI (u.1.2.2.2.2.2.2 / u.1.2.2.2.2.1)), .int (nI (u.1.2.2.2.2.2.2 % u.1.2.2.2.2.1))])), (q 1, .inl (cI, 150, .inl (u.2.1 0))), (q 2, .inl (cI, 84, .inl (u.2.1 1))), (q 3, .inl (cI, 128, .inl (u.2.1 2))), (q 4, .inl (cI, 32, .inl (u.2.1 3))), (q 5, .inl (cI, 32, .inl (u.2.1 4))), (q 6, .inr (1, [.ref (q 7), .ref (q 8), .int (u.2.2 0)])), (q 7, .inl (cI, 8, .inl (u.2.1 5))), (q 8, .inl (cI, 64, .inl (u.2.1 6))), (q 9, .inr (0, [.ref (q 10), .ref (q 13), .ref (q 14), .ref (q 15), .ref (q 16), .ref (q 17)])), (q 10, .inr (1, [.ref (q 11), .ref (q 12), .int (u.2.2 1)])), (q 11, .inl (cI, 8, .inl (u.2.1 7))), (q 12, .inl (cI, 64, .inl (u.2.1 8))), (q 13, .inl (cI, 64, .inl (u.2.1 9))), (q 14, .inl (cI, 64, .inl (u.2.1 10))), (q 15, .inl (cI, 32, .inl (u.2.1 11))), (q 16, .inl (cI, 8, .inl (u.2.1 12))), (q 17, .inl (cI, 8, .inl (u.2.1 13)))]) := by
  refine xMv.of (lv := [(0, .ref (q 0))]) (by decide) (Nat.le_of_ble_eq_true rfl) rfl ?_
  intro pp ee ss mm bel met cod A ls H locs hx hb hml hr hlk hts hown hnm hA hK hst hP hD hS hl
  have hown : ss.vm.findClass R_KeyMaker = some mm.cls := hown
  have hA0 := hAb
  have hC0 := hC
  obtain ⟨hA1, hA2, hA3, hA4, hA5, hA6, hA7, hA8, hA9⟩ := hAb
  obtain ⟨hC1, hC2, hC3⟩ := hC
  have hcd := kA_c0 hA0
  have hka := kt_all_le hA6 hA5
  have hdc := Nat.div_le_self d c
  refine lv_aload_n hx hb d_KeyMaker_reset_0 rfl (lv_at hl 0 rfl) ?_
  refine xc_v (wr := [(q 1, .inl (cI, 150, .inl (F 0))), (q 2, .inl (cI, 84, .inl (F 1))), (q 3, .inl (cI, 128, .inl (F 2))), (q 4, .inl (cI, 32, .inl (F 3))), (q 5, .inl (cI, 32, .inl (F 4))), (q 6, .inr (1, [.ref (q 7), .ref (q 8), .int (X 0)])), (q 7, .inl (cI, 8, .inl (F 5))), (q 8, .inl (cI, 64, .inl (F 6))), (q 9, .inr (0, [.ref (q 10), .ref (q 13), .ref (q 14), .ref (q 15), .ref (q 16), .ref (q 17)])), (q 10, .inr (1, [.ref (q 11), .ref (q 12), .int (X 1)])), (q 11, .inl (cI, 8, .inl (F 7))), (q 12, .inl (cI, 64, .inl (F 8))), (q 13, .inl (cI, 64, .inl (F 9))), (q 14, .inl (cI, 64, .inl (F 10))), (q 15, .inl (cI, 32, .inl (F 11))), (q 16, .inl (cI, 8, .inl (F 12))), (q 17, .inl (cI, 8, .inl (F 13)))]) (va_runV (As := []) (rest := []) ⟨hx, hb, hml, hown, hts⟩ (c_forget l G cI cB tK tH H.size q (nI np) (nI ns) (nI w) (nI c) (nI (d / c)) (nI (d % c)) ) (cwV 0 hts (xg_V tw_77 tw_79 tw_0 tw_17 tw_80) rfl rfl rfl (by decide +kernel) ⟨Nat.le_of_ble_eq_true rfl, Nat.le_of_ble_eq_true rfl⟩) (xc_preV hK hst hA hP hD hS [0] (by decide) rfl 0 rfl rfl) rfl rfl hl.1 rfl (lv_room (Nat.le_of_ble_eq_true rfl)) d_KeyMaker_reset_1 ⟨Nat.le_of_ble_eq_true rfl, Nat.le_of_ble_eq_true rfl⟩) hA hP hD hS [0] [1, 2, 3, 4, 5, 6, 7, 8, 9, 10, 11, 12, 13, 14, 15, 16, 17] rfl rfl (by decide) (by decide) (fun u1 H locs hp2 hP hD hS => ?_)
  have hP : va_P G classes [(q 1, .inl (cI, 150, .inl (F 0))), (q 2, .inl (cI, 84, .inl (F 1))), (q 3, .inl (cI, 128, .inl (F 2))), (q 4, .inl (cI, 32, .inl (F 3))), (q 5, .inl (cI, 32, .inl (F 4))), (q 6, .inr (1, [.ref (q 7), .ref (q 8), .int (X 0)])), (q 7, .inl (cI, 8, .inl (F 5))), (q 8, .inl (cI, 64, .inl (F 6))), (q 9, .inr (0, [.ref (q 10), .ref (q 13), .ref (q 14), .ref (q 15), .ref (q 16), .ref (q 17)])), (q 10, .inr (1, [.ref (q 11), .ref (q 12), .int (X 1)])), (q 11, .inl (cI, 8, .inl (F 7))), (q 12, .inl (cI, 64, .inl (F 8))), (q 13, .inl (cI, 64, .inl (F 9))), (q 14, .inl (cI, 64, .inl (F 10))), (q 15, .inl (cI, 32, .inl (F 11))), (q 16, .inl (cI, 8, .inl (F 12))), (q 17, .inl (cI, 8, .inl (F 13))), (q 0, .inr (2, [.ref (q 1), .ref (q 2), .ref (q 3), .ref (q 4), .ref (q 5), .ref (q 6), .ref (q 9), .int (nI 0), .int (nI 0), .int (nI 0), .int (nI 0), .int (nI (0 / 0)), .int (nI (0 % 0))]))] H := hP
  have hD : va_D A [(q 1, .inl (cI, 150, .inl (F 0))), (q 2, .inl (cI, 84, .inl (F 1))), (q 3, .inl (cI, 128, .inl (F 2))), (q 4, .inl (cI, 32, .inl (F 3))), (q 5, .inl (cI, 32, .inl (F 4))), (q 6, .inr (1, [.ref (q 7), .ref (q 8), .int (X 0)])), (q 7, .inl (cI, 8, .inl (F 5))), (q 8, .inl (cI, 64, .inl (F 6))), (q 9, .inr (0, [.ref (q 10), .ref (q 13), .ref (q 14), .ref (q 15), .ref (q 16), .ref (q 17)])), (q 10, .inr (1, [.ref (q 11), .ref (q 12), .int (X 1)])), (q 11, .inl (cI, 8, .inl (F 7))), (q 12, .inl (cI, 64, .inl (F 8))), (q 13, .inl (cI, 64, .inl (F 9))), (q 14, .inl (cI, 64, .inl (F 10))), (q 15, .inl (cI, 32, .inl (F 11))), (q 16, .inl (cI, 8, .inl (F 12))), (q 17, .inl (cI, 8, .inl (F 13))), (q 0, .inr (2, [.ref (q 1), .ref (q 2), .ref (q 3), .ref (q 4), .ref (q 5), .ref (q 6), .ref (q 9), .int (nI 0), .int (nI 0), .int (nI 0), .int (nI 0), .int (nI (0 / 0)), .int (nI (0 % 0))]))] := hD
  exact xe_v ((p, 0, s, 0, 0, 0, 0), (fun z => match z with | 0 => F 0 | 1 => F 1 | 2 => F 2 | 3 => F 3 | 4 => F 4 | 5 => F 5 | 6 => F 6 | 7 => F 7 | 8 => F 8 | 9 => F 9 | 10 => F 10 | 11 => F 11 | 12 => F 12 | _ => F 13), (fun z => match z with | 0 => X 0 | _ => X 1)) hx hb hr hlk hK (⟨rfl, kC_zero p s _⟩) (hP.sub (ws' := [(q 0, .inr (2, [.ref (q 1), .ref (q 2), .ref (q 3), .ref (q 4), .ref (q 5), .ref (q 6), .ref (q 9), .int (nI 0), .int (nI 0), .int (nI 0), .int (nI 0), .int (nI (0 / 0)), .int (nI (0 % 0))])), (q 1, .inl (cI, 150, .inl (F 0))), (q 2, .inl (cI, 84, .inl (F 1))), (q 3, .inl (cI, 128, .inl (F 2))), (q 4, .inl (cI, 32, .inl (F 3))), (q 5, .inl (cI, 32, .inl (F 4))), (q 6, .inr (1, [.ref (q 7), .ref (q 8), .int (X 0)])), (q 7, .inl (cI, 8, .inl (F 5))), (q 8, .inl (cI, 64, .inl (F 6))), (q 9, .inr (0, [.ref (q 10), .ref (q 13), .ref (q 14), .ref (q 15), .ref (q 16), .ref (q 17)])), (q 10, .inr (1, [.ref (q 11), .ref (q 12), .int (X 1)])), (q 11, .inl (cI, 8, .inl (F 7))), (q 12, .inl (cI, 64, .inl (F 8))), (q 13, .inl (cI, 64, .inl (F 9))), (q 14, .inl (cI, 64, .inl (F 10))), (q 15, .inl (cI, 32, .inl (F 11))), (q 16, .inl (cI, 8, .inl (F 12))), (q 17, .inl (cI, 8, .inl (F 13)))]) [17, 0, 1, 2, 3, 4, 5, 6, 7, 8, 9, 10, 11, 12, 13, 14, 15, 16] rfl) (hD.sub (ws' := [(q 0, .inr (2, [.ref (q 1), .ref (q 2), .ref (q 3), .ref (q 4), .ref (q 5), .ref (q 6), .ref (q 9), .int (nI 0), .int (nI 0), .int (nI 0), .int (nI 0), .int (nI (0 / 0)), .int (nI (0 % 0))])), (q 1, .inl (cI, 150, .inl (F 0))), (q 2, .inl (cI, 84, .inl (F 1))), (q 3, .inl (cI, 128, .inl (F 2))), (q 4, .inl (cI, 32, .inl (F 3))), (q 5, .inl (cI, 32, .inl (F 4))), (q 6, .inr (1, [.ref (q 7), .ref (q 8), .int (X 0)])), (q 7, .inl (cI, 8, .inl (F 5))), (q 8, .inl (cI, 64, .inl (F 6))), (q 9, .inr (0, [.ref (q 10), .ref (q 13), .ref (q 14), .ref (q 15), .ref (q 16), .ref (q 17)])), (q 10, .inr (1, [.ref (q 11), .ref (q 12), .int (X 1)])), (q 11, .inl (cI, 8, .inl (F 7))), (q 12, .inl (cI, 64, .inl (F 8))), (q 13, .inl (cI, 64, .inl (F 9))), (q 14, .inl (cI, 64, .inl (F 10))), (q 15, .inl (cI, 32, .inl (F 11))), (q 16, .inl (cI, 8, .inl (F 12))), (q 17, .inl (cI, 8, .inl (F 13)))]) [17, 0, 1, 2, 3, 4, 5, 6, 7, 8, 9, 10, 11, 12, 13, 14, 15, 16] (by decide) rfl) hS d_KeyMaker_reset_4 (by decide) (by decide)
set_option maxHeartbeats 4000000 in
set_option maxRecDepth 100000 in
theorem c_kmany (l : Launch) (G : va_G) (cI cB : ClassId) (tK tH sz : Nat) (q : Nat → Nat) (p s : Nat → Int32) (np ns c w d : Nat) (F : Nat → Nat → Int32) (X : Nat → Int32) (what : Int32) (hAb : kA_ok (p, np, s, ns, c, w, d)) (hC : kC (p, np, s, ns, c, w, d) F) : xMi l G cI cB tK tH y_KeyMaker_many b_KeyMaker_many 2 (some .int) ({ frames := 0, cells := 0, slots := 0, locals := 0 }) [.ref (q 0), .int what] sz [(q 0, .inr (2, [.ref (q 1), .ref (q 2), .ref (q 3), .ref (q 4), .ref (q 5), .ref (q 6), .ref (q 9), .int (nI np), .int (nI ns), .int (nI w), .int (nI c), .int (nI (d / c)), .int (nI (d % c))])), (q 1, .inl (cI, 150, .inl (F 0))), (q 2, .inl (cI, 84, .inl (F 1))), (q 3, .inl (cI, 128, .inl (F 2))), (q 4, .inl (cI, 32, .inl (F 3))), (q 5, .inl (cI, 32, .inl (F 4))), (q 6, .inr (1, [.ref (q 7), .ref (q 8), .int (X 0)])), (q 7, .inl (cI, 8, .inl (F 5))), (q 8, .inl (cI, 64, .inl (F 6))), (q 9, .inr (0, [.ref (q 10), .ref (q 13), .ref (q 14), .ref (q 15), .ref (q 16), .ref (q 17)])), (q 10, .inr (1, [.ref (q 11), .ref (q 12), .int (X 1)])), (q 11, .inl (cI, 8, .inl (F 7))), (q 12, .inl (cI, 64, .inl (F 8))), (q 13, .inl (cI, 64, .inl (F 9))), (q 14, .inl (cI, 64, .inl (F 10))), (q 15, .inl (cI, 32, .inl (F 11))), (q 16, .inl (cI, 8, .inl (F 12))), (q 17, .inl (cI, 8, .inl (F 13)))] (fun r u => r = (ka_many what (p, np, s, ns, c, w, d)).1 ∧ u.1 = (ka_many what (p, np, s, ns, c, w, d)).2 ∧ kC u.1 u.2.1) (fun u : kA × (Nat → Nat → Int32) × (Nat → Int32) => [(q 0, .inr (2, [.ref (q 1), .ref (q 2), .ref (q 3), .ref (q 4), .ref (q 5), .ref (q 6), .ref (q 9), .int (nI u.1.2.1), .int (nI u.1.2.2.2.1), .int (nI u.1.2.2.2.2.2.1), .int (nI u.1.2.2.2.2.1), .int (nI (u.1.2.2.2.2.2.2 / u.1.2.2.2.2.1)), .int (nI (u.1.2.2.2.2.2.2 % u.1.2.2.2.2.1))])), (q 1, .inl (cI, 150, .inl (u.2.1 0))), (q 2, .inl (cI, 84, .inl (u.2.1 1))), (q 3, .inl (cI, 128, .inl (u.2.1 2))), (q 4, .inl (cI, 32, .inl (u.2.1 3))), (q 5, .inl (cI, 32, .inl (u.2.1 4))), (q 6, .inr (1, [.ref (q 7), .ref (q 8), .int (u.2.2 0)])), (q 7, .inl (cI, 8, .inl (u.2.1 5))), (q 8, .inl (cI, 64, .inl (u.2.1 6))), (q 9, .inr (0, [.ref (q 10), .ref (q 13), .ref (q 14), .ref (q 15), .ref (q 16), .ref (q 17)])), (q 10, .inr (1, [.ref (q 11), .ref (q 12), .int (u.2.2 1)])), (q 11, .inl (cI, 8, .inl (u.2.1 7))), (q 12, .inl (cI, 64, .inl (u.2.1 8))), (q 13, .inl (cI, 64, .inl (u.2.1 9))), (q 14, .inl (cI, 64, .inl (u.2.1 10))), (q 15, .inl (cI, 32, .inl (u.2.1 11))), (q 16, .inl (cI, 8, .inl (u.2.1 12))), (q 17, .inl (cI, 8, .inl (u.2.1 13)))]) := by
  refine xMi.of (lv := [(0, .ref (q 0)), (1, .int what)]) (by decide) (Nat.le_of_ble_eq_true rfl) rfl ?_
  intro pp ee ss mm bel met cod A ls H locs hx hb hml hr hlk hts hown hnm hA hK hst hP hD hS hl
  have hown : ss.vm.findClass R_KeyMaker = some mm.cls := hown
  have hA0 := hAb
  have hC0 := hC
  obtain ⟨hA1, hA2, hA3, hA4, hA5, hA6, hA7, hA8, hA9⟩ := hAb
  obtain ⟨hC1, hC2, hC3⟩ := hC
  have hcd := kA_c0 hA0
  have hka := kt_all_le hA6 hA5
  have hdc := Nat.div_le_self d c
  refine lv_iload_n hx hb d_KeyMaker_many_0 rfl (lv_at hl 1 rfl) ?_
  by_cases h0 : what = 0
  · subst h0
    refine lv_tableIn (tgt := 28) hx hb d_KeyMaker_many_1 (by decide) (by decide) rfl (by decide) ?_
    refine lv_aload_n hx hb d_KeyMaker_many_28 rfl (lv_at hl 0 rfl) ?_
    refine va_get (D := G) (ci := 2) (v := .int (nI np)) (C := R_KeyMaker) (T := F_KeyMaker) (N := 13) hx hb hts hi_KeyMaker hown hK hP 0 rfl rfl 7 (by decide) (hts _ tw_88) (fun _ h9 => h9) rfl d_KeyMaker_many_29 ?_
    have hk : ka_many 0 (p, np, s, ns, c, w, d) = (nI np, (p, np, s, ns, c, w, d)) := rfl
    exact xe_i ((p, np, s, ns, c, w, d), (fun z => match z with | 0 => F 0 | 1 => F 1 | 2 => F 2 | 3 => F 3 | 4 => F 4 | 5 => F 5 | 6 => F 6 | 7 => F 7 | 8 => F 8 | 9 => F 9 | 10 => F 10 | 11 => F 11 | 12 => F 12 | _ => F 13), (fun z => match z with | 0 => X 0 | _ => X 1)) hx hb hr hlk hK (⟨by rw [hk], by rw [hk], kC_same hC0 rfl rfl rfl rfl rfl rfl⟩) hP hD hS d_KeyMaker_many_32 (by decide) (by decide)
  by_cases h1 : what = 1
  · subst h1
    refine lv_tableIn (tgt := 33) hx hb d_KeyMaker_many_1 (by decide) (by decide) rfl (by decide) ?_
    refine lv_aload_n hx hb d_KeyMaker_many_33 rfl (lv_at hl 0 rfl) ?_
    refine va_get (D := G) (ci := 2) (v := .int (nI ns)) (C := R_KeyMaker) (T := F_KeyMaker) (N := 13) hx hb hts hi_KeyMaker hown hK hP 0 rfl rfl 8 (by decide) (hts _ tw_89) (fun _ h9 => h9) rfl d_KeyMaker_many_34 ?_
    have hk : ka_many 1 (p, np, s, ns, c, w, d) = (nI ns, (p, np, s, ns, c, w, d)) := rfl
    exact xe_i ((p, np, s, ns, c, w, d), (fun z => match z with | 0 => F 0 | 1 => F 1 | 2 => F 2 | 3 => F 3 | 4 => F 4 | 5 => F 5 | 6 => F 6 | 7 => F 7 | 8 => F 8 | 9 => F 9 | 10 => F 10 | 11 => F 11 | 12 => F 12 | _ => F 13), (fun z => match z with | 0 => X 0 | _ => X 1)) hx hb hr hlk hK (⟨by rw [hk], by rw [hk], kC_same hC0 rfl rfl rfl rfl rfl rfl⟩) hP hD hS d_KeyMaker_many_37 (by decide) (by decide)
  by_cases h2 : what = 2
  · subst h2
    refine lv_tableIn (tgt := 38) hx hb d_KeyMaker_many_1 (by decide) (by decide) rfl (by decide) ?_
    refine lv_aload_n hx hb d_KeyMaker_many_38 rfl (lv_at hl 0 rfl) ?_
    refine va_get (D := G) (ci := 2) (v := .int (nI w)) (C := R_KeyMaker) (T := F_KeyMaker) (N := 13) hx hb hts hi_KeyMaker hown hK hP 0 rfl rfl 9 (by decide) (hts _ tw_90) (fun _ h9 => h9) rfl d_KeyMaker_many_39 ?_
    have hk : ka_many 2 (p, np, s, ns, c, w, d) = (nI w, (p, np, s, ns, c, w, d)) := rfl
    exact xe_i ((p, np, s, ns, c, w, d), (fun z => match z with | 0 => F 0 | 1 => F 1 | 2 => F 2 | 3 => F 3 | 4 => F 4 | 5 => F 5 | 6 => F 6 | 7 => F 7 | 8 => F 8 | 9 => F 9 | 10 => F 10 | 11 => F 11 | 12 => F 12 | _ => F 13), (fun z => match z with | 0 => X 0 | _ => X 1)) hx hb hr hlk hK (⟨by rw [hk], by rw [hk], kC_same hC0 rfl rfl rfl rfl rfl rfl⟩) hP hD hS d_KeyMaker_many_42 (by decide) (by decide)
  refine lv_tableOut (tgt := 43) hx hb d_KeyMaker_many_1 (kn_3 h0 h1 h2) (by decide) ?_
  refine lv_iconst (v := (-1)) hx hb d_KeyMaker_many_43 (by decide) ?_
  have hk : ka_many what (p, np, s, ns, c, w, d) = (-1, (p, np, s, ns, c, w, d)) := by unfold ka_many; dsimp only; rw [if_neg h0, if_neg h1, if_neg h2]
  exact xe_i ((p, np, s, ns, c, w, d), (fun z => match z with | 0 => F 0 | 1 => F 1 | 2 => F 2 | 3 => F 3 | 4 => F 4 | 5 => F 5 | 6 => F 6 | 7 => F 7 | 8 => F 8 | 9 => F 9 | 10 => F 10 | 11 => F 11 | 12 => F 12 | _ => F 13), (fun z => match z with | 0 => X 0 | _ => X 1)) hx hb hr hlk hK (⟨by rw [hk], by rw [hk], kC_same hC0 rfl rfl rfl rfl rfl rfl⟩) hP hD hS d_KeyMaker_many_44 (by decide) (by decide)
set_option maxHeartbeats 4000000 in
set_option maxRecDepth 100000 in
theorem c_ksum (l : Launch) (G : va_G) (cI cB : ClassId) (tK tH sz : Nat) (q : Nat → Nat) (p s : Nat → Int32) (np ns c w d : Nat) (F : Nat → Nat → Int32) (X : Nat → Int32) (i : Int32) (hAb : kA_ok (p, np, s, ns, c, w, d)) (hC : kC (p, np, s, ns, c, w, d) F) : xMi l G cI cB tK tH y_KeyMaker_sum b_KeyMaker_sum 2 (some .int) ({ frames := 6, cells := 0, slots := 0, locals := 143 }) [.ref (q 0), .int i] sz [(q 0, .inr (2, [.ref (q 1), .ref (q 2), .ref (q 3), .ref (q 4), .ref (q 5), .ref (q 6), .ref (q 9), .int (nI np), .int (nI ns), .int (nI w), .int (nI c), .int (nI (d / c)), .int (nI (d % c))])), (q 1, .inl (cI, 150, .inl (F 0))), (q 2, .inl (cI, 84, .inl (F 1))), (q 3, .inl (cI, 128, .inl (F 2))), (q 4, .inl (cI, 32, .inl (F 3))), (q 5, .inl (cI, 32, .inl (F 4))), (q 6, .inr (1, [.ref (q 7), .ref (q 8), .int (X 0)])), (q 7, .inl (cI, 8, .inl (F 5))), (q 8, .inl (cI, 64, .inl (F 6))), (q 9, .inr (0, [.ref (q 10), .ref (q 13), .ref (q 14), .ref (q 15), .ref (q 16), .ref (q 17)])), (q 10, .inr (1, [.ref (q 11), .ref (q 12), .int (X 1)])), (q 11, .inl (cI, 8, .inl (F 7))), (q 12, .inl (cI, 64, .inl (F 8))), (q 13, .inl (cI, 64, .inl (F 9))), (q 14, .inl (cI, 64, .inl (F 10))), (q 15, .inl (cI, 32, .inl (F 11))), (q 16, .inl (cI, 8, .inl (F 12))), (q 17, .inl (cI, 8, .inl (F 13)))] (fun r u => r = (ka_sum i (p, np, s, ns, c, w, d)).1 ∧ u.1 = (ka_sum i (p, np, s, ns, c, w, d)).2 ∧ kC u.1 u.2.1) (fun u : kA × (Nat → Nat → Int32) × (Nat → Int32) => [(q 0, .inr (2, [.ref (q 1), .ref (q 2), .ref (q 3), .ref (q 4), .ref (q 5), .ref (q 6), .ref (q 9), .int (nI u.1.2.1), .int (nI u.1.2.2.2.1), .int (nI u.1.2.2.2.2.2.1), .int (nI u.1.2.2.2.2.1), .int (nI (u.1.2.2.2.2.2.2 / u.1.2.2.2.2.1)), .int (nI (u.1.2.2.2.2.2.2 % u.1.2.2.2.2.1))])), (q 1, .inl (cI, 150, .inl (u.2.1 0))), (q 2, .inl (cI, 84, .inl (u.2.1 1))), (q 3, .inl (cI, 128, .inl (u.2.1 2))), (q 4, .inl (cI, 32, .inl (u.2.1 3))), (q 5, .inl (cI, 32, .inl (u.2.1 4))), (q 6, .inr (1, [.ref (q 7), .ref (q 8), .int (u.2.2 0)])), (q 7, .inl (cI, 8, .inl (u.2.1 5))), (q 8, .inl (cI, 64, .inl (u.2.1 6))), (q 9, .inr (0, [.ref (q 10), .ref (q 13), .ref (q 14), .ref (q 15), .ref (q 16), .ref (q 17)])), (q 10, .inr (1, [.ref (q 11), .ref (q 12), .int (u.2.2 1)])), (q 11, .inl (cI, 8, .inl (u.2.1 7))), (q 12, .inl (cI, 64, .inl (u.2.1 8))), (q 13, .inl (cI, 64, .inl (u.2.1 9))), (q 14, .inl (cI, 64, .inl (u.2.1 10))), (q 15, .inl (cI, 32, .inl (u.2.1 11))), (q 16, .inl (cI, 8, .inl (u.2.1 12))), (q 17, .inl (cI, 8, .inl (u.2.1 13)))]) := by
  refine xMi.of (lv := [(0, .ref (q 0)), (1, .int i)]) (by decide) (Nat.le_of_ble_eq_true rfl) rfl ?_
  intro pp ee ss mm bel met cod A ls H locs hx hb hml hr hlk hts hown hnm hA hK hst hP hD hS hl
  have hown : ss.vm.findClass R_KeyMaker = some mm.cls := hown
  have hA0 := hAb
  have hC0 := hC
  obtain ⟨hA1, hA2, hA3, hA4, hA5, hA6, hA7, hA8, hA9⟩ := hAb
  obtain ⟨hC1, hC2, hC3⟩ := hC
  have hcd := kA_c0 hA0
  have hka := kt_all_le hA6 hA5
  have hdc := Nat.div_le_self d c
  refine lv_iload_n hx hb d_KeyMaker_sum_0 rfl (lv_at hl 1 rfl) ?_
  refine xc_i (wr := [(q 0, .inr (2, [.ref (q 1), .ref (q 2), .ref (q 3), .ref (q 4), .ref (q 5), .ref (q 6), .ref (q 9), .int (nI np), .int (nI ns), .int (nI w), .int (nI c), .int (nI (d / c)), .int (nI (d % c))])), (q 1, .inl (cI, 150, .inl (F 0))), (q 2, .inl (cI, 84, .inl (F 1))), (q 3, .inl (cI, 128, .inl (F 2))), (q 4, .inl (cI, 32, .inl (F 3))), (q 5, .inl (cI, 32, .inl (F 4))), (q 6, .inr (1, [.ref (q 7), .ref (q 8), .int (X 0)])), (q 7, .inl (cI, 8, .inl (F 5))), (q 8, .inl (cI, 64, .inl (F 6))), (q 9, .inr (0, [.ref (q 10), .ref (q 13), .ref (q 14), .ref (q 15), .ref (q 16), .ref (q 17)])), (q 10, .inr (1, [.ref (q 11), .ref (q 12), .int (X 1)])), (q 11, .inl (cI, 8, .inl (F 7))), (q 12, .inl (cI, 64, .inl (F 8))), (q 13, .inl (cI, 64, .inl (F 9))), (q 14, .inl (cI, 64, .inl (F 10))), (q 15, .inl (cI, 32, .inl (F 11))), (q 16, .inl (cI, 8, .inl (F 12))), (q 17, .inl (cI, 8, .inl (F 13)))]) (va_runS (As := [.int i]) (rest := []) ⟨hx, hb, hml, hown, hts⟩ (c_isPlace l G cI cB tK tH H.size i ) (va_cwS 1 hts (xg_S tw_270 tw_271 tw_17 tw_272) rfl rfl rfl (by decide +kernel) ⟨Nat.le_of_ble_eq_true rfl, Nat.le_of_ble_eq_true rfl⟩) (xc_pre hK hst hA hP hD hS [] (by decide) rfl [.int i]) rfl rfl hl.1 rfl (lv_room (Nat.le_of_ble_eq_true rfl)) d_KeyMaker_sum_1 ⟨Nat.le_of_ble_eq_true rfl, Nat.le_of_ble_eq_true rfl⟩) hA hP hD hS [] [0, 1, 2, 3, 4, 5, 6, 7, 8, 9, 10, 11, 12, 13, 14, 15, 16, 17] rfl rfl (by decide) (by decide) (fun r2 u1 H locs hy hP hD hS => ?_)
  have hP : va_P G classes [(q 0, .inr (2, [.ref (q 1), .ref (q 2), .ref (q 3), .ref (q 4), .ref (q 5), .ref (q 6), .ref (q 9), .int (nI np), .int (nI ns), .int (nI w), .int (nI c), .int (nI (d / c)), .int (nI (d % c))])), (q 1, .inl (cI, 150, .inl (F 0))), (q 2, .inl (cI, 84, .inl (F 1))), (q 3, .inl (cI, 128, .inl (F 2))), (q 4, .inl (cI, 32, .inl (F 3))), (q 5, .inl (cI, 32, .inl (F 4))), (q 6, .inr (1, [.ref (q 7), .ref (q 8), .int (X 0)])), (q 7, .inl (cI, 8, .inl (F 5))), (q 8, .inl (cI, 64, .inl (F 6))), (q 9, .inr (0, [.ref (q 10), .ref (q 13), .ref (q 14), .ref (q 15), .ref (q 16), .ref (q 17)])), (q 10, .inr (1, [.ref (q 11), .ref (q 12), .int (X 1)])), (q 11, .inl (cI, 8, .inl (F 7))), (q 12, .inl (cI, 64, .inl (F 8))), (q 13, .inl (cI, 64, .inl (F 9))), (q 14, .inl (cI, 64, .inl (F 10))), (q 15, .inl (cI, 32, .inl (F 11))), (q 16, .inl (cI, 8, .inl (F 12))), (q 17, .inl (cI, 8, .inl (F 13)))] H := hP
  have hD : va_D A [(q 0, .inr (2, [.ref (q 1), .ref (q 2), .ref (q 3), .ref (q 4), .ref (q 5), .ref (q 6), .ref (q 9), .int (nI np), .int (nI ns), .int (nI w), .int (nI c), .int (nI (d / c)), .int (nI (d % c))])), (q 1, .inl (cI, 150, .inl (F 0))), (q 2, .inl (cI, 84, .inl (F 1))), (q 3, .inl (cI, 128, .inl (F 2))), (q 4, .inl (cI, 32, .inl (F 3))), (q 5, .inl (cI, 32, .inl (F 4))), (q 6, .inr (1, [.ref (q 7), .ref (q 8), .int (X 0)])), (q 7, .inl (cI, 8, .inl (F 5))), (q 8, .inl (cI, 64, .inl (F 6))), (q 9, .inr (0, [.ref (q 10), .ref (q 13), .ref (q 14), .ref (q 15), .ref (q 16), .ref (q 17)])), (q 10, .inr (1, [.ref (q 11), .ref (q 12), .int (X 1)])), (q 11, .inl (cI, 8, .inl (F 7))), (q 12, .inl (cI, 64, .inl (F 8))), (q 13, .inl (cI, 64, .inl (F 9))), (q 14, .inl (cI, 64, .inl (F 10))), (q 15, .inl (cI, 32, .inl (F 11))), (q 16, .inl (cI, 8, .inl (F 12))), (q 17, .inl (cI, 8, .inl (F 13)))] := hD
  rcases hy with ⟨k, hk9, rfl, rfl⟩ | ⟨h1, rfl⟩
  · refine lv_if_ne (tgt := 9) hx hb d_KeyMaker_sum_4 (by decide) (fun _ => ?_) (fun hc => absurd hc (by decide))
    refine lv_aload_n hx hb d_KeyMaker_sum_9 rfl (lv_at hl 0 rfl) ?_
    refine va_get (D := G) (ci := 2) (v := .ref (q 6)) (C := R_KeyMaker) (T := F_KeyMaker) (N := 13) hx hb hts hi_KeyMaker hown hK hP 0 rfl rfl 5 (by decide) (hts _ tw_86) (fun _ h9 => h9) rfl d_KeyMaker_sum_10 ?_
    refine lv_aload_n hx hb d_KeyMaker_sum_13 rfl (lv_at hl 0 rfl) ?_
    refine va_get (D := G) (ci := 2) (v := .ref (q 1)) (C := R_KeyMaker) (T := F_KeyMaker) (N := 13) hx hb hts hi_KeyMaker hown hK hP 0 rfl rfl 0 (by decide) (hts _ tw_81) (fun _ h9 => h9) rfl d_KeyMaker_sum_14 ?_
    refine lv_aload_n hx hb d_KeyMaker_sum_17 rfl (lv_at hl 0 rfl) ?_
    refine va_get (D := G) (ci := 2) (v := .int (nI np)) (C := R_KeyMaker) (T := F_KeyMaker) (N := 13) hx hb hts hi_KeyMaker hown hK hP 0 rfl rfl 7 (by decide) (hts _ tw_88) (fun _ h9 => h9) rfl d_KeyMaker_sum_18 ?_
    refine lv_aload_n hx hb d_KeyMaker_sum_21 rfl (lv_at hl 0 rfl) ?_
    refine va_get (D := G) (ci := 2) (v := .ref (q 5)) (C := R_KeyMaker) (T := F_KeyMaker) (N := 13) hx hb hts hi_KeyMaker hown hK hP 0 rfl rfl 4 (by decide) (hts _ tw_85) (fun _ h9 => h9) rfl d_KeyMaker_sum_22 ?_
    refine xc_v (wr := [(q 0, .inr (2, [.ref (q 1), .ref (q 2), .ref (q 3), .ref (q 4), .ref (q 5), .ref (q 6), .ref (q 9), .int (nI np), .int (nI ns), .int (nI w), .int (nI c), .int (nI (d / c)), .int (nI (d % c))])), (q 2, .inl (cI, 84, .inl (F 1))), (q 3, .inl (cI, 128, .inl (F 2))), (q 4, .inl (cI, 32, .inl (F 3))), (q 9, .inr (0, [.ref (q 10), .ref (q 13), .ref (q 14), .ref (q 15), .ref (q 16), .ref (q 17)])), (q 10, .inr (1, [.ref (q 11), .ref (q 12), .int (X 1)])), (q 11, .inl (cI, 8, .inl (F 7))), (q 12, .inl (cI, 64, .inl (F 8))), (q 13, .inl (cI, 64, .inl (F 9))), (q 14, .inl (cI, 64, .inl (F 10))), (q 15, .inl (cI, 32, .inl (F 11))), (q 16, .inl (cI, 8, .inl (F 12))), (q 17, .inl (cI, 8, .inl (F 13)))]) (va_runV (As := [.ref (q 1), .int (nI np), .ref (q 5)]) (rest := []) ⟨hx, hb, hml, hown, hts⟩ (c_writeSum l G cI cB tK tH H.size (q 6) (q 7) (q 8) (q 1) (q 5) (F 5) (F 6) (F 0) (F 4) (X 0) np 150 32 (by omega) (by omega) (by omega) (by omega) (by omega) (kr_eq hC1 hA3)) (cwV 3 hts (xg_V tw_273 tw_156 tw_157 tw_18 tw_158) rfl rfl rfl (by decide +kernel) ⟨Nat.le_of_ble_eq_true rfl, Nat.le_of_ble_eq_true rfl⟩) (xc_preV hK hst hA hP hD hS [6, 7, 8, 1, 5] (by decide) rfl 6 rfl rfl) rfl rfl hl.1 rfl (lv_room (Nat.le_of_ble_eq_true rfl)) d_KeyMaker_sum_25 ⟨Nat.le_of_ble_eq_true rfl, Nat.le_of_ble_eq_true rfl⟩) hA hP hD hS [6, 7, 8, 1, 5] [0, 2, 3, 4, 9, 10, 11, 12, 13, 14, 15, 16, 17] rfl rfl (by decide) (by decide) (fun u4 H locs hp5 hP hD hS => ?_)
    obtain ⟨f5, w6, tk0⟩ := u4
    have hP : va_P G classes [(q 0, .inr (2, [.ref (q 1), .ref (q 2), .ref (q 3), .ref (q 4), .ref (q 5), .ref (q 6), .ref (q 9), .int (nI np), .int (nI ns), .int (nI w), .int (nI c), .int (nI (d / c)), .int (nI (d % c))])), (q 2, .inl (cI, 84, .inl (F 1))), (q 3, .inl (cI, 128, .inl (F 2))), (q 4, .inl (cI, 32, .inl (F 3))), (q 9, .inr (0, [.ref (q 10), .ref (q 13), .ref (q 14), .ref (q 15), .ref (q 16), .ref (q 17)])), (q 10, .inr (1, [.ref (q 11), .ref (q 12), .int (X 1)])), (q 11, .inl (cI, 8, .inl (F 7))), (q 12, .inl (cI, 64, .inl (F 8))), (q 13, .inl (cI, 64, .inl (F 9))), (q 14, .inl (cI, 64, .inl (F 10))), (q 15, .inl (cI, 32, .inl (F 11))), (q 16, .inl (cI, 8, .inl (F 12))), (q 17, .inl (cI, 8, .inl (F 13))), (q 6, .inr (1, [.ref (q 7), .ref (q 8), .int tk0])), (q 7, .inl (cI, 8, .inl f5)), (q 8, .inl (cI, 64, .inl w6)), (q 1, .inl (cI, 150, .inl (F 0))), (q 5, .inl (cI, 32, .inl (km_sum (F 0) np (F 4))))] H := hP
    have hD : va_D A [(q 0, .inr (2, [.ref (q 1), .ref (q 2), .ref (q 3), .ref (q 4), .ref (q 5), .ref (q 6), .ref (q 9), .int (nI np), .int (nI ns), .int (nI w), .int (nI c), .int (nI (d / c)), .int (nI (d % c))])), (q 2, .inl (cI, 84, .inl (F 1))), (q 3, .inl (cI, 128, .inl (F 2))), (q 4, .inl (cI, 32, .inl (F 3))), (q 9, .inr (0, [.ref (q 10), .ref (q 13), .ref (q 14), .ref (q 15), .ref (q 16), .ref (q 17)])), (q 10, .inr (1, [.ref (q 11), .ref (q 12), .int (X 1)])), (q 11, .inl (cI, 8, .inl (F 7))), (q 12, .inl (cI, 64, .inl (F 8))), (q 13, .inl (cI, 64, .inl (F 9))), (q 14, .inl (cI, 64, .inl (F 10))), (q 15, .inl (cI, 32, .inl (F 11))), (q 16, .inl (cI, 8, .inl (F 12))), (q 17, .inl (cI, 8, .inl (F 13))), (q 6, .inr (1, [.ref (q 7), .ref (q 8), .int tk0])), (q 7, .inl (cI, 8, .inl f5)), (q 8, .inl (cI, 64, .inl w6)), (q 1, .inl (cI, 150, .inl (F 0))), (q 5, .inl (cI, 32, .inl (km_sum (F 0) np (F 4))))] := hD
    refine lv_aload_n hx hb d_KeyMaker_sum_28 rfl (lv_at hl 0 rfl) ?_
    refine va_get (D := G) (ci := 2) (v := .ref (q 5)) (C := R_KeyMaker) (T := F_KeyMaker) (N := 13) hx hb hts hi_KeyMaker hown hK hP 0 rfl rfl 4 (by decide) (hts _ tw_85) (fun _ h9 => h9) rfl d_KeyMaker_sum_29 ?_
    refine lv_iload_n hx hb d_KeyMaker_sum_32 rfl (lv_at hl 1 rfl) ?_
    refine xa_iald (k := k) (f := km_sum (F 0) np (F 4)) hx hb hK hP 17 0 rfl rfl (by omega) (by omega) d_KeyMaker_sum_33 ?_
    refine lv_topi (fun y7 ey7 => ?_)
    obtain rfl : y7 = km_s p np k := ey7.trans ((km_sum_lo _ _ _ hk9).trans (congrFun (km_s_congr hC1) k))
    have hk : ka_sum (nI k) (p, np, s, ns, c, w, d) = (km_s p np k, (p, np, s, ns, c, w, d)) := ka_sum_pos hk9
    exact xe_i ((p, np, s, ns, c, w, d), (fun z => match z with | 0 => F 0 | 1 => F 1 | 2 => F 2 | 3 => F 3 | 4 => km_sum (F 0) np (F 4) | 5 => f5 | 6 => w6 | 7 => F 7 | 8 => F 8 | 9 => F 9 | 10 => F 10 | 11 => F 11 | 12 => F 12 | _ => F 13), (fun z => match z with | 0 => tk0 | _ => X 1)) hx hb hr hlk hK (⟨by rw [hk], by rw [hk], kC_same hC0 rfl rfl rfl rfl rfl rfl⟩) (hP.sub (ws' := [(q 0, .inr (2, [.ref (q 1), .ref (q 2), .ref (q 3), .ref (q 4), .ref (q 5), .ref (q 6), .ref (q 9), .int (nI np), .int (nI ns), .int (nI w), .int (nI c), .int (nI (d / c)), .int (nI (d % c))])), (q 1, .inl (cI, 150, .inl (F 0))), (q 2, .inl (cI, 84, .inl (F 1))), (q 3, .inl (cI, 128, .inl (F 2))), (q 4, .inl (cI, 32, .inl (F 3))), (q 5, .inl (cI, 32, .inl (km_sum (F 0) np (F 4)))), (q 6, .inr (1, [.ref (q 7), .ref (q 8), .int tk0])), (q 7, .inl (cI, 8, .inl f5)), (q 8, .inl (cI, 64, .inl w6)), (q 9, .inr (0, [.ref (q 10), .ref (q 13), .ref (q 14), .ref (q 15), .ref (q 16), .ref (q 17)])), (q 10, .inr (1, [.ref (q 11), .ref (q 12), .int (X 1)])), (q 11, .inl (cI, 8, .inl (F 7))), (q 12, .inl (cI, 64, .inl (F 8))), (q 13, .inl (cI, 64, .inl (F 9))), (q 14, .inl (cI, 64, .inl (F 10))), (q 15, .inl (cI, 32, .inl (F 11))), (q 16, .inl (cI, 8, .inl (F 12))), (q 17, .inl (cI, 8, .inl (F 13)))]) [0, 16, 1, 2, 3, 17, 13, 14, 15, 4, 5, 6, 7, 8, 9, 10, 11, 12] rfl) (hD.sub (ws' := [(q 0, .inr (2, [.ref (q 1), .ref (q 2), .ref (q 3), .ref (q 4), .ref (q 5), .ref (q 6), .ref (q 9), .int (nI np), .int (nI ns), .int (nI w), .int (nI c), .int (nI (d / c)), .int (nI (d % c))])), (q 1, .inl (cI, 150, .inl (F 0))), (q 2, .inl (cI, 84, .inl (F 1))), (q 3, .inl (cI, 128, .inl (F 2))), (q 4, .inl (cI, 32, .inl (F 3))), (q 5, .inl (cI, 32, .inl (km_sum (F 0) np (F 4)))), (q 6, .inr (1, [.ref (q 7), .ref (q 8), .int tk0])), (q 7, .inl (cI, 8, .inl f5)), (q 8, .inl (cI, 64, .inl w6)), (q 9, .inr (0, [.ref (q 10), .ref (q 13), .ref (q 14), .ref (q 15), .ref (q 16), .ref (q 17)])), (q 10, .inr (1, [.ref (q 11), .ref (q 12), .int (X 1)])), (q 11, .inl (cI, 8, .inl (F 7))), (q 12, .inl (cI, 64, .inl (F 8))), (q 13, .inl (cI, 64, .inl (F 9))), (q 14, .inl (cI, 64, .inl (F 10))), (q 15, .inl (cI, 32, .inl (F 11))), (q 16, .inl (cI, 8, .inl (F 12))), (q 17, .inl (cI, 8, .inl (F 13)))]) [0, 16, 1, 2, 3, 17, 13, 14, 15, 4, 5, 6, 7, 8, 9, 10, 11, 12] (by decide) rfl) hS d_KeyMaker_sum_34 (by decide) (by decide)
  · refine lv_if_ne (tgt := 9) hx hb d_KeyMaker_sum_4 (by decide) (fun hc => absurd hc (by decide)) (fun _ => ?_)
    refine lv_iconst (v := (-1)) hx hb d_KeyMaker_sum_7 (by decide) ?_
    have hk : ka_sum i (p, np, s, ns, c, w, d) = (-1, (p, np, s, ns, c, w, d)) := ka_sum_neg h1
    exact xe_i ((p, np, s, ns, c, w, d), (fun z => match z with | 0 => F 0 | 1 => F 1 | 2 => F 2 | 3 => F 3 | 4 => F 4 | 5 => F 5 | 6 => F 6 | 7 => F 7 | 8 => F 8 | 9 => F 9 | 10 => F 10 | 11 => F 11 | 12 => F 12 | _ => F 13), (fun z => match z with | 0 => X 0 | _ => X 1)) hx hb hr hlk hK (⟨by rw [hk], by rw [hk], kC_same hC0 rfl rfl rfl rfl rfl rfl⟩) hP hD hS d_KeyMaker_sum_8 (by decide) (by decide)
set_option maxHeartbeats 4000000 in
set_option maxRecDepth 100000 in
theorem c_kmark (l : Launch) (G : va_G) (cI cB : ClassId) (tK tH sz : Nat) (q : Nat → Nat) (p s : Nat → Int32) (np ns c w d : Nat) (F : Nat → Nat → Int32) (X : Nat → Int32) (i : Int32) (hAb : kA_ok (p, np, s, ns, c, w, d)) (hC : kC (p, np, s, ns, c, w, d) F) : xMi l G cI cB tK tH y_KeyMaker_mark b_KeyMaker_mark 2 (some .int) ({ frames := 7, cells := 0, slots := 0, locals := 165 }) [.ref (q 0), .int i] sz [(q 0, .inr (2, [.ref (q 1), .ref (q 2), .ref (q 3), .ref (q 4), .ref (q 5), .ref (q 6), .ref (q 9), .int (nI np), .int (nI ns), .int (nI w), .int (nI c), .int (nI (d / c)), .int (nI (d % c))])), (q 1, .inl (cI, 150, .inl (F 0))), (q 2, .inl (cI, 84, .inl (F 1))), (q 3, .inl (cI, 128, .inl (F 2))), (q 4, .inl (cI, 32, .inl (F 3))), (q 5, .inl (cI, 32, .inl (F 4))), (q 6, .inr (1, [.ref (q 7), .ref (q 8), .int (X 0)])), (q 7, .inl (cI, 8, .inl (F 5))), (q 8, .inl (cI, 64, .inl (F 6))), (q 9, .inr (0, [.ref (q 10), .ref (q 13), .ref (q 14), .ref (q 15), .ref (q 16), .ref (q 17)])), (q 10, .inr (1, [.ref (q 11), .ref (q 12), .int (X 1)])), (q 11, .inl (cI, 8, .inl (F 7))), (q 12, .inl (cI, 64, .inl (F 8))), (q 13, .inl (cI, 64, .inl (F 9))), (q 14, .inl (cI, 64, .inl (F 10))), (q 15, .inl (cI, 32, .inl (F 11))), (q 16, .inl (cI, 8, .inl (F 12))), (q 17, .inl (cI, 8, .inl (F 13)))] (fun r u => r = (ka_mark i (p, np, s, ns, c, w, d)).1 ∧ u.1 = (ka_mark i (p, np, s, ns, c, w, d)).2 ∧ kC u.1 u.2.1) (fun u : kA × (Nat → Nat → Int32) × (Nat → Int32) => [(q 0, .inr (2, [.ref (q 1), .ref (q 2), .ref (q 3), .ref (q 4), .ref (q 5), .ref (q 6), .ref (q 9), .int (nI u.1.2.1), .int (nI u.1.2.2.2.1), .int (nI u.1.2.2.2.2.2.1), .int (nI u.1.2.2.2.2.1), .int (nI (u.1.2.2.2.2.2.2 / u.1.2.2.2.2.1)), .int (nI (u.1.2.2.2.2.2.2 % u.1.2.2.2.2.1))])), (q 1, .inl (cI, 150, .inl (u.2.1 0))), (q 2, .inl (cI, 84, .inl (u.2.1 1))), (q 3, .inl (cI, 128, .inl (u.2.1 2))), (q 4, .inl (cI, 32, .inl (u.2.1 3))), (q 5, .inl (cI, 32, .inl (u.2.1 4))), (q 6, .inr (1, [.ref (q 7), .ref (q 8), .int (u.2.2 0)])), (q 7, .inl (cI, 8, .inl (u.2.1 5))), (q 8, .inl (cI, 64, .inl (u.2.1 6))), (q 9, .inr (0, [.ref (q 10), .ref (q 13), .ref (q 14), .ref (q 15), .ref (q 16), .ref (q 17)])), (q 10, .inr (1, [.ref (q 11), .ref (q 12), .int (u.2.2 1)])), (q 11, .inl (cI, 8, .inl (u.2.1 7))), (q 12, .inl (cI, 64, .inl (u.2.1 8))), (q 13, .inl (cI, 64, .inl (u.2.1 9))), (q 14, .inl (cI, 64, .inl (u.2.1 10))), (q 15, .inl (cI, 32, .inl (u.2.1 11))), (q 16, .inl (cI, 8, .inl (u.2.1 12))), (q 17, .inl (cI, 8, .inl (u.2.1 13)))]) := by
  refine xMi.of (lv := [(0, .ref (q 0)), (1, .int i)]) (by decide) (Nat.le_of_ble_eq_true rfl) rfl ?_
  intro pp ee ss mm bel met cod A ls H locs hx hb hml hr hlk hts hown hnm hA hK hst hP hD hS hl
  have hown : ss.vm.findClass R_KeyMaker = some mm.cls := hown
  have hA0 := hAb
  have hC0 := hC
  obtain ⟨hA1, hA2, hA3, hA4, hA5, hA6, hA7, hA8, hA9⟩ := hAb
  obtain ⟨hC1, hC2, hC3⟩ := hC
  have hcd := kA_c0 hA0
  have hka := kt_all_le hA6 hA5
  have hdc := Nat.div_le_self d c
  refine lv_iload_n hx hb d_KeyMaker_mark_0 rfl (lv_at hl 1 rfl) ?_
  refine xc_i (wr := [(q 0, .inr (2, [.ref (q 1), .ref (q 2), .ref (q 3), .ref (q 4), .ref (q 5), .ref (q 6), .ref (q 9), .int (nI np), .int (nI ns), .int (nI w), .int (nI c), .int (nI (d / c)), .int (nI (d % c))])), (q 1, .inl (cI, 150, .inl (F 0))), (q 2, .inl (cI, 84, .inl (F 1))), (q 3, .inl (cI, 128, .inl (F 2))), (q 4, .inl (cI, 32, .inl (F 3))), (q 5, .inl (cI, 32, .inl (F 4))), (q 6, .inr (1, [.ref (q 7), .ref (q 8), .int (X 0)])), (q 7, .inl (cI, 8, .inl (F 5))), (q 8, .inl (cI, 64, .inl (F 6))), (q 9, .inr (0, [.ref (q 10), .ref (q 13), .ref (q 14), .ref (q 15), .ref (q 16), .ref (q 17)])), (q 10, .inr (1, [.ref (q 11), .ref (q 12), .int (X 1)])), (q 11, .inl (cI, 8, .inl (F 7))), (q 12, .inl (cI, 64, .inl (F 8))), (q 13, .inl (cI, 64, .inl (F 9))), (q 14, .inl (cI, 64, .inl (F 10))), (q 15, .inl (cI, 32, .inl (F 11))), (q 16, .inl (cI, 8, .inl (F 12))), (q 17, .inl (cI, 8, .inl (F 13)))]) (va_runS (As := [.int i]) (rest := []) ⟨hx, hb, hml, hown, hts⟩ (c_isPlace l G cI cB tK tH H.size i ) (va_cwS 1 hts (xg_S tw_270 tw_271 tw_17 tw_272) rfl rfl rfl (by decide +kernel) ⟨Nat.le_of_ble_eq_true rfl, Nat.le_of_ble_eq_true rfl⟩) (xc_pre hK hst hA hP hD hS [] (by decide) rfl [.int i]) rfl rfl hl.1 rfl (lv_room (Nat.le_of_ble_eq_true rfl)) d_KeyMaker_mark_1 ⟨Nat.le_of_ble_eq_true rfl, Nat.le_of_ble_eq_true rfl⟩) hA hP hD hS [] [0, 1, 2, 3, 4, 5, 6, 7, 8, 9, 10, 11, 12, 13, 14, 15, 16, 17] rfl rfl (by decide) (by decide) (fun r2 u1 H locs hy hP hD hS => ?_)
  have hP : va_P G classes [(q 0, .inr (2, [.ref (q 1), .ref (q 2), .ref (q 3), .ref (q 4), .ref (q 5), .ref (q 6), .ref (q 9), .int (nI np), .int (nI ns), .int (nI w), .int (nI c), .int (nI (d / c)), .int (nI (d % c))])), (q 1, .inl (cI, 150, .inl (F 0))), (q 2, .inl (cI, 84, .inl (F 1))), (q 3, .inl (cI, 128, .inl (F 2))), (q 4, .inl (cI, 32, .inl (F 3))), (q 5, .inl (cI, 32, .inl (F 4))), (q 6, .inr (1, [.ref (q 7), .ref (q 8), .int (X 0)])), (q 7, .inl (cI, 8, .inl (F 5))), (q 8, .inl (cI, 64, .inl (F 6))), (q 9, .inr (0, [.ref (q 10), .ref (q 13), .ref (q 14), .ref (q 15), .ref (q 16), .ref (q 17)])), (q 10, .inr (1, [.ref (q 11), .ref (q 12), .int (X 1)])), (q 11, .inl (cI, 8, .inl (F 7))), (q 12, .inl (cI, 64, .inl (F 8))), (q 13, .inl (cI, 64, .inl (F 9))), (q 14, .inl (cI, 64, .inl (F 10))), (q 15, .inl (cI, 32, .inl (F 11))), (q 16, .inl (cI, 8, .inl (F 12))), (q 17, .inl (cI, 8, .inl (F 13)))] H := hP
  have hD : va_D A [(q 0, .inr (2, [.ref (q 1), .ref (q 2), .ref (q 3), .ref (q 4), .ref (q 5), .ref (q 6), .ref (q 9), .int (nI np), .int (nI ns), .int (nI w), .int (nI c), .int (nI (d / c)), .int (nI (d % c))])), (q 1, .inl (cI, 150, .inl (F 0))), (q 2, .inl (cI, 84, .inl (F 1))), (q 3, .inl (cI, 128, .inl (F 2))), (q 4, .inl (cI, 32, .inl (F 3))), (q 5, .inl (cI, 32, .inl (F 4))), (q 6, .inr (1, [.ref (q 7), .ref (q 8), .int (X 0)])), (q 7, .inl (cI, 8, .inl (F 5))), (q 8, .inl (cI, 64, .inl (F 6))), (q 9, .inr (0, [.ref (q 10), .ref (q 13), .ref (q 14), .ref (q 15), .ref (q 16), .ref (q 17)])), (q 10, .inr (1, [.ref (q 11), .ref (q 12), .int (X 1)])), (q 11, .inl (cI, 8, .inl (F 7))), (q 12, .inl (cI, 64, .inl (F 8))), (q 13, .inl (cI, 64, .inl (F 9))), (q 14, .inl (cI, 64, .inl (F 10))), (q 15, .inl (cI, 32, .inl (F 11))), (q 16, .inl (cI, 8, .inl (F 12))), (q 17, .inl (cI, 8, .inl (F 13)))] := hD
  rcases hy with ⟨k, hk9, rfl, rfl⟩ | ⟨h1, rfl⟩
  · refine lv_if_ne (tgt := 9) hx hb d_KeyMaker_mark_4 (by decide) (fun _ => ?_) (fun hc => absurd hc (by decide))
    refine lv_aload_n hx hb d_KeyMaker_mark_9 rfl (lv_at hl 0 rfl) ?_
    refine va_get (D := G) (ci := 2) (v := .ref (q 9)) (C := R_KeyMaker) (T := F_KeyMaker) (N := 13) hx hb hts hi_KeyMaker hown hK hP 0 rfl rfl 6 (by decide) (hts _ tw_87) (fun _ h9 => h9) rfl d_KeyMaker_mark_10 ?_
    refine lv_aload_n hx hb d_KeyMaker_mark_13 rfl (lv_at hl 0 rfl) ?_
    refine va_get (D := G) (ci := 2) (v := .ref (q 1)) (C := R_KeyMaker) (T := F_KeyMaker) (N := 13) hx hb hts hi_KeyMaker hown hK hP 0 rfl rfl 0 (by decide) (hts _ tw_81) (fun _ h9 => h9) rfl d_KeyMaker_mark_14 ?_
    refine lv_aload_n hx hb d_KeyMaker_mark_17 rfl (lv_at hl 0 rfl) ?_
    refine va_get (D := G) (ci := 2) (v := .int (nI np)) (C := R_KeyMaker) (T := F_KeyMaker) (N := 13) hx hb hts hi_KeyMaker hown hK hP 0 rfl rfl 7 (by decide) (hts _ tw_88) (fun _ h9 => h9) rfl d_KeyMaker_mark_18 ?_
    refine xc_v (wr := [(q 0, .inr (2, [.ref (q 1), .ref (q 2), .ref (q 3), .ref (q 4), .ref (q 5), .ref (q 6), .ref (q 9), .int (nI np), .int (nI ns), .int (nI w), .int (nI c), .int (nI (d / c)), .int (nI (d % c))])), (q 2, .inl (cI, 84, .inl (F 1))), (q 3, .inl (cI, 128, .inl (F 2))), (q 4, .inl (cI, 32, .inl (F 3))), (q 5, .inl (cI, 32, .inl (F 4))), (q 6, .inr (1, [.ref (q 7), .ref (q 8), .int (X 0)])), (q 7, .inl (cI, 8, .inl (F 5))), (q 8, .inl (cI, 64, .inl (F 6))), (q 15, .inl (cI, 32, .inl (F 11)))]) (va_runV (As := [.ref (q 1), .int (nI np)]) (rest := []) ⟨hx, hb, hml, hown, hts⟩ (c_takeKey l G cI cB tK tH H.size (q 9) (q 10) (q 11) (q 12) (q 13) (q 14) (q 15) (q 16) (q 17) (q 1) (F 7) (F 8) (F 9) (F 10) (F 12) (F 13) (F 0) (X 1) np 150 (by omega) (by omega) (by omega) (kr_eq hC1 hA3)) (cwV 2 hts (xg_V tw_150 tw_151 tw_152 tw_19 tw_153) rfl rfl rfl (by decide +kernel) ⟨Nat.le_of_ble_eq_true rfl, Nat.le_of_ble_eq_true rfl⟩) (xc_preV hK hst hA hP hD hS [9, 10, 11, 12, 13, 14, 16, 17, 1] (by decide) rfl 9 rfl rfl) rfl rfl hl.1 rfl (lv_room (Nat.le_of_ble_eq_true rfl)) d_KeyMaker_mark_21 ⟨Nat.le_of_ble_eq_true rfl, Nat.le_of_ble_eq_true rfl⟩) hA hP hD hS [9, 10, 11, 12, 13, 14, 16, 17, 1] [0, 2, 3, 4, 5, 6, 7, 8, 15] rfl rfl (by decide) (by decide) (fun u4 H locs hp5 hP hD hS => ?_)
    obtain ⟨f7, w8, tk1, k9, b10⟩ := u4
    have hP : va_P G classes [(q 0, .inr (2, [.ref (q 1), .ref (q 2), .ref (q 3), .ref (q 4), .ref (q 5), .ref (q 6), .ref (q 9), .int (nI np), .int (nI ns), .int (nI w), .int (nI c), .int (nI (d / c)), .int (nI (d % c))])), (q 2, .inl (cI, 84, .inl (F 1))), (q 3, .inl (cI, 128, .inl (F 2))), (q 4, .inl (cI, 32, .inl (F 3))), (q 5, .inl (cI, 32, .inl (F 4))), (q 6, .inr (1, [.ref (q 7), .ref (q 8), .int (X 0)])), (q 7, .inl (cI, 8, .inl (F 5))), (q 8, .inl (cI, 64, .inl (F 6))), (q 15, .inl (cI, 32, .inl (F 11))), (q 9, .inr (0, [.ref (q 10), .ref (q 13), .ref (q 14), .ref (q 15), .ref (q 16), .ref (q 17)])), (q 10, .inr (1, [.ref (q 11), .ref (q 12), .int tk1])), (q 11, .inl (cI, 8, .inl f7)), (q 12, .inl (cI, 64, .inl w8)), (q 13, .inl (cI, 64, .inl k9)), (q 14, .inl (cI, 64, .inl b10)), (q 16, .inl (cI, 8, .inl (km_h (km_kx (F 0) np 54) 1))), (q 17, .inl (cI, 8, .inl (km_h (km_kx (F 0) np 92) 1))), (q 1, .inl (cI, 150, .inl (F 0)))] H := hP
    have hD : va_D A [(q 0, .inr (2, [.ref (q 1), .ref (q 2), .ref (q 3), .ref (q 4), .ref (q 5), .ref (q 6), .ref (q 9), .int (nI np), .int (nI ns), .int (nI w), .int (nI c), .int (nI (d / c)), .int (nI (d % c))])), (q 2, .inl (cI, 84, .inl (F 1))), (q 3, .inl (cI, 128, .inl (F 2))), (q 4, .inl (cI, 32, .inl (F 3))), (q 5, .inl (cI, 32, .inl (F 4))), (q 6, .inr (1, [.ref (q 7), .ref (q 8), .int (X 0)])), (q 7, .inl (cI, 8, .inl (F 5))), (q 8, .inl (cI, 64, .inl (F 6))), (q 15, .inl (cI, 32, .inl (F 11))), (q 9, .inr (0, [.ref (q 10), .ref (q 13), .ref (q 14), .ref (q 15), .ref (q 16), .ref (q 17)])), (q 10, .inr (1, [.ref (q 11), .ref (q 12), .int tk1])), (q 11, .inl (cI, 8, .inl f7)), (q 12, .inl (cI, 64, .inl w8)), (q 13, .inl (cI, 64, .inl k9)), (q 14, .inl (cI, 64, .inl b10)), (q 16, .inl (cI, 8, .inl (km_h (km_kx (F 0) np 54) 1))), (q 17, .inl (cI, 8, .inl (km_h (km_kx (F 0) np 92) 1))), (q 1, .inl (cI, 150, .inl (F 0)))] := hD
    refine lv_aload_n hx hb d_KeyMaker_mark_24 rfl (lv_at hl 0 rfl) ?_
    refine va_get (D := G) (ci := 2) (v := .ref (q 9)) (C := R_KeyMaker) (T := F_KeyMaker) (N := 13) hx hb hts hi_KeyMaker hown hK hP 0 rfl rfl 6 (by decide) (hts _ tw_87) (fun _ h9 => h9) rfl d_KeyMaker_mark_25 ?_
    refine lv_aload_n hx hb d_KeyMaker_mark_28 rfl (lv_at hl 0 rfl) ?_
    refine va_get (D := G) (ci := 2) (v := .ref (q 2)) (C := R_KeyMaker) (T := F_KeyMaker) (N := 13) hx hb hts hi_KeyMaker hown hK hP 0 rfl rfl 1 (by decide) (hts _ tw_82) (fun _ h9 => h9) rfl d_KeyMaker_mark_29 ?_
    refine lv_aload_n hx hb d_KeyMaker_mark_32 rfl (lv_at hl 0 rfl) ?_
    refine va_get (D := G) (ci := 2) (v := .int (nI ns)) (C := R_KeyMaker) (T := F_KeyMaker) (N := 13) hx hb hts hi_KeyMaker hown hK hP 0 rfl rfl 8 (by decide) (hts _ tw_89) (fun _ h9 => h9) rfl d_KeyMaker_mark_33 ?_
    refine lv_aload_n hx hb d_KeyMaker_mark_36 rfl (lv_at hl 0 rfl) ?_
    refine va_get (D := G) (ci := 2) (v := .ref (q 5)) (C := R_KeyMaker) (T := F_KeyMaker) (N := 13) hx hb hts hi_KeyMaker hown hK hP 0 rfl rfl 4 (by decide) (hts _ tw_85) (fun _ h9 => h9) rfl d_KeyMaker_mark_37 ?_
    refine xc_v (wr := [(q 0, .inr (2, [.ref (q 1), .ref (q 2), .ref (q 3), .ref (q 4), .ref (q 5), .ref (q 6), .ref (q 9), .int (nI np), .int (nI ns), .int (nI w), .int (nI c), .int (nI (d / c)), .int (nI (d % c))])), (q 3, .inl (cI, 128, .inl (F 2))), (q 4, .inl (cI, 32, .inl (F 3))), (q 6, .inr (1, [.ref (q 7), .ref (q 8), .int (X 0)])), (q 7, .inl (cI, 8, .inl (F 5))), (q 8, .inl (cI, 64, .inl (F 6))), (q 13, .inl (cI, 64, .inl k9)), (q 14, .inl (cI, 64, .inl b10)), (q 1, .inl (cI, 150, .inl (F 0)))]) (va_runV (As := [.ref (q 2), .int (nI ns), .ref (q 5)]) (rest := []) ⟨hx, hb, hml, hown, hts⟩ (c_markA l G cI cB tK tH H.size (q 9) (q 10) (q 11) (q 12) (q 13) (q 14) (q 15) (q 16) (q 17) (q 2) (q 5) f7 w8 (F 11) (F 0) (F 1) (F 4) tk1 np ns 84 (by omega) (kr_eq hC1 hA3) (kr_eq hC2 hA4) (by omega) (by omega)) (cwV 3 hts (xg_V tw_230 tw_231 tw_232 tw_19 tw_233) rfl rfl rfl (by decide +kernel) ⟨Nat.le_of_ble_eq_true rfl, Nat.le_of_ble_eq_true rfl⟩) (xc_preV hK hst hA hP hD hS [9, 10, 11, 12, 8, 15, 16, 1, 4] (by decide) rfl 9 rfl rfl) rfl rfl hl.1 rfl (lv_room (Nat.le_of_ble_eq_true rfl)) d_KeyMaker_mark_40 ⟨Nat.le_of_ble_eq_true rfl, Nat.le_of_ble_eq_true rfl⟩) hA hP hD hS [9, 10, 11, 12, 8, 15, 16, 1, 4] [0, 2, 3, 5, 6, 7, 13, 14, 17] rfl rfl (by decide) (by decide) (fun u7 H locs hp8 hP hD hS => ?_)
    obtain ⟨f2, w2, tk2, i2⟩ := u7
    have hP : va_P G classes [(q 0, .inr (2, [.ref (q 1), .ref (q 2), .ref (q 3), .ref (q 4), .ref (q 5), .ref (q 6), .ref (q 9), .int (nI np), .int (nI ns), .int (nI w), .int (nI c), .int (nI (d / c)), .int (nI (d % c))])), (q 3, .inl (cI, 128, .inl (F 2))), (q 4, .inl (cI, 32, .inl (F 3))), (q 6, .inr (1, [.ref (q 7), .ref (q 8), .int (X 0)])), (q 7, .inl (cI, 8, .inl (F 5))), (q 8, .inl (cI, 64, .inl (F 6))), (q 13, .inl (cI, 64, .inl k9)), (q 14, .inl (cI, 64, .inl b10)), (q 1, .inl (cI, 150, .inl (F 0))), (q 9, .inr (0, [.ref (q 10), .ref (q 13), .ref (q 14), .ref (q 15), .ref (q 16), .ref (q 17)])), (q 10, .inr (1, [.ref (q 11), .ref (q 12), .int tk2])), (q 11, .inl (cI, 8, .inl f2)), (q 12, .inl (cI, 64, .inl w2)), (q 15, .inl (cI, 32, .inl i2)), (q 16, .inl (cI, 8, .inl (km_h (km_kx (F 0) np 54) 1))), (q 17, .inl (cI, 8, .inl (km_h (km_kx (F 0) np 92) 1))), (q 2, .inl (cI, 84, .inl (F 1))), (q 5, .inl (cI, 32, .inl (km_mk (F 0) np (F 1) ns)))] H := hP
    have hD : va_D A [(q 0, .inr (2, [.ref (q 1), .ref (q 2), .ref (q 3), .ref (q 4), .ref (q 5), .ref (q 6), .ref (q 9), .int (nI np), .int (nI ns), .int (nI w), .int (nI c), .int (nI (d / c)), .int (nI (d % c))])), (q 3, .inl (cI, 128, .inl (F 2))), (q 4, .inl (cI, 32, .inl (F 3))), (q 6, .inr (1, [.ref (q 7), .ref (q 8), .int (X 0)])), (q 7, .inl (cI, 8, .inl (F 5))), (q 8, .inl (cI, 64, .inl (F 6))), (q 13, .inl (cI, 64, .inl k9)), (q 14, .inl (cI, 64, .inl b10)), (q 1, .inl (cI, 150, .inl (F 0))), (q 9, .inr (0, [.ref (q 10), .ref (q 13), .ref (q 14), .ref (q 15), .ref (q 16), .ref (q 17)])), (q 10, .inr (1, [.ref (q 11), .ref (q 12), .int tk2])), (q 11, .inl (cI, 8, .inl f2)), (q 12, .inl (cI, 64, .inl w2)), (q 15, .inl (cI, 32, .inl i2)), (q 16, .inl (cI, 8, .inl (km_h (km_kx (F 0) np 54) 1))), (q 17, .inl (cI, 8, .inl (km_h (km_kx (F 0) np 92) 1))), (q 2, .inl (cI, 84, .inl (F 1))), (q 5, .inl (cI, 32, .inl (km_mk (F 0) np (F 1) ns)))] := hD
    refine lv_aload_n hx hb d_KeyMaker_mark_43 rfl (lv_at hl 0 rfl) ?_
    refine va_get (D := G) (ci := 2) (v := .ref (q 5)) (C := R_KeyMaker) (T := F_KeyMaker) (N := 13) hx hb hts hi_KeyMaker hown hK hP 0 rfl rfl 4 (by decide) (hts _ tw_85) (fun _ h9 => h9) rfl d_KeyMaker_mark_44 ?_
    refine lv_iload_n hx hb d_KeyMaker_mark_47 rfl (lv_at hl 1 rfl) ?_
    refine xa_iald (k := k) (f := km_mk (F 0) np (F 1) ns) hx hb hK hP 17 0 rfl rfl (by omega) (by omega) d_KeyMaker_mark_48 ?_
    refine lv_topi (fun y10 ey10 => ?_)
    obtain rfl : y10 = km_mk p np s ns k := ey10.trans (congrFun (km_mk_congr hC1 hC2) k)
    have hk : ka_mark (nI k) (p, np, s, ns, c, w, d) = (km_mk p np s ns k, (p, np, s, ns, c, w, d)) := ka_mark_pos hk9
    exact xe_i ((p, np, s, ns, c, w, d), (fun z => match z with | 0 => F 0 | 1 => F 1 | 2 => F 2 | 3 => F 3 | 4 => km_mk (F 0) np (F 1) ns | 5 => F 5 | 6 => F 6 | 7 => f2 | 8 => w2 | 9 => k9 | 10 => b10 | 11 => i2 | 12 => km_h (km_kx (F 0) np 54) 1 | _ => km_h (km_kx (F 0) np 92) 1), (fun z => match z with | 0 => X 0 | _ => tk2)) hx hb hr hlk hK (⟨by rw [hk], by rw [hk], kC_mark hC0 rfl rfl rfl rfl rfl rfl⟩) (hP.sub (ws' := [(q 0, .inr (2, [.ref (q 1), .ref (q 2), .ref (q 3), .ref (q 4), .ref (q 5), .ref (q 6), .ref (q 9), .int (nI np), .int (nI ns), .int (nI w), .int (nI c), .int (nI (d / c)), .int (nI (d % c))])), (q 1, .inl (cI, 150, .inl (F 0))), (q 2, .inl (cI, 84, .inl (F 1))), (q 3, .inl (cI, 128, .inl (F 2))), (q 4, .inl (cI, 32, .inl (F 3))), (q 5, .inl (cI, 32, .inl (km_mk (F 0) np (F 1) ns))), (q 6, .inr (1, [.ref (q 7), .ref (q 8), .int (X 0)])), (q 7, .inl (cI, 8, .inl (F 5))), (q 8, .inl (cI, 64, .inl (F 6))), (q 9, .inr (0, [.ref (q 10), .ref (q 13), .ref (q 14), .ref (q 15), .ref (q 16), .ref (q 17)])), (q 10, .inr (1, [.ref (q 11), .ref (q 12), .int tk2])), (q 11, .inl (cI, 8, .inl f2)), (q 12, .inl (cI, 64, .inl w2)), (q 13, .inl (cI, 64, .inl k9)), (q 14, .inl (cI, 64, .inl b10)), (q 15, .inl (cI, 32, .inl i2)), (q 16, .inl (cI, 8, .inl (km_h (km_kx (F 0) np 54) 1))), (q 17, .inl (cI, 8, .inl (km_h (km_kx (F 0) np 92) 1)))]) [0, 8, 16, 1, 2, 17, 3, 4, 5, 9, 10, 11, 12, 6, 7, 13, 14, 15] rfl) (hD.sub (ws' := [(q 0, .inr (2, [.ref (q 1), .ref (q 2), .ref (q 3), .ref (q 4), .ref (q 5), .ref (q 6), .ref (q 9), .int (nI np), .int (nI ns), .int (nI w), .int (nI c), .int (nI (d / c)), .int (nI (d % c))])), (q 1, .inl (cI, 150, .inl (F 0))), (q 2, .inl (cI, 84, .inl (F 1))), (q 3, .inl (cI, 128, .inl (F 2))), (q 4, .inl (cI, 32, .inl (F 3))), (q 5, .inl (cI, 32, .inl (km_mk (F 0) np (F 1) ns))), (q 6, .inr (1, [.ref (q 7), .ref (q 8), .int (X 0)])), (q 7, .inl (cI, 8, .inl (F 5))), (q 8, .inl (cI, 64, .inl (F 6))), (q 9, .inr (0, [.ref (q 10), .ref (q 13), .ref (q 14), .ref (q 15), .ref (q 16), .ref (q 17)])), (q 10, .inr (1, [.ref (q 11), .ref (q 12), .int tk2])), (q 11, .inl (cI, 8, .inl f2)), (q 12, .inl (cI, 64, .inl w2)), (q 13, .inl (cI, 64, .inl k9)), (q 14, .inl (cI, 64, .inl b10)), (q 15, .inl (cI, 32, .inl i2)), (q 16, .inl (cI, 8, .inl (km_h (km_kx (F 0) np 54) 1))), (q 17, .inl (cI, 8, .inl (km_h (km_kx (F 0) np 92) 1)))]) [0, 8, 16, 1, 2, 17, 3, 4, 5, 9, 10, 11, 12, 6, 7, 13, 14, 15] (by decide) rfl) hS d_KeyMaker_mark_49 (by decide) (by decide)
  · refine lv_if_ne (tgt := 9) hx hb d_KeyMaker_mark_4 (by decide) (fun hc => absurd hc (by decide)) (fun _ => ?_)
    refine lv_iconst (v := (-1)) hx hb d_KeyMaker_mark_7 (by decide) ?_
    have hk : ka_mark i (p, np, s, ns, c, w, d) = (-1, (p, np, s, ns, c, w, d)) := ka_mark_neg h1
    exact xe_i ((p, np, s, ns, c, w, d), (fun z => match z with | 0 => F 0 | 1 => F 1 | 2 => F 2 | 3 => F 3 | 4 => F 4 | 5 => F 5 | 6 => F 6 | 7 => F 7 | 8 => F 8 | 9 => F 9 | 10 => F 10 | 11 => F 11 | 12 => F 12 | _ => F 13), (fun z => match z with | 0 => X 0 | _ => X 1)) hx hb hr hlk hK (⟨by rw [hk], by rw [hk], kC_same hC0 rfl rfl rfl rfl rfl rfl⟩) hP hD hS d_KeyMaker_mark_8 (by decide) (by decide)
set_option maxHeartbeats 4000000 in
set_option maxRecDepth 100000 in
theorem c_kword (l : Launch) (G : va_G) (cI cB : ClassId) (tK tH sz : Nat) (q : Nat → Nat) (p s : Nat → Int32) (np ns c w d : Nat) (F : Nat → Nat → Int32) (X : Nat → Int32) (which i : Int32)  : xMi l G cI cB tK tH y_KeyMaker_word b_KeyMaker_word 3 (some .int) ({ frames := 0, cells := 0, slots := 0, locals := 0 }) [.ref (q 0), .int which, .int i] sz [(q 0, .inr (2, [.ref (q 1), .ref (q 2), .ref (q 3), .ref (q 4), .ref (q 5), .ref (q 6), .ref (q 9), .int (nI np), .int (nI ns), .int (nI w), .int (nI c), .int (nI (d / c)), .int (nI (d % c))])), (q 1, .inl (cI, 150, .inl (F 0))), (q 2, .inl (cI, 84, .inl (F 1))), (q 3, .inl (cI, 128, .inl (F 2))), (q 4, .inl (cI, 32, .inl (F 3))), (q 5, .inl (cI, 32, .inl (F 4))), (q 6, .inr (1, [.ref (q 7), .ref (q 8), .int (X 0)])), (q 7, .inl (cI, 8, .inl (F 5))), (q 8, .inl (cI, 64, .inl (F 6))), (q 9, .inr (0, [.ref (q 10), .ref (q 13), .ref (q 14), .ref (q 15), .ref (q 16), .ref (q 17)])), (q 10, .inr (1, [.ref (q 11), .ref (q 12), .int (X 1)])), (q 11, .inl (cI, 8, .inl (F 7))), (q 12, .inl (cI, 64, .inl (F 8))), (q 13, .inl (cI, 64, .inl (F 9))), (q 14, .inl (cI, 64, .inl (F 10))), (q 15, .inl (cI, 32, .inl (F 11))), (q 16, .inl (cI, 8, .inl (F 12))), (q 17, .inl (cI, 8, .inl (F 13)))] (fun r _ => r = ka_word which i) (fun u : Unit => [(q 0, .inr (2, [.ref (q 1), .ref (q 2), .ref (q 3), .ref (q 4), .ref (q 5), .ref (q 6), .ref (q 9), .int (nI np), .int (nI ns), .int (nI w), .int (nI c), .int (nI (d / c)), .int (nI (d % c))])), (q 1, .inl (cI, 150, .inl (F 0))), (q 2, .inl (cI, 84, .inl (F 1))), (q 3, .inl (cI, 128, .inl (F 2))), (q 4, .inl (cI, 32, .inl (F 3))), (q 5, .inl (cI, 32, .inl (F 4))), (q 6, .inr (1, [.ref (q 7), .ref (q 8), .int (X 0)])), (q 7, .inl (cI, 8, .inl (F 5))), (q 8, .inl (cI, 64, .inl (F 6))), (q 9, .inr (0, [.ref (q 10), .ref (q 13), .ref (q 14), .ref (q 15), .ref (q 16), .ref (q 17)])), (q 10, .inr (1, [.ref (q 11), .ref (q 12), .int (X 1)])), (q 11, .inl (cI, 8, .inl (F 7))), (q 12, .inl (cI, 64, .inl (F 8))), (q 13, .inl (cI, 64, .inl (F 9))), (q 14, .inl (cI, 64, .inl (F 10))), (q 15, .inl (cI, 32, .inl (F 11))), (q 16, .inl (cI, 8, .inl (F 12))), (q 17, .inl (cI, 8, .inl (F 13)))]) := by
  refine xMi.of (lv := [(0, .ref (q 0)), (1, .int which), (2, .int i)]) (by decide) (Nat.le_of_ble_eq_true rfl) rfl ?_
  intro pp ee ss mm bel met cod A ls H locs hx hb hml hr hlk hts hown hnm hA hK hst hP hD hS hl
  have hown : ss.vm.findClass R_KeyMaker = some mm.cls := hown
  refine lv_iload_n hx hb d_KeyMaker_word_0 rfl (lv_at hl 1 rfl) ?_
  refine lv_if_ne (tgt := 22) hx hb d_KeyMaker_word_1 (by decide) (fun h1 => ?_) (fun h1 => ?_)
  · refine lv_iload_n hx hb d_KeyMaker_word_22 rfl (lv_at hl 1 rfl) ?_
    refine lv_iconst (v := 1) hx hb d_KeyMaker_word_23 (by decide) ?_
    refine lv_icmp_ne (tgt := 45) hx hb d_KeyMaker_word_24 (by decide) (fun h2 => ?_) (fun h2 => ?_)
    · refine lv_iconst (v := 0) hx hb d_KeyMaker_word_45 (by decide) ?_
      exact xe_i (()) hx hb hr hlk hK (by unfold ka_word; rw [if_neg (by intro z; obtain ⟨z1, z2, z3⟩ := z; first | contradiction | exact absurd z1 (by decide)), if_neg (by intro z; obtain ⟨z1, z2, z3⟩ := z; first | contradiction | exact absurd z1 (by decide))]) hP hD hS d_KeyMaker_word_46 (by decide) (by decide)
    · subst h2
      refine lv_iload_n hx hb d_KeyMaker_word_27 rfl (lv_at hl 2 rfl) ?_
      refine lv_if_lt (tgt := 45) hx hb d_KeyMaker_word_28 (by decide) (fun g1 => ?_) (fun g1 => ?_)
      · refine lv_iconst (v := 0) hx hb d_KeyMaker_word_45 (by decide) ?_
        exact xe_i (()) hx hb hr hlk hK (by unfold ka_word; rw [if_neg (by intro z; obtain ⟨z1, z2, z3⟩ := z; first | contradiction | exact absurd z1 (by decide)), if_neg (by intro z; obtain ⟨z1, z2, z3⟩ := z; first | contradiction | exact absurd z1 (by decide))]) hP hD hS d_KeyMaker_word_46 (by decide) (by decide)
      · refine lv_iload_n hx hb d_KeyMaker_word_31 rfl (lv_at hl 2 rfl) ?_
        refine va_gets hx hb hst.2.1 hS hown (hts _ tw_283) (fun _ h9 => h9) d_KeyMaker_word_32 ?_
        refine va_tlen (v := 8) hx hb hst.2.2.2.1 hS rfl d_KeyMaker_word_35 ?_
        refine lv_icmp_ge (tgt := 45) hx hb d_KeyMaker_word_36 (by decide) (fun g2 => ?_) (fun g2 => ?_)
        · have g2 := kn_ge (n := 8) (by decide) g2
          refine lv_iconst (v := 0) hx hb d_KeyMaker_word_45 (by decide) ?_
          exact xe_i (()) hx hb hr hlk hK (by unfold ka_word; rw [if_neg (by intro z; obtain ⟨z1, z2, z3⟩ := z; first | contradiction | exact absurd z1 (by decide)), if_neg (by intro z; obtain ⟨z1, z2, z3⟩ := z; first | contradiction | exact absurd z1 (by decide))]) hP hD hS d_KeyMaker_word_46 (by decide) (by decide)
        · obtain ⟨k, hk9, rfl⟩ := kn_lt (n := 8) (by decide) g1 g2
          refine va_gets hx hb hst.2.1 hS hown (hts _ tw_283) (fun _ h9 => h9) d_KeyMaker_word_39 ?_
          refine lv_iload_n hx hb d_KeyMaker_word_42 rfl (lv_at hl 2 rfl) ?_
          refine xa_ti (k := k) hx hb hst.2.2.2.1 hS (by omega) (by omega) d_KeyMaker_word_43 ?_
          exact xe_i (()) hx hb hr hlk hK (by unfold ka_word; rw [nI_clamp (by omega), if_neg (fun z => absurd z.1 (by decide)), if_pos ⟨rfl, nI_pos (by omega), hk9⟩]) hP hD hS d_KeyMaker_word_44 (by decide) (by decide)
  · subst h1
    refine lv_iload_n hx hb d_KeyMaker_word_4 rfl (lv_at hl 2 rfl) ?_
    refine lv_if_lt (tgt := 22) hx hb d_KeyMaker_word_5 (by decide) (fun g1 => ?_) (fun g1 => ?_)
    · refine lv_iload_n hx hb d_KeyMaker_word_22 rfl (lv_at hl 1 rfl) ?_
      refine lv_iconst (v := 1) hx hb d_KeyMaker_word_23 (by decide) ?_
      refine lv_icmp_ne (tgt := 45) hx hb d_KeyMaker_word_24 (by decide) (fun _ => ?_) (fun hc => absurd hc (by decide))
      refine lv_iconst (v := 0) hx hb d_KeyMaker_word_45 (by decide) ?_
      exact xe_i (()) hx hb hr hlk hK (by unfold ka_word; rw [if_neg (by intro z; obtain ⟨z1, z2, z3⟩ := z; first | contradiction | exact absurd z1 (by decide)), if_neg (by intro z; obtain ⟨z1, z2, z3⟩ := z; first | contradiction | exact absurd z1 (by decide))]) hP hD hS d_KeyMaker_word_46 (by decide) (by decide)
    · refine lv_iload_n hx hb d_KeyMaker_word_8 rfl (lv_at hl 2 rfl) ?_
      refine va_gets hx hb hst.1 hS hown (hts _ tw_282) (fun _ h9 => h9) d_KeyMaker_word_9 ?_
      refine va_tlen (v := 64) hx hb hst.2.2.1 hS rfl d_KeyMaker_word_12 ?_
      refine lv_icmp_ge (tgt := 22) hx hb d_KeyMaker_word_13 (by decide) (fun g2 => ?_) (fun g2 => ?_)
      · have g2 := kn_ge (n := 64) (by decide) g2
        refine lv_iload_n hx hb d_KeyMaker_word_22 rfl (lv_at hl 1 rfl) ?_
        refine lv_iconst (v := 1) hx hb d_KeyMaker_word_23 (by decide) ?_
        refine lv_icmp_ne (tgt := 45) hx hb d_KeyMaker_word_24 (by decide) (fun _ => ?_) (fun hc => absurd hc (by decide))
        refine lv_iconst (v := 0) hx hb d_KeyMaker_word_45 (by decide) ?_
        exact xe_i (()) hx hb hr hlk hK (by unfold ka_word; rw [if_neg (by intro z; obtain ⟨z1, z2, z3⟩ := z; first | contradiction | exact absurd z1 (by decide)), if_neg (by intro z; obtain ⟨z1, z2, z3⟩ := z; first | contradiction | exact absurd z1 (by decide))]) hP hD hS d_KeyMaker_word_46 (by decide) (by decide)
      · obtain ⟨k, hk9, rfl⟩ := kn_lt (n := 64) (by decide) g1 g2
        refine va_gets hx hb hst.1 hS hown (hts _ tw_282) (fun _ h9 => h9) d_KeyMaker_word_16 ?_
        refine lv_iload_n hx hb d_KeyMaker_word_19 rfl (lv_at hl 2 rfl) ?_
        refine xa_ti (k := k) hx hb hst.2.2.1 hS (by omega) (by omega) d_KeyMaker_word_20 ?_
        exact xe_i (()) hx hb hr hlk hK (by unfold ka_word; rw [nI_clamp (by omega), if_pos ⟨rfl, nI_pos (by omega), hk9⟩]) hP hD hS d_KeyMaker_word_21 (by decide) (by decide)
end
