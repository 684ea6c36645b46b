section
/-- a private method of a class that the tables say can be made, by its rows of tables_1 -/
def lw_okq (q : MethodName × Nat) : Prop := (q.1.cls ≠ "java/lang/invoke/MethodHandle" ∧ q.1.cls ≠ "java/lang/invoke/VarHandle") ∧ Cond.instantiable q.1.cls q.2 ∈ tables_1 ∧ Cond.privateMethod q.1 ∈ tables_1 ∧ Cond.instanceMethod q.1 ∈ tables_1
theorem lw_p0 : lw_okq (⟨"KeyMaker", "forgetAll", "()V"⟩, 13) := ⟨⟨by decide +kernel, by decide +kernel⟩, List.mem_of_getElem? (i := 10) (by decide +kernel), List.mem_of_getElem? (i := 62) (by decide +kernel), List.mem_of_getElem? (i := 63) (by decide +kernel)⟩
theorem lw_p1 : lw_okq (⟨"KeyMaker", "isStarted", "()Z"⟩, 13) := ⟨⟨by decide +kernel, by decide +kernel⟩, List.mem_of_getElem? (i := 10) (by decide +kernel), List.mem_of_getElem? (i := 113) (by decide +kernel), List.mem_of_getElem? (i := 114) (by decide +kernel)⟩
theorem lw_p2 : lw_okq (⟨"KeyMaker$Summer", "take", "(I)V"⟩, 3) := ⟨⟨by decide +kernel, by decide +kernel⟩, List.mem_of_getElem? (i := 18) (by decide +kernel), List.mem_of_getElem? (i := 157) (by decide +kernel), List.mem_of_getElem? (i := 158) (by decide +kernel)⟩
theorem lw_p3 : lw_okq (⟨"KeyMaker$Summer", "spreadWords", "()V"⟩, 3) := ⟨⟨by decide +kernel, by decide +kernel⟩, List.mem_of_getElem? (i := 18) (by decide +kernel), List.mem_of_getElem? (i := 161) (by decide +kernel), List.mem_of_getElem? (i := 162) (by decide +kernel)⟩
theorem lw_p4 : lw_okq (⟨"KeyMaker$Summer", "mixWords", "()V"⟩, 3) := ⟨⟨by decide +kernel, by decide +kernel⟩, List.mem_of_getElem? (i := 18) (by decide +kernel), List.mem_of_getElem? (i := 174) (by decide +kernel), List.mem_of_getElem? (i := 175) (by decide +kernel)⟩
theorem lw_p5 : lw_okq (⟨"KeyMaker$Marker", "keepStateBehindKey", "(I[I)V"⟩, 6) := ⟨⟨by decide +kernel, by decide +kernel⟩, List.mem_of_getElem? (i := 35) (by decide +kernel), List.mem_of_getElem? (i := 193) (by decide +kernel), List.mem_of_getElem? (i := 194) (by decide +kernel)⟩
theorem lw_p6 : lw_okq (⟨"KeyMaker", "turnsLeft", "()I"⟩, 13) := ⟨⟨by decide +kernel, by decide +kernel⟩, List.mem_of_getElem? (i := 10) (by decide +kernel), List.mem_of_getElem? (i := 203) (by decide +kernel), List.mem_of_getElem? (i := 204) (by decide +kernel)⟩
theorem lw_p7 : lw_okq (⟨"KeyMaker", "turn", "()V"⟩, 13) := ⟨⟨by decide +kernel, by decide +kernel⟩, List.mem_of_getElem? (i := 10) (by decide +kernel), List.mem_of_getElem? (i := 211) (by decide +kernel), List.mem_of_getElem? (i := 212) (by decide +kernel)⟩
theorem lw_p8 : lw_okq (⟨"KeyMaker", "foldLastMark", "()V"⟩, 13) := ⟨⟨by decide +kernel, by decide +kernel⟩, List.mem_of_getElem? (i := 10) (by decide +kernel), List.mem_of_getElem? (i := 224) (by decide +kernel), List.mem_of_getElem? (i := 225) (by decide +kernel)⟩
theorem lw_p9 : lw_okq (⟨"KeyMakerModel", "takes", "(I)Z"⟩, 19) := ⟨⟨by decide +kernel, by decide +kernel⟩, List.mem_of_getElem? (i := 269) (by decide +kernel), List.mem_of_getElem? (i := 351) (by decide +kernel), List.mem_of_getElem? (i := 352) (by decide +kernel)⟩
theorem lw_p10 : lw_okq (⟨"KeyMakerModel", "partCount", "()I"⟩, 19) := ⟨⟨by decide +kernel, by decide +kernel⟩, List.mem_of_getElem? (i := 269) (by decide +kernel), List.mem_of_getElem? (i := 367) (by decide +kernel), List.mem_of_getElem? (i := 368) (by decide +kernel)⟩
theorem lw_p11 : lw_okq (⟨"KeyMakerModel", "markOf", "([BI)V"⟩, 19) := ⟨⟨by decide +kernel, by decide +kernel⟩, List.mem_of_getElem? (i := 269) (by decide +kernel), List.mem_of_getElem? (i := 380) (by decide +kernel), List.mem_of_getElem? (i := 381) (by decide +kernel)⟩
theorem lw_p12 : lw_okq (⟨"KeyMakerModel", "sumOf", "([BI)V"⟩, 19) := ⟨⟨by decide +kernel, by decide +kernel⟩, List.mem_of_getElem? (i := 269) (by decide +kernel), List.mem_of_getElem? (i := 384) (by decide +kernel), List.mem_of_getElem? (i := 385) (by decide +kernel)⟩
theorem lw_p13 : lw_okq (⟨"KeyMakerModel", "lay", "(I)V"⟩, 19) := ⟨⟨by decide +kernel, by decide +kernel⟩, List.mem_of_getElem? (i := 269) (by decide +kernel), List.mem_of_getElem? (i := 388) (by decide +kernel), List.mem_of_getElem? (i := 389) (by decide +kernel)⟩
theorem lw_p14 : lw_okq (⟨"KeyMakerModel", "reckon", "()V"⟩, 19) := ⟨⟨by decide +kernel, by decide +kernel⟩, List.mem_of_getElem? (i := 269) (by decide +kernel), List.mem_of_getElem? (i := 392) (by decide +kernel), List.mem_of_getElem? (i := 393) (by decide +kernel)⟩
theorem lw_p15 : lw_okq (⟨"KeyMakerModel", "mix", "(I)V"⟩, 19) := ⟨⟨by decide +kernel, by decide +kernel⟩, List.mem_of_getElem? (i := 269) (by decide +kernel), List.mem_of_getElem? (i := 396) (by decide +kernel), List.mem_of_getElem? (i := 397) (by decide +kernel)⟩
def lw_privs_1 : List (MethodName × Nat) := [(⟨"KeyMaker", "forgetAll", "()V"⟩, 13), (⟨"KeyMaker", "isStarted", "()Z"⟩, 13), (⟨"KeyMaker$Summer", "take", "(I)V"⟩, 3), (⟨"KeyMaker$Summer", "spreadWords", "()V"⟩, 3), (⟨"KeyMaker$Summer", "mixWords", "()V"⟩, 3), (⟨"KeyMaker$Marker", "keepStateBehindKey", "(I[I)V"⟩, 6), (⟨"KeyMaker", "turnsLeft", "()I"⟩, 13), (⟨"KeyMaker", "turn", "()V"⟩, 13), (⟨"KeyMaker", "foldLastMark", "()V"⟩, 13), (⟨"KeyMakerModel", "takes", "(I)Z"⟩, 19), (⟨"KeyMakerModel", "partCount", "()I"⟩, 19), (⟨"KeyMakerModel", "markOf", "([BI)V"⟩, 19), (⟨"KeyMakerModel", "sumOf", "([BI)V"⟩, 19), (⟨"KeyMakerModel", "lay", "(I)V"⟩, 19), (⟨"KeyMakerModel", "reckon", "()V"⟩, 19), (⟨"KeyMakerModel", "mix", "(I)V"⟩, 19)]
theorem lw_r1 : ∀ q ∈ lw_privs_1, lw_okq q := List.forall_mem_cons.mpr ⟨lw_p0, List.forall_mem_cons.mpr ⟨lw_p1, List.forall_mem_cons.mpr ⟨lw_p2, List.forall_mem_cons.mpr ⟨lw_p3, List.forall_mem_cons.mpr ⟨lw_p4, List.forall_mem_cons.mpr ⟨lw_p5, List.forall_mem_cons.mpr ⟨lw_p6, List.forall_mem_cons.mpr ⟨lw_p7, List.forall_mem_cons.mpr ⟨lw_p8, List.forall_mem_cons.mpr ⟨lw_p9, List.forall_mem_cons.mpr ⟨lw_p10, List.forall_mem_cons.mpr ⟨lw_p11, List.forall_mem_cons.mpr ⟨lw_p12, List.forall_mem_cons.mpr ⟨lw_p13, List.forall_mem_cons.mpr ⟨lw_p14, List.forall_mem_cons.mpr ⟨lw_p15, fun _ h => absurd h List.not_mem_nil⟩⟩⟩⟩⟩⟩⟩⟩⟩⟩⟩⟩⟩⟩⟩⟩
def lw_privs : List (MethodName × Nat) := lw_privs_1
def lw_tbl : List Cond := k2_sels lw_privs ++ tables_1
theorem lw_privs_ok : ∀ q ∈ lw_privs, lw_okq q := lw_r1
end
section
/-! my names: classes, their fields in the order of the slots, methods, codes -/
def R_Marker : String := "KeyMaker$Marker"
def R_Summer : String := "KeyMaker$Summer"
def R_KeyMaker : String := "KeyMaker"
def R_Model : String := "KeyMakerModel"
def R_Law : String := "KeyMakerLaw"
def R_Integer : String := "java/lang/Integer"
def R_Arrays : String := "java/util/Arrays"
def F_Marker : u_T := fun k => match k with
  | 0 => ("KeyMaker$Marker", "summer", "LKeyMaker$Summer;", true)
  | 1 => ("KeyMaker$Marker", "shortKey", "[I", true)
  | 2 => ("KeyMaker$Marker", "block", "[I", true)
  | 3 => ("KeyMaker$Marker", "innerSum", "[I", true)
  | 4 => ("KeyMaker$Marker", "innerState", "[I", true)
  | _ => ("KeyMaker$Marker", "outerState", "[I", true)
def t_Marker : Nat → FieldType := fun k => match k with
  | 0 => .object "KeyMaker$Summer"
  | 1 => .array .int
  | 2 => .array .int
  | 3 => .array .int
  | 4 => .array .int
  | _ => .array .int
theorem n_Marker : ∀ a, a < 6 → ∀ b, b < 6 → a ≠ b → (F_Marker a).2.1 ≠ (F_Marker b).2.1 := by decide +kernel
theorem t_Marker_ok : ∀ k, k < 6 → parseFieldDescriptor (F_Marker k).2.2.1 = some (t_Marker k) := by decide +kernel
def F_Summer : u_T := fun k => match k with
  | 0 => ("KeyMaker$Summer", "state", "[I", true)
  | 1 => ("KeyMaker$Summer", "words", "[I", true)
  | _ => ("KeyMaker$Summer", "taken", "I", false)
def t_Summer : Nat → FieldType := fun k => match k with
  | 0 => .array .int
  | 1 => .array .int
  | _ => .int
theorem n_Summer : ∀ a, a < 3 → ∀ b, b < 3 → a ≠ b → (F_Summer a).2.1 ≠ (F_Summer b).2.1 := by decide +kernel
theorem t_Summer_ok : ∀ k, k < 3 → parseFieldDescriptor (F_Summer k).2.2.1 = some (t_Summer k) := by decide +kernel
def F_KeyMaker : u_T := fun k => match k with
  | 0 => ("KeyMaker", "passwordRow", "[I", true)
  | 1 => ("KeyMaker", "saltRow", "[I", true)
  | 2 => ("KeyMaker", "keyRow", "[I", true)
  | 3 => ("KeyMaker", "lastMark", "[I", true)
  | 4 => ("KeyMaker", "answer", "[I", true)
  | 5 => ("KeyMaker", "summer", "LKeyMaker$Summer;", true)
  | 6 => ("KeyMaker", "marker", "LKeyMaker$Marker;", true)
  | 7 => ("KeyMaker", "passwordCount", "I", false)
  | 8 => ("KeyMaker", "saltCount", "I", false)
  | 9 => ("KeyMaker", "keyCount", "I", false)
  | 10 => ("KeyMaker", "turnsOfEach", "I", false)
  | 11 => ("KeyMaker", "partsDone", "I", false)
  | _ => ("KeyMaker", "turnsOfThis", "I", false)
def t_KeyMaker : Nat → FieldType := fun k => match k with
  | 0 => .array .int
  | 1 => .array .int
  | 2 => .array .int
  | 3 => .array .int
  | 4 => .array .int
  | 5 => .object "KeyMaker$Summer"
  | 6 => .object "KeyMaker$Marker"
  | 7 => .int
  | 8 => .int
  | 9 => .int
  | 10 => .int
  | 11 => .int
  | _ => .int
theorem n_KeyMaker : ∀ a, a < 13 → ∀ b, b < 13 → a ≠ b → (F_KeyMaker a).2.1 ≠ (F_KeyMaker b).2.1 := by decide +kernel
theorem t_KeyMaker_ok : ∀ k, k < 13 → parseFieldDescriptor (F_KeyMaker k).2.2.1 = some (t_KeyMaker k) := by decide +kernel
def F_Model : u_T := fun k => match k with
  | 0 => ("KeyMakerModel", "cubes", "[I", true)
  | 1 => ("KeyMakerModel", "squares", "[I", true)
  | 2 => ("KeyMakerModel", "secret", "[B", true)
  | 3 => ("KeyMakerModel", "secretSize", "I", false)
  | 4 => ("KeyMakerModel", "grain", "[B", true)
  | 5 => ("KeyMakerModel", "grainSize", "I", false)
  | 6 => ("KeyMakerModel", "isStarted", "Z", false)
  | 7 => ("KeyMakerModel", "turns", "I", false)
  | 8 => ("KeyMakerModel", "wanted", "I", false)
  | 9 => ("KeyMakerModel", "done", "I", false)
  | 10 => ("KeyMakerModel", "last", "[B", true)
  | 11 => ("KeyMakerModel", "parts", "[B", true)
  | 12 => ("KeyMakerModel", "row", "[B", true)
  | 13 => ("KeyMakerModel", "rowSize", "I", false)
  | 14 => ("KeyMakerModel", "result", "[B", true)
  | 15 => ("KeyMakerModel", "state", "[I", true)
  | 16 => ("KeyMakerModel", "now", "[I", true)
  | 17 => ("KeyMakerModel", "words", "[I", true)
  | _ => ("KeyMakerModel", "padded", "[B", true)
def t_Model : Nat → FieldType := fun k => match k with
  | 0 => .array .int
  | 1 => .array .int
  | 2 => .array .byte
  | 3 => .int
  | 4 => .array .byte
  | 5 => .int
  | 6 => .boolean
  | 7 => .int
  | 8 => .int
  | 9 => .int
  | 10 => .array .byte
  | 11 => .array .byte
  | 12 => .array .byte
  | 13 => .int
  | 14 => .array .byte
  | 15 => .array .int
  | 16 => .array .int
  | 17 => .array .int
  | _ => .array .byte
theorem n_Model : ∀ a, a < 19 → ∀ b, b < 19 → a ≠ b → (F_Model a).2.1 ≠ (F_Model b).2.1 := by decide +kernel
theorem t_Model_ok : ∀ k, k < 19 → parseFieldDescriptor (F_Model k).2.2.1 = some (t_Model k) := by decide +kernel
abbrev classes : List vw_C := [(R_Marker, F_Marker, 6), (R_Summer, F_Summer, 3), (R_KeyMaker, F_KeyMaker, 13), (R_Model, F_Model, 19)]
def y_KeyMaker_init : MethodName := ⟨R_KeyMaker, "<init>", "()V"⟩
def y_Summer_init : MethodName := ⟨R_Summer, "<init>", "()V"⟩
def y_Marker_init : MethodName := ⟨R_Marker, "<init>", "()V"⟩
def y_KeyMaker_forgetAll : MethodName := ⟨R_KeyMaker, "forgetAll", "()V"⟩
def y_KeyMaker_password : MethodName := ⟨R_KeyMaker, "password", "(I)Z"⟩
def y_KeyMaker_isByte : MethodName := ⟨R_KeyMaker, "isByte", "(I)Z"⟩
def y_KeyMaker_isStarted : MethodName := ⟨R_KeyMaker, "isStarted", "()Z"⟩
def y_KeyMaker_four : MethodName := ⟨R_KeyMaker, "four", "(I)Z"⟩
def y_KeyMaker_putWord : MethodName := ⟨R_KeyMaker, "putWord", "(I[II)V"⟩
def y_KeyMaker_salt : MethodName := ⟨R_KeyMaker, "salt", "(I)Z"⟩
def y_KeyMaker_start : MethodName := ⟨R_KeyMaker, "start", "(II)I"⟩
def y_Arrays_fill : MethodName := ⟨R_Arrays, "fill", "([II)V"⟩
def y_Marker_takeKey : MethodName := ⟨R_Marker, "takeKey", "([II)V"⟩
def y_Summer_writeSum : MethodName := ⟨R_Summer, "writeSum", "([II[I)V"⟩
def y_Summer_begin : MethodName := ⟨R_Summer, "begin", "()V"⟩
def y_Summer_takeRow : MethodName := ⟨R_Summer, "takeRow", "([II)V"⟩
def y_Summer_take : MethodName := ⟨R_Summer, "take", "(I)V"⟩
def y_Summer_spreadWords : MethodName := ⟨R_Summer, "spreadWords", "()V"⟩
def y_Summer_smallOne : MethodName := ⟨R_Summer, "smallOne", "(I)I"⟩
def y_Integer_rotateRight : MethodName := ⟨R_Integer, "rotateRight", "(II)I"⟩
def y_Summer_smallZero : MethodName := ⟨R_Summer, "smallZero", "(I)I"⟩
def y_Summer_mixWords : MethodName := ⟨R_Summer, "mixWords", "()V"⟩
def y_Summer_bigOne : MethodName := ⟨R_Summer, "bigOne", "(I)I"⟩
def y_Summer_bigZero : MethodName := ⟨R_Summer, "bigZero", "(I)I"⟩
def y_Summer_finish : MethodName := ⟨R_Summer, "finish", "([I)V"⟩
def y_Marker_keepStateBehindKey : MethodName := ⟨R_Marker, "keepStateBehindKey", "(I[I)V"⟩
def y_Summer_keepState : MethodName := ⟨R_Summer, "keepState", "([I)V"⟩
def y_KeyMaker_turnsLeft : MethodName := ⟨R_KeyMaker, "turnsLeft", "()I"⟩
def y_KeyMaker_step : MethodName := ⟨R_KeyMaker, "step", "()I"⟩
def y_KeyMaker_turn : MethodName := ⟨R_KeyMaker, "turn", "()V"⟩
def y_Marker_writeMark : MethodName := ⟨R_Marker, "writeMark", "([II[I)V"⟩
def y_Summer_beginBehindBlock : MethodName := ⟨R_Summer, "beginBehindBlock", "([I)V"⟩
def y_KeyMaker_foldLastMark : MethodName := ⟨R_KeyMaker, "foldLastMark", "()V"⟩
def y_KeyMaker_run : MethodName := ⟨R_KeyMaker, "run", "(I)I"⟩
def y_KeyMaker_left : MethodName := ⟨R_KeyMaker, "left", "()I"⟩
def y_KeyMaker_key : MethodName := ⟨R_KeyMaker, "key", "(I)I"⟩
def y_KeyMaker_reset : MethodName := ⟨R_KeyMaker, "reset", "()V"⟩
def y_KeyMaker_many : MethodName := ⟨R_KeyMaker, "many", "(I)I"⟩
def y_KeyMaker_sum : MethodName := ⟨R_KeyMaker, "sum", "(I)I"⟩
def y_KeyMaker_isPlaceOfSum : MethodName := ⟨R_KeyMaker, "isPlaceOfSum", "(I)Z"⟩
def y_KeyMaker_mark : MethodName := ⟨R_KeyMaker, "mark", "(I)I"⟩
def y_KeyMaker_word : MethodName := ⟨R_KeyMaker, "word", "(II)I"⟩
def y_Model_init : MethodName := ⟨R_Model, "<init>", "()V"⟩
def y_Model_root : MethodName := ⟨R_Model, "root", "(IZ)I"⟩
def y_Model_isAtMost : MethodName := ⟨R_Model, "isAtMost", "(JIZ)Z"⟩
def y_Model_word : MethodName := ⟨R_Model, "word", "(II)I"⟩
def y_Model_password : MethodName := ⟨R_Model, "password", "(I)Z"⟩
def y_Model_takes : MethodName := ⟨R_Model, "takes", "(I)Z"⟩
def y_Model_four : MethodName := ⟨R_Model, "four", "(I)Z"⟩
def y_Model_salt : MethodName := ⟨R_Model, "salt", "(I)Z"⟩
def y_Model_start : MethodName := ⟨R_Model, "start", "(II)I"⟩
def y_Model_partCount : MethodName := ⟨R_Model, "partCount", "()I"⟩
def y_Model_left : MethodName := ⟨R_Model, "left", "()I"⟩
def y_Model_step : MethodName := ⟨R_Model, "step", "()I"⟩
def y_Model_markOf : MethodName := ⟨R_Model, "markOf", "([BI)V"⟩
def y_Model_sumOf : MethodName := ⟨R_Model, "sumOf", "([BI)V"⟩
def y_Model_lay : MethodName := ⟨R_Model, "lay", "(I)V"⟩
def y_Model_reckon : MethodName := ⟨R_Model, "reckon", "()V"⟩
def y_Model_mix : MethodName := ⟨R_Model, "mix", "(I)V"⟩
def y_Model_rot : MethodName := ⟨R_Model, "rot", "(II)I"⟩
def y_Model_run : MethodName := ⟨R_Model, "run", "(I)I"⟩
def y_Model_key : MethodName := ⟨R_Model, "key", "(I)I"⟩
def y_Model_reset : MethodName := ⟨R_Model, "reset", "()V"⟩
def y_Model_many : MethodName := ⟨R_Model, "many", "(I)I"⟩
def y_Model_sum : MethodName := ⟨R_Model, "sum", "(I)I"⟩
def y_Model_mark : MethodName := ⟨R_Model, "mark", "(I)I"⟩
abbrev b_KeyMaker_init : ByteArray := prog_1_method_1_code
abbrev b_Summer_init : ByteArray := prog_3_method_1_code
abbrev b_Marker_init : ByteArray := prog_2_method_1_code
abbrev b_KeyMaker_forgetAll : ByteArray := prog_1_method_20_code
abbrev b_KeyMaker_password : ByteArray := prog_1_method_2_code
abbrev b_KeyMaker_isByte : ByteArray := prog_1_method_15_code
abbrev b_KeyMaker_isStarted : ByteArray := prog_1_method_18_code
abbrev b_KeyMaker_four : ByteArray := prog_1_method_3_code
abbrev b_KeyMaker_putWord : ByteArray := prog_1_method_17_code
abbrev b_KeyMaker_salt : ByteArray := prog_1_method_4_code
abbrev b_KeyMaker_start : ByteArray := prog_1_method_5_code
abbrev b_Arrays_fill : ByteArray := prog_9_method_103_code
abbrev b_Marker_takeKey : ByteArray := prog_2_method_2_code
abbrev b_Summer_writeSum : ByteArray := prog_3_method_2_code
abbrev b_Summer_begin : ByteArray := prog_3_method_3_code
abbrev b_Summer_takeRow : ByteArray := prog_3_method_6_code
abbrev b_Summer_take : ByteArray := prog_3_method_8_code
abbrev b_Summer_spreadWords : ByteArray := prog_3_method_9_code
abbrev b_Summer_smallOne : ByteArray := prog_3_method_12_code
abbrev b_Integer_rotateRight : ByteArray := prog_6_method_51_code
abbrev b_Summer_smallZero : ByteArray := prog_3_method_11_code
abbrev b_Summer_mixWords : ByteArray := prog_3_method_10_code
abbrev b_Summer_bigOne : ByteArray := prog_3_method_14_code
abbrev b_Summer_bigZero : ByteArray := prog_3_method_13_code
abbrev b_Summer_finish : ByteArray := prog_3_method_7_code
abbrev b_Marker_keepStateBehindKey : ByteArray := prog_2_method_4_code
abbrev b_Summer_keepState : ByteArray := prog_3_method_5_code
abbrev b_KeyMaker_turnsLeft : ByteArray := prog_1_method_19_code
abbrev b_KeyMaker_step : ByteArray := prog_1_method_6_code
abbrev b_KeyMaker_turn : ByteArray := prog_1_method_21_code
abbrev b_Marker_writeMark : ByteArray := prog_2_method_3_code
abbrev b_Summer_beginBehindBlock : ByteArray := prog_3_method_4_code
abbrev b_KeyMaker_foldLastMark : ByteArray := prog_1_method_22_code
abbrev b_KeyMaker_run : ByteArray := prog_1_method_7_code
abbrev b_KeyMaker_left : ByteArray := prog_1_method_8_code
abbrev b_KeyMaker_key : ByteArray := prog_1_method_9_code
abbrev b_KeyMaker_reset : ByteArray := prog_1_method_10_code
abbrev b_KeyMaker_many : ByteArray := prog_1_method_11_code
abbrev b_KeyMaker_sum : ByteArray := prog_1_method_12_code
abbrev b_KeyMaker_isPlaceOfSum : ByteArray := prog_1_method_16_code
abbrev b_KeyMaker_mark : ByteArray := prog_1_method_13_code
abbrev b_KeyMaker_word : ByteArray := prog_1_method_14_code
abbrev b_Model_init : ByteArray := prog_5_method_1_code
abbrev b_Model_root : ByteArray := prog_5_method_4_code
abbrev b_Model_isAtMost : ByteArray := prog_5_method_3_code
abbrev b_Model_word : ByteArray := prog_5_method_5_code
abbrev b_Model_password : ByteArray := prog_5_method_13_code
abbrev b_Model_takes : ByteArray := prog_5_method_12_code
abbrev b_Model_four : ByteArray := prog_5_method_14_code
abbrev b_Model_salt : ByteArray := prog_5_method_15_code
abbrev b_Model_start : ByteArray := prog_5_method_17_code
abbrev b_Model_partCount : ByteArray := prog_5_method_16_code
abbrev b_Model_left : ByteArray := prog_5_method_18_code
abbrev b_Model_step : ByteArray := prog_5_method_19_code
abbrev b_Model_markOf : ByteArray := prog_5_method_10_code
abbrev b_Model_sumOf : ByteArray := prog_5_method_11_code
abbrev b_Model_lay : ByteArray := prog_5_method_7_code
abbrev b_Model_reckon : ByteArray := prog_5_method_8_code
abbrev b_Model_mix : ByteArray := prog_5_method_9_code
abbrev b_Model_rot : ByteArray := prog_5_method_6_code
abbrev b_Model_run : ByteArray := prog_5_method_20_code
abbrev b_Model_key : ByteArray := prog_5_method_21_code
abbrev b_Model_reset : ByteArray := prog_5_method_22_code
abbrev b_Model_many : ByteArray := prog_5_method_23_code
abbrev b_Model_sum : ByteArray := prog_5_method_24_code
abbrev b_Model_mark : ByteArray := prog_5_method_25_code
/-- the words that all methods are proved under -/
def xG : List Cond := lw_tbl.filter goodWord
theorem xin {w : Cond} (i : Nat) (h : lw_tbl[i]? = some w) (hg : goodWord w = true) : w ∈ xG := List.mem_filter.mpr ⟨List.mem_of_getElem? h, hg⟩
theorem xG_in : ∀ w ∈ xG, w ∈ lw_tbl := fun _ h => (List.mem_filter.mp h).1
theorem hi_Marker : ∀ w ∈ u_ws R_Marker F_Marker 6, w ∈ xG := by
  intro w h
  obtain ⟨k, hk, rfl⟩ := List.mem_map.mp h
  have hk := List.mem_range.mp hk
  rcases (show k = 0 ∨ k = 1 ∨ k = 2 ∨ k = 3 ∨ k = 4 ∨ k = 5 by omega) with rfl | rfl | rfl | rfl | rfl | rfl
  · exact xin 64 (by decide +kernel) (by decide +kernel)
  · exact xin 66 (by decide +kernel) (by decide +kernel)
  · exact xin 68 (by decide +kernel) (by decide +kernel)
  · exact xin 70 (by decide +kernel) (by decide +kernel)
  · exact xin 72 (by decide +kernel) (by decide +kernel)
  · exact xin 74 (by decide +kernel) (by decide +kernel)
theorem hi_Summer : ∀ w ∈ u_ws R_Summer F_Summer 3, w ∈ xG := by
  intro w h
  obtain ⟨k, hk, rfl⟩ := List.mem_map.mp h
  have hk := List.mem_range.mp hk
  rcases (show k = 0 ∨ k = 1 ∨ k = 2 by omega) with rfl | rfl | rfl
  · exact xin 42 (by decide +kernel) (by decide +kernel)
  · exact xin 44 (by decide +kernel) (by decide +kernel)
  · exact xin 46 (by decide +kernel) (by decide +kernel)
theorem hi_KeyMaker : ∀ w ∈ u_ws R_KeyMaker F_KeyMaker 13, w ∈ xG := by
  intro w h
  obtain ⟨k, hk, rfl⟩ := List.mem_map.mp h
  have hk := List.mem_range.mp hk
  rcases (show k = 0 ∨ k = 1 ∨ k = 2 ∨ k = 3 ∨ k = 4 ∨ k = 5 ∨ k = 6 ∨ k = 7 ∨ k = 8 ∨ k = 9 ∨ k = 10 ∨ k = 11 ∨ k = 12 by omega) with rfl | rfl | rfl | rfl | rfl | rfl | rfl | rfl | rfl | rfl | rfl | rfl | rfl
  · exact xin 94 (by decide +kernel) (by decide +kernel)
  · exact xin 96 (by decide +kernel) (by decide +kernel)
  · exact xin 98 (by decide +kernel) (by decide +kernel)
  · exact xin 100 (by decide +kernel) (by decide +kernel)
  · exact xin 102 (by decide +kernel) (by decide +kernel)
  · exact xin 104 (by decide +kernel) (by decide +kernel)
  · exact xin 106 (by decide +kernel) (by decide +kernel)
  · exact xin 108 (by decide +kernel) (by decide +kernel)
  · exact xin 110 (by decide +kernel) (by decide +kernel)
  · exact xin 112 (by decide +kernel) (by decide +kernel)
  · exact xin 114 (by decide +kernel) (by decide +kernel)
  · exact xin 116 (by decide +kernel) (by decide +kernel)
  · exact xin 118 (by decide +kernel) (by decide +kernel)
theorem hi_Model : ∀ w ∈ u_ws R_Model F_Model 19, w ∈ xG := by
  intro w h
  obtain ⟨k, hk, rfl⟩ := List.mem_map.mp h
  have hk := List.mem_range.mp hk
  rcases (show k = 0 ∨ k = 1 ∨ k = 2 ∨ k = 3 ∨ k = 4 ∨ k = 5 ∨ k = 6 ∨ k = 7 ∨ k = 8 ∨ k = 9 ∨ k = 10 ∨ k = 11 ∨ k = 12 ∨ k = 13 ∨ k = 14 ∨ k = 15 ∨ k = 16 ∨ k = 17 ∨ k = 18 by omega) with rfl | rfl | rfl | rfl | rfl | rfl | rfl | rfl | rfl | rfl | rfl | rfl | rfl | rfl | rfl | rfl | rfl | rfl | rfl
  · exact xin 318 (by decide +kernel) (by decide +kernel)
  · exact xin 320 (by decide +kernel) (by decide +kernel)
  · exact xin 322 (by decide +kernel) (by decide +kernel)
  · exact xin 324 (by decide +kernel) (by decide +kernel)
  · exact xin 326 (by decide +kernel) (by decide +kernel)
  · exact xin 328 (by decide +kernel) (by decide +kernel)
  · exact xin 330 (by decide +kernel) (by decide +kernel)
  · exact xin 332 (by decide +kernel) (by decide +kernel)
  · exact xin 334 (by decide +kernel) (by decide +kernel)
  · exact xin 336 (by decide +kernel) (by decide +kernel)
  · exact xin 338 (by decide +kernel) (by decide +kernel)
  · exact xin 340 (by decide +kernel) (by decide +kernel)
  · exact xin 342 (by decide +kernel) (by decide +kernel)
  · exact xin 344 (by decide +kernel) (by decide +kernel)
  · exact xin 346 (by decide +kernel) (by decide +kernel)
  · exact xin 348 (by decide +kernel) (by decide +kernel)
  · exact xin 350 (by decide +kernel) (by decide +kernel)
  · exact xin 352 (by decide +kernel) (by decide +kernel)
  · exact xin 354 (by decide +kernel) (by decide +kernel)
end
section
/-! the words, by their places -/
theorem tw_0 : (Cond.selects R_KeyMaker y_KeyMaker_forgetAll y_KeyMaker_forgetAll : Cond) ∈ xG := xin 0 (by decide +kernel) (by decide +kernel)
theorem tw_1 : (Cond.selects R_KeyMaker y_KeyMaker_isStarted y_KeyMaker_isStarted : Cond) ∈ xG := xin 1 (by decide +kernel) (by decide +kernel)
theorem tw_2 : (Cond.selects R_Summer y_Summer_take y_Summer_take : Cond) ∈ xG := xin 2 (by decide +kernel) (by decide +kernel)
theorem tw_3 : (Cond.selects R_Summer y_Summer_spreadWords y_Summer_spreadWords : Cond) ∈ xG := xin 3 (by decide +kernel) (by decide +kernel)
theorem tw_4 : (Cond.selects R_Summer y_Summer_mixWords y_Summer_mixWords : Cond) ∈ xG := xin 4 (by decide +kernel) (by decide +kernel)
theorem tw_5 : (Cond.selects R_Marker y_Marker_keepStateBehindKey y_Marker_keepStateBehindKey : Cond) ∈ xG := xin 5 (by decide +kernel) (by decide +kernel)
theorem tw_6 : (Cond.selects R_KeyMaker y_KeyMaker_turnsLeft y_KeyMaker_turnsLeft : Cond) ∈ xG := xin 6 (by decide +kernel) (by decide +kernel)
theorem tw_7 : (Cond.selects R_KeyMaker y_KeyMaker_turn y_KeyMaker_turn : Cond) ∈ xG := xin 7 (by decide +kernel) (by decide +kernel)
theorem tw_8 : (Cond.selects R_KeyMaker y_KeyMaker_foldLastMark y_KeyMaker_foldLastMark : Cond) ∈ xG := xin 8 (by decide +kernel) (by decide +kernel)
theorem tw_9 : (Cond.selects R_Model y_Model_takes y_Model_takes : Cond) ∈ xG := xin 9 (by decide +kernel) (by decide +kernel)
theorem tw_10 : (Cond.selects R_Model y_Model_partCount y_Model_partCount : Cond) ∈ xG := xin 10 (by decide +kernel) (by decide +kernel)
theorem tw_11 : (Cond.selects R_Model y_Model_markOf y_Model_markOf : Cond) ∈ xG := xin 11 (by decide +kernel) (by decide +kernel)
theorem tw_12 : (Cond.selects R_Model y_Model_sumOf y_Model_sumOf : Cond) ∈ xG := xin 12 (by decide +kernel) (by decide +kernel)
theorem tw_13 : (Cond.selects R_Model y_Model_lay y_Model_lay : Cond) ∈ xG := xin 13 (by decide +kernel) (by decide +kernel)
theorem tw_14 : (Cond.selects R_Model y_Model_reckon y_Model_reckon : Cond) ∈ xG := xin 14 (by decide +kernel) (by decide +kernel)
theorem tw_15 : (Cond.selects R_Model y_Model_mix y_Model_mix : Cond) ∈ xG := xin 15 (by decide +kernel) (by decide +kernel)
theorem tw_16 : (Cond.initialized R_Law : Cond) ∈ xG := xin 16 (by decide +kernel) (by decide +kernel)
theorem tw_17 : (Cond.initialized R_KeyMaker : Cond) ∈ xG := xin 17 (by decide +kernel) (by decide +kernel)
theorem tw_18 : (Cond.initialized R_Summer : Cond) ∈ xG := xin 18 (by decide +kernel) (by decide +kernel)
theorem tw_19 : (Cond.initialized R_Marker : Cond) ∈ xG := xin 19 (by decide +kernel) (by decide +kernel)
theorem tw_20 : (Cond.initialized R_Model : Cond) ∈ xG := xin 20 (by decide +kernel) (by decide +kernel)
theorem tw_21 : (Cond.initialized R_Arrays : Cond) ∈ xG := xin 21 (by decide +kernel) (by decide +kernel)
theorem tw_22 : (Cond.initialized "java/lang/System" : Cond) ∈ xG := xin 22 (by decide +kernel) (by decide +kernel)
theorem tw_23 : (Cond.initialized R_Integer : Cond) ∈ xG := xin 23 (by decide +kernel) (by decide +kernel)
theorem tw_24 : (Cond.initialized "java/lang/Math" : Cond) ∈ xG := xin 24 (by decide +kernel) (by decide +kernel)
theorem tw_25 : (Cond.classLink R_Law 7 R_KeyMaker : Cond) ∈ xG := xin 25 (by decide +kernel) (by decide +kernel)
theorem tw_26 : (Cond.instantiable R_KeyMaker 13 : Cond) ∈ xG := xin 26 (by decide +kernel) (by decide +kernel)
theorem tw_27 : (Cond.methodLink R_Law 9 y_KeyMaker_init : Cond) ∈ xG := xin 27 (by decide +kernel) (by decide +kernel)
theorem tw_28 : (Cond.instanceMethod y_KeyMaker_init : Cond) ∈ xG := xin 28 (by decide +kernel) (by decide +kernel)
theorem tw_29 : (Cond.code y_KeyMaker_init b_KeyMaker_init 1 none : Cond) ∈ xG := xin 29 (by decide +kernel) (by decide +kernel)
theorem tw_30 : (Cond.methodLink R_KeyMaker 1 objectInit : Cond) ∈ xG := xin 30 (by decide +kernel) (by decide +kernel)
theorem tw_31 : (Cond.instanceMethod objectInit : Cond) ∈ xG := xin 31 (by decide +kernel) (by decide +kernel)
theorem tw_32 : (Cond.code objectInit ⟨#[0xb1]⟩ 1 none : Cond) ∈ xG := xin 32 (by decide +kernel) (by decide +kernel)
theorem tw_33 : (Cond.classLink R_KeyMaker 25 R_Summer : Cond) ∈ xG := xin 33 (by decide +kernel) (by decide +kernel)
theorem tw_34 : (Cond.instantiable R_Summer 3 : Cond) ∈ xG := xin 34 (by decide +kernel) (by decide +kernel)
theorem tw_36 : (Cond.instanceMethod y_Summer_init : Cond) ∈ xG := xin 36 (by decide +kernel) (by decide +kernel)
theorem tw_37 : (Cond.code y_Summer_init b_Summer_init 1 none : Cond) ∈ xG := xin 37 (by decide +kernel) (by decide +kernel)
theorem tw_38 : (Cond.methodLink R_Summer 3 objectInit : Cond) ∈ xG := xin 38 (by decide +kernel) (by decide +kernel)
theorem tw_39 : (Cond.fieldLink R_Summer 9 "KeyMaker$Summer" "state" "[I" : Cond) ∈ xG := xin 39 (by decide +kernel) (by decide +kernel)
theorem tw_40 : (Cond.fieldLink R_Summer 15 "KeyMaker$Summer" "words" "[I" : Cond) ∈ xG := xin 40 (by decide +kernel) (by decide +kernel)
theorem tw_41 : (Cond.fieldLink R_Summer 38 "KeyMaker$Summer" "taken" "I" : Cond) ∈ xG := xin 41 (by decide +kernel) (by decide +kernel)
theorem tw_49 : (Cond.arrayClass .int : Cond) ∈ xG := xin 49 (by decide +kernel) (by decide +kernel)
theorem tw_50 : (Cond.classLink R_KeyMaker 32 R_Marker : Cond) ∈ xG := xin 50 (by decide +kernel) (by decide +kernel)
theorem tw_51 : (Cond.instantiable R_Marker 6 : Cond) ∈ xG := xin 51 (by decide +kernel) (by decide +kernel)
theorem tw_53 : (Cond.instanceMethod y_Marker_init : Cond) ∈ xG := xin 53 (by decide +kernel) (by decide +kernel)
theorem tw_54 : (Cond.code y_Marker_init b_Marker_init 1 none : Cond) ∈ xG := xin 54 (by decide +kernel) (by decide +kernel)
theorem tw_55 : (Cond.methodLink R_Marker 3 objectInit : Cond) ∈ xG := xin 55 (by decide +kernel) (by decide +kernel)
theorem tw_56 : (Cond.classLink R_Marker 9 R_Summer : Cond) ∈ xG := xin 56 (by decide +kernel) (by decide +kernel)
theorem tw_58 : (Cond.fieldLink R_Marker 12 "KeyMaker$Marker" "summer" "LKeyMaker$Summer;" : Cond) ∈ xG := xin 58 (by decide +kernel) (by decide +kernel)
theorem tw_59 : (Cond.fieldLink R_Marker 18 "KeyMaker$Marker" "shortKey" "[I" : Cond) ∈ xG := xin 59 (by decide +kernel) (by decide +kernel)
theorem tw_60 : (Cond.fieldLink R_Marker 22 "KeyMaker$Marker" "block" "[I" : Cond) ∈ xG := xin 60 (by decide +kernel) (by decide +kernel)
theorem tw_61 : (Cond.fieldLink R_Marker 25 "KeyMaker$Marker" "innerSum" "[I" : Cond) ∈ xG := xin 61 (by decide +kernel) (by decide +kernel)
theorem tw_62 : (Cond.fieldLink R_Marker 28 "KeyMaker$Marker" "innerState" "[I" : Cond) ∈ xG := xin 62 (by decide +kernel) (by decide +kernel)
theorem tw_63 : (Cond.fieldLink R_Marker 31 "KeyMaker$Marker" "outerState" "[I" : Cond) ∈ xG := xin 63 (by decide +kernel) (by decide +kernel)
theorem tw_77 : (Cond.methodLink R_KeyMaker 39 y_KeyMaker_forgetAll : Cond) ∈ xG := xin 77 (by decide +kernel) (by decide +kernel)
theorem tw_79 : (Cond.instanceMethod y_KeyMaker_forgetAll : Cond) ∈ xG := xin 79 (by decide +kernel) (by decide +kernel)
theorem tw_80 : (Cond.code y_KeyMaker_forgetAll b_KeyMaker_forgetAll 1 none : Cond) ∈ xG := xin 80 (by decide +kernel) (by decide +kernel)
theorem tw_81 : (Cond.fieldLink R_KeyMaker 9 "KeyMaker" "passwordRow" "[I" : Cond) ∈ xG := xin 81 (by decide +kernel) (by decide +kernel)
theorem tw_82 : (Cond.fieldLink R_KeyMaker 13 "KeyMaker" "saltRow" "[I" : Cond) ∈ xG := xin 82 (by decide +kernel) (by decide +kernel)
theorem tw_83 : (Cond.fieldLink R_KeyMaker 16 "KeyMaker" "keyRow" "[I" : Cond) ∈ xG := xin 83 (by decide +kernel) (by decide +kernel)
theorem tw_84 : (Cond.fieldLink R_KeyMaker 19 "KeyMaker" "lastMark" "[I" : Cond) ∈ xG := xin 84 (by decide +kernel) (by decide +kernel)
theorem tw_85 : (Cond.fieldLink R_KeyMaker 22 "KeyMaker" "answer" "[I" : Cond) ∈ xG := xin 85 (by decide +kernel) (by decide +kernel)
theorem tw_86 : (Cond.fieldLink R_KeyMaker 28 "KeyMaker" "summer" "LKeyMaker$Summer;" : Cond) ∈ xG := xin 86 (by decide +kernel) (by decide +kernel)
theorem tw_87 : (Cond.fieldLink R_KeyMaker 35 "KeyMaker" "marker" "LKeyMaker$Marker;" : Cond) ∈ xG := xin 87 (by decide +kernel) (by decide +kernel)
theorem tw_88 : (Cond.fieldLink R_KeyMaker 50 "KeyMaker" "passwordCount" "I" : Cond) ∈ xG := xin 88 (by decide +kernel) (by decide +kernel)
theorem tw_89 : (Cond.fieldLink R_KeyMaker 58 "KeyMaker" "saltCount" "I" : Cond) ∈ xG := xin 89 (by decide +kernel) (by decide +kernel)
theorem tw_90 : (Cond.fieldLink R_KeyMaker 61 "KeyMaker" "keyCount" "I" : Cond) ∈ xG := xin 90 (by decide +kernel) (by decide +kernel)
theorem tw_91 : (Cond.fieldLink R_KeyMaker 64 "KeyMaker" "turnsOfEach" "I" : Cond) ∈ xG := xin 91 (by decide +kernel) (by decide +kernel)
theorem tw_92 : (Cond.fieldLink R_KeyMaker 89 "KeyMaker" "partsDone" "I" : Cond) ∈ xG := xin 92 (by decide +kernel) (by decide +kernel)
theorem tw_93 : (Cond.fieldLink R_KeyMaker 108 "KeyMaker" "turnsOfThis" "I" : Cond) ∈ xG := xin 93 (by decide +kernel) (by decide +kernel)
theorem tw_121 : (Cond.methodLink R_Law 13 y_KeyMaker_password : Cond) ∈ xG := xin 121 (by decide +kernel) (by decide +kernel)
theorem tw_122 : (Cond.instanceMethod y_KeyMaker_password : Cond) ∈ xG := xin 122 (by decide +kernel) (by decide +kernel)
theorem tw_123 : (Cond.selects R_KeyMaker y_KeyMaker_password y_KeyMaker_password : Cond) ∈ xG := xin 123 (by decide +kernel) (by decide +kernel)
theorem tw_124 : (Cond.code y_KeyMaker_password b_KeyMaker_password 2 (some .boolean) : Cond) ∈ xG := xin 124 (by decide +kernel) (by decide +kernel)
theorem tw_125 : (Cond.methodLink R_KeyMaker 42 y_KeyMaker_isByte : Cond) ∈ xG := xin 125 (by decide +kernel) (by decide +kernel)
theorem tw_126 : (Cond.static y_KeyMaker_isByte : Cond) ∈ xG := xin 126 (by decide +kernel) (by decide +kernel)
theorem tw_127 : (Cond.code y_KeyMaker_isByte b_KeyMaker_isByte 1 (some .boolean) : Cond) ∈ xG := xin 127 (by decide +kernel) (by decide +kernel)
theorem tw_128 : (Cond.methodLink R_KeyMaker 46 y_KeyMaker_isStarted : Cond) ∈ xG := xin 128 (by decide +kernel) (by decide +kernel)
theorem tw_130 : (Cond.instanceMethod y_KeyMaker_isStarted : Cond) ∈ xG := xin 130 (by decide +kernel) (by decide +kernel)
theorem tw_131 : (Cond.code y_KeyMaker_isStarted b_KeyMaker_isStarted 1 (some .boolean) : Cond) ∈ xG := xin 131 (by decide +kernel) (by decide +kernel)
theorem tw_132 : (Cond.methodLink R_Law 18 y_KeyMaker_four : Cond) ∈ xG := xin 132 (by decide +kernel) (by decide +kernel)
theorem tw_133 : (Cond.instanceMethod y_KeyMaker_four : Cond) ∈ xG := xin 133 (by decide +kernel) (by decide +kernel)
theorem tw_134 : (Cond.selects R_KeyMaker y_KeyMaker_four y_KeyMaker_four : Cond) ∈ xG := xin 134 (by decide +kernel) (by decide +kernel)
theorem tw_135 : (Cond.code y_KeyMaker_four b_KeyMaker_four 2 (some .boolean) : Cond) ∈ xG := xin 135 (by decide +kernel) (by decide +kernel)
theorem tw_136 : (Cond.methodLink R_KeyMaker 54 y_KeyMaker_putWord : Cond) ∈ xG := xin 136 (by decide +kernel) (by decide +kernel)
theorem tw_137 : (Cond.static y_KeyMaker_putWord : Cond) ∈ xG := xin 137 (by decide +kernel) (by decide +kernel)
theorem tw_138 : (Cond.code y_KeyMaker_putWord b_KeyMaker_putWord 3 none : Cond) ∈ xG := xin 138 (by decide +kernel) (by decide +kernel)
theorem tw_139 : (Cond.methodLink R_Law 22 y_KeyMaker_salt : Cond) ∈ xG := xin 139 (by decide +kernel) (by decide +kernel)
theorem tw_140 : (Cond.instanceMethod y_KeyMaker_salt : Cond) ∈ xG := xin 140 (by decide +kernel) (by decide +kernel)
theorem tw_141 : (Cond.selects R_KeyMaker y_KeyMaker_salt y_KeyMaker_salt : Cond) ∈ xG := xin 141 (by decide +kernel) (by decide +kernel)
theorem tw_142 : (Cond.code y_KeyMaker_salt b_KeyMaker_salt 2 (some .boolean) : Cond) ∈ xG := xin 142 (by decide +kernel) (by decide +kernel)
theorem tw_143 : (Cond.methodLink R_Law 26 y_KeyMaker_start : Cond) ∈ xG := xin 143 (by decide +kernel) (by decide +kernel)
theorem tw_144 : (Cond.instanceMethod y_KeyMaker_start : Cond) ∈ xG := xin 144 (by decide +kernel) (by decide +kernel)
theorem tw_145 : (Cond.selects R_KeyMaker y_KeyMaker_start y_KeyMaker_start : Cond) ∈ xG := xin 145 (by decide +kernel) (by decide +kernel)
theorem tw_146 : (Cond.code y_KeyMaker_start b_KeyMaker_start 3 (some .int) : Cond) ∈ xG := xin 146 (by decide +kernel) (by decide +kernel)
theorem tw_147 : (Cond.methodLink R_KeyMaker 67 y_Arrays_fill : Cond) ∈ xG := xin 147 (by decide +kernel) (by decide +kernel)
theorem tw_148 : (Cond.static y_Arrays_fill : Cond) ∈ xG := xin 148 (by decide +kernel) (by decide +kernel)
theorem tw_149 : (Cond.code y_Arrays_fill b_Arrays_fill 4 none : Cond) ∈ xG := xin 149 (by decide +kernel) (by decide +kernel)
theorem tw_150 : (Cond.methodLink R_KeyMaker 73 y_Marker_takeKey : Cond) ∈ xG := xin 150 (by decide +kernel) (by decide +kernel)
theorem tw_151 : (Cond.instanceMethod y_Marker_takeKey : Cond) ∈ xG := xin 151 (by decide +kernel) (by decide +kernel)
theorem tw_152 : (Cond.selects R_Marker y_Marker_takeKey y_Marker_takeKey : Cond) ∈ xG := xin 152 (by decide +kernel) (by decide +kernel)
theorem tw_153 : (Cond.code y_Marker_takeKey b_Marker_takeKey 3 none : Cond) ∈ xG := xin 153 (by decide +kernel) (by decide +kernel)
theorem tw_154 : (Cond.methodLink R_Marker 34 y_Arrays_fill : Cond) ∈ xG := xin 154 (by decide +kernel) (by decide +kernel)
theorem tw_155 : (Cond.methodLink R_Marker 40 y_Summer_writeSum : Cond) ∈ xG := xin 155 (by decide +kernel) (by decide +kernel)
theorem tw_156 : (Cond.instanceMethod y_Summer_writeSum : Cond) ∈ xG := xin 156 (by decide +kernel) (by decide +kernel)
theorem tw_157 : (Cond.selects R_Summer y_Summer_writeSum y_Summer_writeSum : Cond) ∈ xG := xin 157 (by decide +kernel) (by decide +kernel)
theorem tw_158 : (Cond.code y_Summer_writeSum b_Summer_writeSum 4 none : Cond) ∈ xG := xin 158 (by decide +kernel) (by decide +kernel)
theorem tw_159 : (Cond.methodLink R_Summer 18 y_Summer_begin : Cond) ∈ xG := xin 159 (by decide +kernel) (by decide +kernel)
theorem tw_160 : (Cond.instanceMethod y_Summer_begin : Cond) ∈ xG := xin 160 (by decide +kernel) (by decide +kernel)
theorem tw_161 : (Cond.selects R_Summer y_Summer_begin y_Summer_begin : Cond) ∈ xG := xin 161 (by decide +kernel) (by decide +kernel)
theorem tw_162 : (Cond.code y_Summer_begin b_Summer_begin 1 none : Cond) ∈ xG := xin 162 (by decide +kernel) (by decide +kernel)
theorem tw_165 : (Cond.methodLink R_Summer 32 arraycopyName : Cond) ∈ xG := xin 165 (by decide +kernel) (by decide +kernel)
theorem tw_166 : (Cond.static arraycopyName : Cond) ∈ xG := xin 166 (by decide +kernel) (by decide +kernel)
theorem tw_167 : (Cond.native arraycopyName : Cond) ∈ xG := xin 167 (by decide +kernel) (by decide +kernel)
theorem tw_168 : (Cond.methodLink R_Summer 21 y_Summer_takeRow : Cond) ∈ xG := xin 168 (by decide +kernel) (by decide +kernel)
theorem tw_169 : (Cond.instanceMethod y_Summer_takeRow : Cond) ∈ xG := xin 169 (by decide +kernel) (by decide +kernel)
theorem tw_170 : (Cond.selects R_Summer y_Summer_takeRow y_Summer_takeRow : Cond) ∈ xG := xin 170 (by decide +kernel) (by decide +kernel)
theorem tw_171 : (Cond.code y_Summer_takeRow b_Summer_takeRow 4 none : Cond) ∈ xG := xin 171 (by decide +kernel) (by decide +kernel)
theorem tw_172 : (Cond.methodLink R_Summer 42 y_Summer_take : Cond) ∈ xG := xin 172 (by decide +kernel) (by decide +kernel)
theorem tw_174 : (Cond.instanceMethod y_Summer_take : Cond) ∈ xG := xin 174 (by decide +kernel) (by decide +kernel)
theorem tw_175 : (Cond.code y_Summer_take b_Summer_take 4 none : Cond) ∈ xG := xin 175 (by decide +kernel) (by decide +kernel)
theorem tw_176 : (Cond.methodLink R_Summer 52 y_Summer_spreadWords : Cond) ∈ xG := xin 176 (by decide +kernel) (by decide +kernel)
theorem tw_178 : (Cond.instanceMethod y_Summer_spreadWords : Cond) ∈ xG := xin 178 (by decide +kernel) (by decide +kernel)
theorem tw_179 : (Cond.code y_Summer_spreadWords b_Summer_spreadWords 2 none : Cond) ∈ xG := xin 179 (by decide +kernel) (by decide +kernel)
theorem tw_180 : (Cond.methodLink R_Summer 58 y_Summer_smallOne : Cond) ∈ xG := xin 180 (by decide +kernel) (by decide +kernel)
theorem tw_181 : (Cond.static y_Summer_smallOne : Cond) ∈ xG := xin 181 (by decide +kernel) (by decide +kernel)
theorem tw_182 : (Cond.code y_Summer_smallOne b_Summer_smallOne 1 (some .int) : Cond) ∈ xG := xin 182 (by decide +kernel) (by decide +kernel)
theorem tw_183 : (Cond.methodLink R_Summer 74 y_Integer_rotateRight : Cond) ∈ xG := xin 183 (by decide +kernel) (by decide +kernel)
theorem tw_184 : (Cond.static y_Integer_rotateRight : Cond) ∈ xG := xin 184 (by decide +kernel) (by decide +kernel)
theorem tw_185 : (Cond.code y_Integer_rotateRight b_Integer_rotateRight 2 (some .int) : Cond) ∈ xG := xin 185 (by decide +kernel) (by decide +kernel)
theorem tw_186 : (Cond.methodLink R_Summer 62 y_Summer_smallZero : Cond) ∈ xG := xin 186 (by decide +kernel) (by decide +kernel)
theorem tw_187 : (Cond.static y_Summer_smallZero : Cond) ∈ xG := xin 187 (by decide +kernel) (by decide +kernel)
theorem tw_188 : (Cond.code y_Summer_smallZero b_Summer_smallZero 1 (some .int) : Cond) ∈ xG := xin 188 (by decide +kernel) (by decide +kernel)
theorem tw_189 : (Cond.methodLink R_Summer 55 y_Summer_mixWords : Cond) ∈ xG := xin 189 (by decide +kernel) (by decide +kernel)
theorem tw_191 : (Cond.instanceMethod y_Summer_mixWords : Cond) ∈ xG := xin 191 (by decide +kernel) (by decide +kernel)
theorem tw_192 : (Cond.code y_Summer_mixWords b_Summer_mixWords 12 none : Cond) ∈ xG := xin 192 (by decide +kernel) (by decide +kernel)
theorem tw_193 : (Cond.methodLink R_Summer 65 y_Summer_bigOne : Cond) ∈ xG := xin 193 (by decide +kernel) (by decide +kernel)
theorem tw_194 : (Cond.static y_Summer_bigOne : Cond) ∈ xG := xin 194 (by decide +kernel) (by decide +kernel)
theorem tw_195 : (Cond.code y_Summer_bigOne b_Summer_bigOne 1 (some .int) : Cond) ∈ xG := xin 195 (by decide +kernel) (by decide +kernel)
theorem tw_198 : (Cond.methodLink R_Summer 71 y_Summer_bigZero : Cond) ∈ xG := xin 198 (by decide +kernel) (by decide +kernel)
theorem tw_199 : (Cond.static y_Summer_bigZero : Cond) ∈ xG := xin 199 (by decide +kernel) (by decide +kernel)
theorem tw_200 : (Cond.code y_Summer_bigZero b_Summer_bigZero 1 (some .int) : Cond) ∈ xG := xin 200 (by decide +kernel) (by decide +kernel)
theorem tw_201 : (Cond.methodLink R_Summer 25 y_Summer_finish : Cond) ∈ xG := xin 201 (by decide +kernel) (by decide +kernel)
theorem tw_202 : (Cond.instanceMethod y_Summer_finish : Cond) ∈ xG := xin 202 (by decide +kernel) (by decide +kernel)
theorem tw_203 : (Cond.selects R_Summer y_Summer_finish y_Summer_finish : Cond) ∈ xG := xin 203 (by decide +kernel) (by decide +kernel)
theorem tw_204 : (Cond.code y_Summer_finish b_Summer_finish 6 none : Cond) ∈ xG := xin 204 (by decide +kernel) (by decide +kernel)
theorem tw_205 : (Cond.constantLong R_Summer 46 8 : Cond) ∈ xG := xin 205 (by decide +kernel) (by decide +kernel)
theorem tw_207 : (Cond.methodLink R_Marker 44 arraycopyName : Cond) ∈ xG := xin 207 (by decide +kernel) (by decide +kernel)
theorem tw_208 : (Cond.methodLink R_Marker 50 y_Marker_keepStateBehindKey : Cond) ∈ xG := xin 208 (by decide +kernel) (by decide +kernel)
theorem tw_210 : (Cond.instanceMethod y_Marker_keepStateBehindKey : Cond) ∈ xG := xin 210 (by decide +kernel) (by decide +kernel)
theorem tw_211 : (Cond.code y_Marker_keepStateBehindKey b_Marker_keepStateBehindKey 4 none : Cond) ∈ xG := xin 211 (by decide +kernel) (by decide +kernel)
theorem tw_212 : (Cond.methodLink R_Marker 64 y_Summer_begin : Cond) ∈ xG := xin 212 (by decide +kernel) (by decide +kernel)
theorem tw_213 : (Cond.methodLink R_Marker 58 y_Summer_takeRow : Cond) ∈ xG := xin 213 (by decide +kernel) (by decide +kernel)
theorem tw_214 : (Cond.methodLink R_Marker 67 y_Summer_keepState : Cond) ∈ xG := xin 214 (by decide +kernel) (by decide +kernel)
theorem tw_215 : (Cond.instanceMethod y_Summer_keepState : Cond) ∈ xG := xin 215 (by decide +kernel) (by decide +kernel)
theorem tw_216 : (Cond.selects R_Summer y_Summer_keepState y_Summer_keepState : Cond) ∈ xG := xin 216 (by decide +kernel) (by decide +kernel)
theorem tw_217 : (Cond.code y_Summer_keepState b_Summer_keepState 2 none : Cond) ∈ xG := xin 217 (by decide +kernel) (by decide +kernel)
theorem tw_218 : (Cond.methodLink R_KeyMaker 76 y_KeyMaker_turnsLeft : Cond) ∈ xG := xin 218 (by decide +kernel) (by decide +kernel)
theorem tw_220 : (Cond.instanceMethod y_KeyMaker_turnsLeft : Cond) ∈ xG := xin 220 (by decide +kernel) (by decide +kernel)
theorem tw_221 : (Cond.code y_KeyMaker_turnsLeft b_KeyMaker_turnsLeft 2 (some .int) : Cond) ∈ xG := xin 221 (by decide +kernel) (by decide +kernel)
theorem tw_222 : (Cond.methodLink R_Law 31 y_KeyMaker_step : Cond) ∈ xG := xin 222 (by decide +kernel) (by decide +kernel)
theorem tw_223 : (Cond.instanceMethod y_KeyMaker_step : Cond) ∈ xG := xin 223 (by decide +kernel) (by decide +kernel)
theorem tw_224 : (Cond.selects R_KeyMaker y_KeyMaker_step y_KeyMaker_step : Cond) ∈ xG := xin 224 (by decide +kernel) (by decide +kernel)
theorem tw_225 : (Cond.code y_KeyMaker_step b_KeyMaker_step 1 (some .int) : Cond) ∈ xG := xin 225 (by decide +kernel) (by decide +kernel)
theorem tw_226 : (Cond.methodLink R_KeyMaker 80 y_KeyMaker_turn : Cond) ∈ xG := xin 226 (by decide +kernel) (by decide +kernel)
theorem tw_228 : (Cond.instanceMethod y_KeyMaker_turn : Cond) ∈ xG := xin 228 (by decide +kernel) (by decide +kernel)
theorem tw_229 : (Cond.code y_KeyMaker_turn b_KeyMaker_turn 1 none : Cond) ∈ xG := xin 229 (by decide +kernel) (by decide +kernel)
theorem tw_230 : (Cond.methodLink R_KeyMaker 99 y_Marker_writeMark : Cond) ∈ xG := xin 230 (by decide +kernel) (by decide +kernel)
theorem tw_231 : (Cond.instanceMethod y_Marker_writeMark : Cond) ∈ xG := xin 231 (by decide +kernel) (by decide +kernel)
theorem tw_232 : (Cond.selects R_Marker y_Marker_writeMark y_Marker_writeMark : Cond) ∈ xG := xin 232 (by decide +kernel) (by decide +kernel)
theorem tw_233 : (Cond.code y_Marker_writeMark b_Marker_writeMark 4 none : Cond) ∈ xG := xin 233 (by decide +kernel) (by decide +kernel)
theorem tw_234 : (Cond.methodLink R_Marker 54 y_Summer_beginBehindBlock : Cond) ∈ xG := xin 234 (by decide +kernel) (by decide +kernel)
theorem tw_235 : (Cond.instanceMethod y_Summer_beginBehindBlock : Cond) ∈ xG := xin 235 (by decide +kernel) (by decide +kernel)
theorem tw_236 : (Cond.selects R_Summer y_Summer_beginBehindBlock y_Summer_beginBehindBlock : Cond) ∈ xG := xin 236 (by decide +kernel) (by decide +kernel)
theorem tw_237 : (Cond.code y_Summer_beginBehindBlock b_Summer_beginBehindBlock 2 none : Cond) ∈ xG := xin 237 (by decide +kernel) (by decide +kernel)
theorem tw_238 : (Cond.methodLink R_Marker 61 y_Summer_finish : Cond) ∈ xG := xin 238 (by decide +kernel) (by decide +kernel)
theorem tw_239 : (Cond.methodLink R_KeyMaker 111 y_KeyMaker_foldLastMark : Cond) ∈ xG := xin 239 (by decide +kernel) (by decide +kernel)
theorem tw_241 : (Cond.instanceMethod y_KeyMaker_foldLastMark : Cond) ∈ xG := xin 241 (by decide +kernel) (by decide +kernel)
theorem tw_242 : (Cond.code y_KeyMaker_foldLastMark b_KeyMaker_foldLastMark 3 none : Cond) ∈ xG := xin 242 (by decide +kernel) (by decide +kernel)
theorem tw_243 : (Cond.methodLink R_Law 36 y_KeyMaker_run : Cond) ∈ xG := xin 243 (by decide +kernel) (by decide +kernel)
theorem tw_244 : (Cond.instanceMethod y_KeyMaker_run : Cond) ∈ xG := xin 244 (by decide +kernel) (by decide +kernel)
theorem tw_245 : (Cond.selects R_KeyMaker y_KeyMaker_run y_KeyMaker_run : Cond) ∈ xG := xin 245 (by decide +kernel) (by decide +kernel)
theorem tw_246 : (Cond.code y_KeyMaker_run b_KeyMaker_run 4 (some .int) : Cond) ∈ xG := xin 246 (by decide +kernel) (by decide +kernel)
theorem tw_247 : (Cond.methodLink R_KeyMaker 83 Lib.Math.min.name : Cond) ∈ xG := xin 247 (by decide +kernel) (by decide +kernel)
theorem tw_248 : (Cond.static Lib.Math.min.name : Cond) ∈ xG := xin 248 (by decide +kernel) (by decide +kernel)
theorem tw_249 : (Cond.code Lib.Math.min.name Lib.Math.min.code 2 (some .int) : Cond) ∈ xG := xin 249 (by decide +kernel) (by decide +kernel)
theorem tw_250 : (Cond.methodLink R_Law 41 y_KeyMaker_left : Cond) ∈ xG := xin 250 (by decide +kernel) (by decide +kernel)
theorem tw_251 : (Cond.instanceMethod y_KeyMaker_left : Cond) ∈ xG := xin 251 (by decide +kernel) (by decide +kernel)
theorem tw_252 : (Cond.selects R_KeyMaker y_KeyMaker_left y_KeyMaker_left : Cond) ∈ xG := xin 252 (by decide +kernel) (by decide +kernel)
theorem tw_253 : (Cond.code y_KeyMaker_left b_KeyMaker_left 1 (some .int) : Cond) ∈ xG := xin 253 (by decide +kernel) (by decide +kernel)
theorem tw_254 : (Cond.methodLink R_Law 45 y_KeyMaker_key : Cond) ∈ xG := xin 254 (by decide +kernel) (by decide +kernel)
theorem tw_255 : (Cond.instanceMethod y_KeyMaker_key : Cond) ∈ xG := xin 255 (by decide +kernel) (by decide +kernel)
theorem tw_256 : (Cond.selects R_KeyMaker y_KeyMaker_key y_KeyMaker_key : Cond) ∈ xG := xin 256 (by decide +kernel) (by decide +kernel)
theorem tw_257 : (Cond.code y_KeyMaker_key b_KeyMaker_key 2 (some .int) : Cond) ∈ xG := xin 257 (by decide +kernel) (by decide +kernel)
theorem tw_258 : (Cond.methodLink R_Law 49 y_KeyMaker_reset : Cond) ∈ xG := xin 258 (by decide +kernel) (by decide +kernel)
theorem tw_259 : (Cond.instanceMethod y_KeyMaker_reset : Cond) ∈ xG := xin 259 (by decide +kernel) (by decide +kernel)
theorem tw_260 : (Cond.selects R_KeyMaker y_KeyMaker_reset y_KeyMaker_reset : Cond) ∈ xG := xin 260 (by decide +kernel) (by decide +kernel)
theorem tw_261 : (Cond.code y_KeyMaker_reset b_KeyMaker_reset 1 none : Cond) ∈ xG := xin 261 (by decide +kernel) (by decide +kernel)
theorem tw_262 : (Cond.methodLink R_Law 53 y_KeyMaker_many : Cond) ∈ xG := xin 262 (by decide +kernel) (by decide +kernel)
theorem tw_263 : (Cond.instanceMethod y_KeyMaker_many : Cond) ∈ xG := xin 263 (by decide +kernel) (by decide +kernel)
theorem tw_264 : (Cond.selects R_KeyMaker y_KeyMaker_many y_KeyMaker_many : Cond) ∈ xG := xin 264 (by decide +kernel) (by decide +kernel)
theorem tw_265 : (Cond.code y_KeyMaker_many b_KeyMaker_many 2 (some .int) : Cond) ∈ xG := xin 265 (by decide +kernel) (by decide +kernel)
theorem tw_266 : (Cond.methodLink R_Law 57 y_KeyMaker_sum : Cond) ∈ xG := xin 266 (by decide +kernel) (by decide +kernel)
theorem tw_267 : (Cond.instanceMethod y_KeyMaker_sum : Cond) ∈ xG := xin 267 (by decide +kernel) (by decide +kernel)
theorem tw_268 : (Cond.selects R_KeyMaker y_KeyMaker_sum y_KeyMaker_sum : Cond) ∈ xG := xin 268 (by decide +kernel) (by decide +kernel)
theorem tw_269 : (Cond.code y_KeyMaker_sum b_KeyMaker_sum 2 (some .int) : Cond) ∈ xG := xin 269 (by decide +kernel) (by decide +kernel)
theorem tw_270 : (Cond.methodLink R_KeyMaker 92 y_KeyMaker_isPlaceOfSum : Cond) ∈ xG := xin 270 (by decide +kernel) (by decide +kernel)
theorem tw_271 : (Cond.static y_KeyMaker_isPlaceOfSum : Cond) ∈ xG := xin 271 (by decide +kernel) (by decide +kernel)
theorem tw_272 : (Cond.code y_KeyMaker_isPlaceOfSum b_KeyMaker_isPlaceOfSum 1 (some .boolean) : Cond) ∈ xG := xin 272 (by decide +kernel) (by decide +kernel)
theorem tw_273 : (Cond.methodLink R_KeyMaker 95 y_Summer_writeSum : Cond) ∈ xG := xin 273 (by decide +kernel) (by decide +kernel)
theorem tw_274 : (Cond.methodLink R_Law 61 y_KeyMaker_mark : Cond) ∈ xG := xin 274 (by decide +kernel) (by decide +kernel)
theorem tw_275 : (Cond.instanceMethod y_KeyMaker_mark : Cond) ∈ xG := xin 275 (by decide +kernel) (by decide +kernel)
theorem tw_276 : (Cond.selects R_KeyMaker y_KeyMaker_mark y_KeyMaker_mark : Cond) ∈ xG := xin 276 (by decide +kernel) (by decide +kernel)
theorem tw_277 : (Cond.code y_KeyMaker_mark b_KeyMaker_mark 2 (some .int) : Cond) ∈ xG := xin 277 (by decide +kernel) (by decide +kernel)
theorem tw_278 : (Cond.methodLink R_Law 65 y_KeyMaker_word : Cond) ∈ xG := xin 278 (by decide +kernel) (by decide +kernel)
theorem tw_279 : (Cond.instanceMethod y_KeyMaker_word : Cond) ∈ xG := xin 279 (by decide +kernel) (by decide +kernel)
theorem tw_280 : (Cond.selects R_KeyMaker y_KeyMaker_word y_KeyMaker_word : Cond) ∈ xG := xin 280 (by decide +kernel) (by decide +kernel)
theorem tw_281 : (Cond.code y_KeyMaker_word b_KeyMaker_word 3 (some .int) : Cond) ∈ xG := xin 281 (by decide +kernel) (by decide +kernel)
theorem tw_282 : (Cond.fieldLink R_KeyMaker 102 "KeyMaker" "K" "[I" : Cond) ∈ xG := xin 282 (by decide +kernel) (by decide +kernel)
theorem tw_283 : (Cond.fieldLink R_KeyMaker 105 "KeyMaker" "H" "[I" : Cond) ∈ xG := xin 283 (by decide +kernel) (by decide +kernel)
theorem tw_284 : (Cond.classLink R_Law 10 R_Model : Cond) ∈ xG := xin 284 (by decide +kernel) (by decide +kernel)
theorem tw_285 : (Cond.instantiable R_Model 19 : Cond) ∈ xG := xin 285 (by decide +kernel) (by decide +kernel)
theorem tw_286 : (Cond.methodLink R_Law 12 y_Model_init : Cond) ∈ xG := xin 286 (by decide +kernel) (by decide +kernel)
theorem tw_287 : (Cond.instanceMethod y_Model_init : Cond) ∈ xG := xin 287 (by decide +kernel) (by decide +kernel)
theorem tw_288 : (Cond.code y_Model_init b_Model_init 5 none : Cond) ∈ xG := xin 288 (by decide +kernel) (by decide +kernel)
theorem tw_289 : (Cond.methodLink R_Model 1 objectInit : Cond) ∈ xG := xin 289 (by decide +kernel) (by decide +kernel)
theorem tw_290 : (Cond.methodLink R_Model 47 y_Model_root : Cond) ∈ xG := xin 290 (by decide +kernel) (by decide +kernel)
theorem tw_291 : (Cond.static y_Model_root : Cond) ∈ xG := xin 291 (by decide +kernel) (by decide +kernel)
theorem tw_292 : (Cond.code y_Model_root b_Model_root 8 (some .int) : Cond) ∈ xG := xin 292 (by decide +kernel) (by decide +kernel)
theorem tw_293 : (Cond.constantLong R_Model 55 68719476736 : Cond) ∈ xG := xin 293 (by decide +kernel) (by decide +kernel)
theorem tw_294 : (Cond.constantLong R_Model 53 2 : Cond) ∈ xG := xin 294 (by decide +kernel) (by decide +kernel)
theorem tw_295 : (Cond.methodLink R_Model 57 y_Model_isAtMost : Cond) ∈ xG := xin 295 (by decide +kernel) (by decide +kernel)
theorem tw_296 : (Cond.static y_Model_isAtMost : Cond) ∈ xG := xin 296 (by decide +kernel) (by decide +kernel)
theorem tw_297 : (Cond.code y_Model_isAtMost b_Model_isAtMost 24 (some .boolean) : Cond) ∈ xG := xin 297 (by decide +kernel) (by decide +kernel)
theorem tw_298 : (Cond.constantLong R_Model 51 262143 : Cond) ∈ xG := xin 298 (by decide +kernel) (by decide +kernel)
theorem tw_299 : (Cond.fieldLink R_Model 7 "KeyMakerModel" "cubes" "[I" : Cond) ∈ xG := xin 299 (by decide +kernel) (by decide +kernel)
theorem tw_300 : (Cond.fieldLink R_Model 13 "KeyMakerModel" "squares" "[I" : Cond) ∈ xG := xin 300 (by decide +kernel) (by decide +kernel)
theorem tw_301 : (Cond.fieldLink R_Model 16 "KeyMakerModel" "secret" "[B" : Cond) ∈ xG := xin 301 (by decide +kernel) (by decide +kernel)
theorem tw_302 : (Cond.fieldLink R_Model 76 "KeyMakerModel" "secretSize" "I" : Cond) ∈ xG := xin 302 (by decide +kernel) (by decide +kernel)
theorem tw_303 : (Cond.fieldLink R_Model 20 "KeyMakerModel" "grain" "[B" : Cond) ∈ xG := xin 303 (by decide +kernel) (by decide +kernel)
theorem tw_304 : (Cond.fieldLink R_Model 94 "KeyMakerModel" "grainSize" "I" : Cond) ∈ xG := xin 304 (by decide +kernel) (by decide +kernel)
theorem tw_305 : (Cond.fieldLink R_Model 86 "KeyMakerModel" "isStarted" "Z" : Cond) ∈ xG := xin 305 (by decide +kernel) (by decide +kernel)
theorem tw_306 : (Cond.fieldLink R_Model 100 "KeyMakerModel" "turns" "I" : Cond) ∈ xG := xin 306 (by decide +kernel) (by decide +kernel)
theorem tw_307 : (Cond.fieldLink R_Model 97 "KeyMakerModel" "wanted" "I" : Cond) ∈ xG := xin 307 (by decide +kernel) (by decide +kernel)
theorem tw_308 : (Cond.fieldLink R_Model 103 "KeyMakerModel" "done" "I" : Cond) ∈ xG := xin 308 (by decide +kernel) (by decide +kernel)
theorem tw_309 : (Cond.fieldLink R_Model 23 "KeyMakerModel" "last" "[B" : Cond) ∈ xG := xin 309 (by decide +kernel) (by decide +kernel)
theorem tw_310 : (Cond.fieldLink R_Model 26 "KeyMakerModel" "parts" "[B" : Cond) ∈ xG := xin 310 (by decide +kernel) (by decide +kernel)
theorem tw_311 : (Cond.fieldLink R_Model 29 "KeyMakerModel" "row" "[B" : Cond) ∈ xG := xin 311 (by decide +kernel) (by decide +kernel)
theorem tw_312 : (Cond.fieldLink R_Model 61 "KeyMakerModel" "rowSize" "I" : Cond) ∈ xG := xin 312 (by decide +kernel) (by decide +kernel)
theorem tw_313 : (Cond.fieldLink R_Model 32 "KeyMakerModel" "result" "[B" : Cond) ∈ xG := xin 313 (by decide +kernel) (by decide +kernel)
theorem tw_314 : (Cond.fieldLink R_Model 35 "KeyMakerModel" "state" "[I" : Cond) ∈ xG := xin 314 (by decide +kernel) (by decide +kernel)
theorem tw_315 : (Cond.fieldLink R_Model 38 "KeyMakerModel" "now" "[I" : Cond) ∈ xG := xin 315 (by decide +kernel) (by decide +kernel)
theorem tw_316 : (Cond.fieldLink R_Model 41 "KeyMakerModel" "words" "[I" : Cond) ∈ xG := xin 316 (by decide +kernel) (by decide +kernel)
theorem tw_317 : (Cond.fieldLink R_Model 44 "KeyMakerModel" "padded" "[B" : Cond) ∈ xG := xin 317 (by decide +kernel) (by decide +kernel)
theorem tw_357 : (Cond.arrayClass .byte : Cond) ∈ xG := xin 357 (by decide +kernel) (by decide +kernel)
theorem tw_358 : (Cond.methodLink R_Law 68 y_Model_word : Cond) ∈ xG := xin 358 (by decide +kernel) (by decide +kernel)
theorem tw_359 : (Cond.instanceMethod y_Model_word : Cond) ∈ xG := xin 359 (by decide +kernel) (by decide +kernel)
theorem tw_360 : (Cond.selects R_Model y_Model_word y_Model_word : Cond) ∈ xG := xin 360 (by decide +kernel) (by decide +kernel)
theorem tw_361 : (Cond.code y_Model_word b_Model_word 3 (some .int) : Cond) ∈ xG := xin 361 (by decide +kernel) (by decide +kernel)
theorem tw_362 : (Cond.methodLink R_Law 17 y_Model_password : Cond) ∈ xG := xin 362 (by decide +kernel) (by decide +kernel)
theorem tw_363 : (Cond.instanceMethod y_Model_password : Cond) ∈ xG := xin 363 (by decide +kernel) (by decide +kernel)
theorem tw_364 : (Cond.selects R_Model y_Model_password y_Model_password : Cond) ∈ xG := xin 364 (by decide +kernel) (by decide +kernel)
theorem tw_365 : (Cond.code y_Model_password b_Model_password 2 (some .boolean) : Cond) ∈ xG := xin 365 (by decide +kernel) (by decide +kernel)
theorem tw_366 : (Cond.methodLink R_Model 90 y_Model_takes : Cond) ∈ xG := xin 366 (by decide +kernel) (by decide +kernel)
theorem tw_368 : (Cond.instanceMethod y_Model_takes : Cond) ∈ xG := xin 368 (by decide +kernel) (by decide +kernel)
theorem tw_369 : (Cond.code y_Model_takes b_Model_takes 2 (some .boolean) : Cond) ∈ xG := xin 369 (by decide +kernel) (by decide +kernel)
theorem tw_370 : (Cond.methodLink R_Law 21 y_Model_four : Cond) ∈ xG := xin 370 (by decide +kernel) (by decide +kernel)
theorem tw_371 : (Cond.instanceMethod y_Model_four : Cond) ∈ xG := xin 371 (by decide +kernel) (by decide +kernel)
theorem tw_372 : (Cond.selects R_Model y_Model_four y_Model_four : Cond) ∈ xG := xin 372 (by decide +kernel) (by decide +kernel)
theorem tw_373 : (Cond.code y_Model_four b_Model_four 3 (some .boolean) : Cond) ∈ xG := xin 373 (by decide +kernel) (by decide +kernel)
theorem tw_374 : (Cond.methodLink R_Law 25 y_Model_salt : Cond) ∈ xG := xin 374 (by decide +kernel) (by decide +kernel)
theorem tw_375 : (Cond.instanceMethod y_Model_salt : Cond) ∈ xG := xin 375 (by decide +kernel) (by decide +kernel)
theorem tw_376 : (Cond.selects R_Model y_Model_salt y_Model_salt : Cond) ∈ xG := xin 376 (by decide +kernel) (by decide +kernel)
theorem tw_377 : (Cond.code y_Model_salt b_Model_salt 2 (some .boolean) : Cond) ∈ xG := xin 377 (by decide +kernel) (by decide +kernel)
theorem tw_378 : (Cond.methodLink R_Law 30 y_Model_start : Cond) ∈ xG := xin 378 (by decide +kernel) (by decide +kernel)
theorem tw_379 : (Cond.instanceMethod y_Model_start : Cond) ∈ xG := xin 379 (by decide +kernel) (by decide +kernel)
theorem tw_380 : (Cond.selects R_Model y_Model_start y_Model_start : Cond) ∈ xG := xin 380 (by decide +kernel) (by decide +kernel)
theorem tw_381 : (Cond.code y_Model_start b_Model_start 4 (some .int) : Cond) ∈ xG := xin 381 (by decide +kernel) (by decide +kernel)
theorem tw_382 : (Cond.methodLink R_Model 106 y_Model_partCount : Cond) ∈ xG := xin 382 (by decide +kernel) (by decide +kernel)
theorem tw_384 : (Cond.instanceMethod y_Model_partCount : Cond) ∈ xG := xin 384 (by decide +kernel) (by decide +kernel)
theorem tw_385 : (Cond.code y_Model_partCount b_Model_partCount 1 (some .int) : Cond) ∈ xG := xin 385 (by decide +kernel) (by decide +kernel)
theorem tw_386 : (Cond.methodLink R_Law 44 y_Model_left : Cond) ∈ xG := xin 386 (by decide +kernel) (by decide +kernel)
theorem tw_387 : (Cond.instanceMethod y_Model_left : Cond) ∈ xG := xin 387 (by decide +kernel) (by decide +kernel)
theorem tw_388 : (Cond.selects R_Model y_Model_left y_Model_left : Cond) ∈ xG := xin 388 (by decide +kernel) (by decide +kernel)
theorem tw_389 : (Cond.code y_Model_left b_Model_left 1 (some .int) : Cond) ∈ xG := xin 389 (by decide +kernel) (by decide +kernel)
theorem tw_390 : (Cond.methodLink R_Law 35 y_Model_step : Cond) ∈ xG := xin 390 (by decide +kernel) (by decide +kernel)
theorem tw_391 : (Cond.instanceMethod y_Model_step : Cond) ∈ xG := xin 391 (by decide +kernel) (by decide +kernel)
theorem tw_392 : (Cond.selects R_Model y_Model_step y_Model_step : Cond) ∈ xG := xin 392 (by decide +kernel) (by decide +kernel)
theorem tw_393 : (Cond.code y_Model_step b_Model_step 3 (some .int) : Cond) ∈ xG := xin 393 (by decide +kernel) (by decide +kernel)
theorem tw_394 : (Cond.methodLink R_Model 110 y_Model_left : Cond) ∈ xG := xin 394 (by decide +kernel) (by decide +kernel)
theorem tw_395 : (Cond.methodLink R_Model 113 y_Model_markOf : Cond) ∈ xG := xin 395 (by decide +kernel) (by decide +kernel)
theorem tw_397 : (Cond.instanceMethod y_Model_markOf : Cond) ∈ xG := xin 397 (by decide +kernel) (by decide +kernel)
theorem tw_398 : (Cond.code y_Model_markOf b_Model_markOf 4 none : Cond) ∈ xG := xin 398 (by decide +kernel) (by decide +kernel)
theorem tw_399 : (Cond.methodLink R_Model 79 y_Model_sumOf : Cond) ∈ xG := xin 399 (by decide +kernel) (by decide +kernel)
theorem tw_401 : (Cond.instanceMethod y_Model_sumOf : Cond) ∈ xG := xin 401 (by decide +kernel) (by decide +kernel)
theorem tw_402 : (Cond.code y_Model_sumOf b_Model_sumOf 4 none : Cond) ∈ xG := xin 402 (by decide +kernel) (by decide +kernel)
theorem tw_403 : (Cond.methodLink R_Model 65 y_Model_lay : Cond) ∈ xG := xin 403 (by decide +kernel) (by decide +kernel)
theorem tw_405 : (Cond.instanceMethod y_Model_lay : Cond) ∈ xG := xin 405 (by decide +kernel) (by decide +kernel)
theorem tw_406 : (Cond.code y_Model_lay b_Model_lay 2 none : Cond) ∈ xG := xin 406 (by decide +kernel) (by decide +kernel)
theorem tw_407 : (Cond.methodLink R_Model 83 y_Model_reckon : Cond) ∈ xG := xin 407 (by decide +kernel) (by decide +kernel)
theorem tw_409 : (Cond.instanceMethod y_Model_reckon : Cond) ∈ xG := xin 409 (by decide +kernel) (by decide +kernel)
theorem tw_410 : (Cond.code y_Model_reckon b_Model_reckon 3 none : Cond) ∈ xG := xin 410 (by decide +kernel) (by decide +kernel)
theorem tw_411 : (Cond.methodLink R_Model 69 y_Model_mix : Cond) ∈ xG := xin 411 (by decide +kernel) (by decide +kernel)
theorem tw_413 : (Cond.instanceMethod y_Model_mix : Cond) ∈ xG := xin 413 (by decide +kernel) (by decide +kernel)
theorem tw_414 : (Cond.code y_Model_mix b_Model_mix 8 none : Cond) ∈ xG := xin 414 (by decide +kernel) (by decide +kernel)
theorem tw_415 : (Cond.methodLink R_Model 72 y_Model_rot : Cond) ∈ xG := xin 415 (by decide +kernel) (by decide +kernel)
theorem tw_416 : (Cond.static y_Model_rot : Cond) ∈ xG := xin 416 (by decide +kernel) (by decide +kernel)
theorem tw_417 : (Cond.code y_Model_rot b_Model_rot 2 (some .int) : Cond) ∈ xG := xin 417 (by decide +kernel) (by decide +kernel)
theorem tw_418 : (Cond.methodLink R_Law 40 y_Model_run : Cond) ∈ xG := xin 418 (by decide +kernel) (by decide +kernel)
theorem tw_419 : (Cond.instanceMethod y_Model_run : Cond) ∈ xG := xin 419 (by decide +kernel) (by decide +kernel)
theorem tw_420 : (Cond.selects R_Model y_Model_run y_Model_run : Cond) ∈ xG := xin 420 (by decide +kernel) (by decide +kernel)
theorem tw_421 : (Cond.code y_Model_run b_Model_run 3 (some .int) : Cond) ∈ xG := xin 421 (by decide +kernel) (by decide +kernel)
theorem tw_422 : (Cond.methodLink R_Model 116 y_Model_step : Cond) ∈ xG := xin 422 (by decide +kernel) (by decide +kernel)
theorem tw_423 : (Cond.methodLink R_Law 48 y_Model_key : Cond) ∈ xG := xin 423 (by decide +kernel) (by decide +kernel)
theorem tw_424 : (Cond.instanceMethod y_Model_key : Cond) ∈ xG := xin 424 (by decide +kernel) (by decide +kernel)
theorem tw_425 : (Cond.selects R_Model y_Model_key y_Model_key : Cond) ∈ xG := xin 425 (by decide +kernel) (by decide +kernel)
theorem tw_426 : (Cond.code y_Model_key b_Model_key 3 (some .int) : Cond) ∈ xG := xin 426 (by decide +kernel) (by decide +kernel)
theorem tw_427 : (Cond.methodLink R_Law 52 y_Model_reset : Cond) ∈ xG := xin 427 (by decide +kernel) (by decide +kernel)
theorem tw_428 : (Cond.instanceMethod y_Model_reset : Cond) ∈ xG := xin 428 (by decide +kernel) (by decide +kernel)
theorem tw_429 : (Cond.selects R_Model y_Model_reset y_Model_reset : Cond) ∈ xG := xin 429 (by decide +kernel) (by decide +kernel)
theorem tw_430 : (Cond.code y_Model_reset b_Model_reset 1 none : Cond) ∈ xG := xin 430 (by decide +kernel) (by decide +kernel)
theorem tw_431 : (Cond.methodLink R_Law 56 y_Model_many : Cond) ∈ xG := xin 431 (by decide +kernel) (by decide +kernel)
theorem tw_432 : (Cond.instanceMethod y_Model_many : Cond) ∈ xG := xin 432 (by decide +kernel) (by decide +kernel)
theorem tw_433 : (Cond.selects R_Model y_Model_many y_Model_many : Cond) ∈ xG := xin 433 (by decide +kernel) (by decide +kernel)
theorem tw_434 : (Cond.code y_Model_many b_Model_many 2 (some .int) : Cond) ∈ xG := xin 434 (by decide +kernel) (by decide +kernel)
theorem tw_435 : (Cond.methodLink R_Law 60 y_Model_sum : Cond) ∈ xG := xin 435 (by decide +kernel) (by decide +kernel)
theorem tw_436 : (Cond.instanceMethod y_Model_sum : Cond) ∈ xG := xin 436 (by decide +kernel) (by decide +kernel)
theorem tw_437 : (Cond.selects R_Model y_Model_sum y_Model_sum : Cond) ∈ xG := xin 437 (by decide +kernel) (by decide +kernel)
theorem tw_438 : (Cond.code y_Model_sum b_Model_sum 2 (some .int) : Cond) ∈ xG := xin 438 (by decide +kernel) (by decide +kernel)
theorem tw_439 : (Cond.methodLink R_Law 64 y_Model_mark : Cond) ∈ xG := xin 439 (by decide +kernel) (by decide +kernel)
theorem tw_440 : (Cond.instanceMethod y_Model_mark : Cond) ∈ xG := xin 440 (by decide +kernel) (by decide +kernel)
theorem tw_441 : (Cond.selects R_Model y_Model_mark y_Model_mark : Cond) ∈ xG := xin 441 (by decide +kernel) (by decide +kernel)
theorem tw_442 : (Cond.code y_Model_mark b_Model_mark 2 (some .int) : Cond) ∈ xG := xin 442 (by decide +kernel) (by decide +kernel)
end
section
/-! ===== Int32 by its bits: bt x i ===== -/
def bt (x : Int32) (i : Nat) : Bool := x.toBitVec.getLsbD i
theorem b_ext {x y : Int32} (h : ∀ i, i < 32 → bt x i = bt y i) : x = y := Int32.toBitVec_inj.mp (BitVec.eq_of_getLsbD_eq (fun i hi => h i hi))
theorem b_or (x y : Int32) (i : Nat) : bt (x ||| y) i = (bt x i || bt y i) := by unfold bt; rw [Int32.toBitVec_or, BitVec.getLsbD_or]
theorem b_and (x y : Int32) (i : Nat) : bt (x &&& y) i = (bt x i && bt y i) := by unfold bt; rw [Int32.toBitVec_and, BitVec.getLsbD_and]
theorem b_xor (x y : Int32) (i : Nat) : bt (x ^^^ y) i = (bt x i ^^ bt y i) := by unfold bt; rw [Int32.toBitVec_xor, BitVec.getLsbD_xor]
theorem b_big {x : Int32} {i : Nat} (h : 32 ≤ i) : bt x i = false := BitVec.getLsbD_of_ge _ _ h
theorem b_255 (i : Nat) : bt 255 i = decide (i < 8) := by
  rcases Nat.lt_or_ge i 32 with h | h
  · exact (by decide +kernel : ∀ i, i < 32 → bt 255 i = decide (i < 8)) i h
  · rw [b_big h, decide_eq_false (by omega)]
theorem b_65535 (i : Nat) : bt 65535 i = decide (i < 16) := by
  rcases Nat.lt_or_ge i 32 with h | h
  · exact (by decide +kernel : ∀ i, i < 32 → bt 65535 i = decide (i < 16)) i h
  · rw [b_big h, decide_eq_false (by omega)]
theorem b_m1 : ∀ i, i < 32 → bt (-1) i = true := by decide +kernel
theorem b_0 (i : Nat) : bt 0 i = false := BitVec.getLsbD_zero
theorem s_l : ∀ n, n < 32 → ((nI n &&& 31).toBitVec.smod 32).toNat = n := by decide +kernel
theorem s_u : ∀ n, n < 32 → (((nI n).toUInt32 &&& Int32.toUInt32 31).toBitVec % 32).toNat = n := by decide +kernel
theorem b_shl (n : Nat) (hn : n < 32) (x : Int32) {i : Nat} (hi : i < 32) : bt (x <<< (nI n &&& 31)) i = (decide (n ≤ i) && bt x (i - n)) := by
  unfold bt
  rw [Int32.toBitVec_shiftLeft]
  show (x.toBitVec <<< ((nI n &&& 31).toBitVec.smod 32).toNat).getLsbD i = _
  rw [s_l n hn, BitVec.getLsbD_shiftLeft]
  rcases Nat.lt_or_ge i n with h | h
  · simp [h, Nat.not_le.mpr h]
  · simp [hi, h, Nat.not_lt.mpr h]
theorem b_ushr (n : Nat) (hn : n < 32) (x : Int32) (i : Nat) : bt ((x.toUInt32 >>> ((nI n).toUInt32 &&& Int32.toUInt32 31)).toInt32) i = bt x (n + i) := by
  show (x.toUInt32 >>> ((nI n).toUInt32 &&& Int32.toUInt32 31)).toBitVec.getLsbD i = x.toUInt32.toBitVec.getLsbD (n + i)
  rw [UInt32.toBitVec_shiftRight]
  show (x.toUInt32.toBitVec >>> (((nI n).toUInt32 &&& Int32.toUInt32 31).toBitVec % 32).toNat).getLsbD i = _
  rw [s_u n hn, BitVec.getLsbD_ushiftRight]
theorem b_sshr (n : Nat) (hn : n < 32) (x : Int32) {i : Nat} (hi : i < 32) : bt (x >>> (nI n &&& 31)) i = if n + i < 32 then bt x (n + i) else bt x 31 := by
  unfold bt
  rw [Int32.toBitVec_shiftRight]
  show (x.toBitVec.sshiftRight ((nI n &&& 31).toBitVec.smod 32).toNat).getLsbD i = _
  rw [s_l n hn, BitVec.getLsbD_sshiftRight, BitVec.msb_eq_getLsbD_last]
  simp [hi]
theorem b_shl8 (x : Int32) {i : Nat} (hi : i < 32) : bt (x <<< ((8 : Int32) &&& 31)) i = (decide (8 ≤ i) && bt x (i - 8)) := b_shl 8 (by omega) x hi
theorem b_shl16 (x : Int32) {i : Nat} (hi : i < 32) : bt (x <<< ((16 : Int32) &&& 31)) i = (decide (16 ≤ i) && bt x (i - 16)) := b_shl 16 (by omega) x hi
theorem b_shl24 (x : Int32) {i : Nat} (hi : i < 32) : bt (x <<< ((24 : Int32) &&& 31)) i = (decide (24 ≤ i) && bt x (i - 24)) := b_shl 24 (by omega) x hi
theorem b_sshr8 (x : Int32) {i : Nat} (hi : i < 32) : bt (x >>> ((8 : Int32) &&& 31)) i = if 8 + i < 32 then bt x (8 + i) else bt x 31 := b_sshr 8 (by omega) x hi
/-! ===== a byte read unsigned ===== -/
theorem bp_b (x : Int32) : x.toInt8.toInt32 &&& 255 = x &&& 255 := by
  apply Int32.toBitVec_inj.mp
  rw [Int32.toBitVec_and, Int32.toBitVec_and, Int8.toBitVec_toInt32, Int32.toBitVec_toInt8]
  apply BitVec.eq_of_getLsbD_eq
  intro i hi
  rw [BitVec.getLsbD_and, BitVec.getLsbD_and]
  have hm : ∀ i < 32, 8 ≤ i → (255 : Int32).toBitVec.getLsbD i = false := by decide
  rcases Nat.lt_or_ge i 8 with z | z
  · rw [BitVec.getLsbD_signExtend, BitVec.getLsbD_signExtend, if_pos z, if_pos hi]
    simp only [z, hi, decide_true, Bool.true_and]
  · rw [hm i hi z]; simp
/-- x >>> n -/
def xu (x n : Int32) : Int32 := (x.toUInt32 >>> (n.toUInt32 &&& Int32.toUInt32 31)).toInt32
/-- x turned n places down -/
def xr (x n : Int32) : Int32 := xu x n ||| (x <<< (-n &&& 31))
theorem xu_bt (n : Nat) (hn : n < 32) (x : Int32) (i : Nat) : bt (xu x (nI n)) i = bt x (n + i) := b_ushr n hn x i
/-- a byte: 0 .. 255 -/
def kr (x : Int32) : Prop := x &&& 255 = x
theorem kr_bt {x : Int32} (h : kr x) {i : Nat} (hi : 8 ≤ i) : bt x i = false := by
  have h' : x &&& 255 = x := h
  have e : bt (x &&& 255) i = bt x i := by rw [h']
  rw [b_and, b_255, decide_eq_false (by omega), Bool.and_false] at e
  exact e.symm
theorem kr_of {x : Int32} (h : ∀ i, 8 ≤ i → i < 32 → bt x i = false) : kr x := by
  apply b_ext
  intro i hi
  rw [b_and, b_255]
  rcases Nat.lt_or_ge i 8 with z | z
  · rw [decide_eq_true z, Bool.and_true]
  · rw [h i z hi, Bool.false_and]
theorem kr_and (x : Int32) : kr (x &&& 255) := kr_of fun i h _ => by rw [b_and, b_255, decide_eq_false (by omega), Bool.and_false]
theorem kr_xor {x y : Int32} (hx : kr x) (hy : kr y) : kr (x ^^^ y) := kr_of fun i h _ => by rw [b_xor, kr_bt hx h, kr_bt hy h]; rfl
theorem kr_xor_and (x y : Int32) : (x ^^^ y) &&& 255 = (x &&& 255) ^^^ (y &&& 255) := by
  apply b_ext
  intro i _
  simp only [b_and, b_xor]
  cases bt x i <;> cases bt y i <;> cases bt 255 i <;> rfl
theorem kr_nI : ∀ k, k < 256 → nI k &&& 255 = nI k := by decide +kernel
theorem kr_small {x : Int32} (h1 : ¬ x < 0) (h2 : ¬ 255 < x) : kr x := by
  obtain ⟨j, hj, rfl⟩ := nI_of2 (M := 255) (n := 255) (by decide) h1 (Int32.not_lt.mp h2)
  exact kr_nI j (by omega)
theorem kr_zero : kr 0 := by unfold kr; decide
theorem kr_128 : kr 128 := by unfold kr; decide
theorem km_push (x b : Int32) (h : kr b) : x <<< ((8 : Int32) &&& 31) ||| b = x * 256 + b := by
  apply Int32.toBitVec_inj.mp
  rw [Int32.toBitVec_or, Int32.toBitVec_add, Int32.toBitVec_mul]
  have e1 : (x <<< ((8 : Int32) &&& 31)).toBitVec = x.toBitVec <<< 8 := by
    rw [Int32.toBitVec_shiftLeft]
    show x.toBitVec <<< (((8 : Int32) &&& 31).toBitVec.smod 32).toNat = _
    rw [show (((8 : Int32) &&& 31).toBitVec.smod 32).toNat = 8 by decide +kernel]
  have e2 : x.toBitVec * (256 : Int32).toBitVec = x.toBitVec <<< 8 := by
    rw [show (256 : Int32).toBitVec = BitVec.twoPow 32 8 by decide +kernel, BitVec.mul_twoPow_eq_shiftLeft]
  rw [e1, e2]
  symm
  apply BitVec.add_eq_or_of_and_eq_zero
  apply BitVec.eq_of_getLsbD_eq
  intro i hi
  rw [BitVec.getLsbD_and, BitVec.getLsbD_shiftLeft, BitVec.getLsbD_zero]
  rcases Nat.lt_or_ge i 8 with z | z
  · simp [z]
  · rw [show b.toBitVec.getLsbD i = false from kr_bt h z, Bool.and_false]
/-- byte i of a word, the highest first -/
def km_by (x : Int32) : Nat → Int32
  | 0 => xu x 24
  | 1 => xu x 16 &&& 255
  | 2 => xu x 8 &&& 255
  | _ => x &&& 255
theorem km_by_kr (x : Int32) (i : Nat) : kr (km_by x i) := by
  unfold km_by
  split
  · exact kr_of fun i h _ => by
      show bt (xu x (nI 24)) i = false
      rw [xu_bt 24 (by omega)]
      exact b_big (by omega)
  · exact kr_and _
  · exact kr_and _
  · exact kr_and _
theorem km_by_nar (x : Int32) (i : Nat) (hi : i < 4) : (x >>> (nI (24 - 8 * i) &&& 31)).toInt8.toInt32 &&& 255 = km_by x i := by
  rw [bp_b]
  apply b_ext
  intro j hj
  rw [b_and, b_255, b_sshr _ (by omega) x hj]
  have hc : i = 0 ∨ i = 1 ∨ i = 2 ∨ i = 3 := by omega
  rcases hc with rfl | rfl | rfl | rfl
  · show _ = bt (xu x (nI 24)) j
    rw [xu_bt 24 (by omega)]
    rcases Nat.lt_or_ge j 8 with z | z
    · rw [if_pos (by omega), decide_eq_true z, Bool.and_true]
    · rw [decide_eq_false (by omega), Bool.and_false, b_big (by omega)]
  · show _ = bt (xu x (nI 16) &&& 255) j
    rw [b_and, xu_bt 16 (by omega), b_255]
    rcases Nat.lt_or_ge j 8 with z | z
    · rw [if_pos (by omega)]
    · rw [decide_eq_false (by omega), Bool.and_false, Bool.and_false]
  · show _ = bt (xu x (nI 8) &&& 255) j
    rw [b_and, xu_bt 8 (by omega), b_255]
    rcases Nat.lt_or_ge j 8 with z | z
    · rw [if_pos (by omega)]
    · rw [decide_eq_false (by omega), Bool.and_false, Bool.and_false]
  · show _ = bt (x &&& 255) j
    rw [b_and, b_255]
    rcases Nat.lt_or_ge j 8 with z | z
    · rw [if_pos (by omega)]
      show (bt x (0 + j) && _) = _
      rw [Nat.zero_add]
    · rw [decide_eq_false (by omega), Bool.and_false, Bool.and_false]
end
section
/-! the sum, the mark and the key's turns, as functions -/
def kK : Nat → Int32 := fun i => ([1116352408, 1899447441, -1245643825, -373957723, 961987163, 1508970993, -1841331548, -1424204075, -670586216, 310598401, 607225278, 1426881987, 1925078388, -2132889090, -1680079193, -1046744716, -459576895, -272742522, 264347078, 604807628, 770255983, 1249150122, 1555081692, 1996064986, -1740746414, -1473132947, -1341970488, -1084653625, -958395405, -710438585, 113926993, 338241895, 666307205, 773529912, 1294757372, 1396182291, 1695183700, 1986661051, -2117940946, -1838011259, -1564481375, -1474664885, -1035236496, -949202525, -778901479, -694614492, -200395387, 275423344, 430227734, 506948616, 659060556, 883997877, 958139571, 1322822218, 1537002063, 1747873779, 1955562222, 2024104815, -2067236844, -1933114872, -1866530822, -1538233109, -1090935817, -965641998] : List Int32).getD i 0
def kH : Nat → Int32 := fun i => ([1779033703, -1150833019, 1013904242, -1521486534, 1359893119, -1694144372, 528734635, 1541459225] : List Int32).getD i 0
def km_z0 (x : Int32) : Int32 := xr x 7 ^^^ xr x 18 ^^^ xu x 3
def km_z1 (x : Int32) : Int32 := xr x 17 ^^^ xr x 19 ^^^ xu x 10
def km_y0 (x : Int32) : Int32 := xr x 2 ^^^ xr x 13 ^^^ xr x 22
def km_y1 (x : Int32) : Int32 := xr x 6 ^^^ xr x 11 ^^^ xr x 25
/-- the words of a block, k of the 48 further ones laid -/
def km_w (b : Nat → Int32) : Nat → Nat → Int32
  | 0 => b
  | k + 1 => upd (km_w b k) (16 + k) (km_z1 (km_w b k (14 + k)) + km_w b k (9 + k) + km_z0 (km_w b k (1 + k)) + km_w b k k)
def km_W (b : Nat → Int32) : Nat → Int32 := km_w b 48
theorem km_w_stay (b : Nat → Int32) (k d j : Nat) (h : j < 16 + k) : km_w b (k + d) j = km_w b k j := by
  induction d with
  | zero => rfl
  | succ d ih =>
    rw [← ih]
    show upd (km_w b (k + d)) (16 + (k + d)) _ j = _
    exact pk_un (by omega)
theorem km_W_at (b : Nat → Int32) {k j : Nat} (h : j < 16 + k) (hk : k ≤ 48) : km_W b j = km_w b k j := by
  have e := km_w_stay b k (48 - k) j h
  rw [Nat.add_sub_cancel' hk] at e
  exact e
theorem km_W_lo (b : Nat → Int32) {j : Nat} (h : j < 16) : km_W b j = b j := km_W_at (k := 0) b (by omega) (by omega)
theorem km_W_hi (b : Nat → Int32) {t : Nat} (h1 : 16 ≤ t) (h2 : t < 64) : km_W b t = km_z1 (km_W b (t - 2)) + km_W b (t - 7) + km_z0 (km_W b (t - 15)) + km_W b (t - 16) := by
  obtain ⟨k, rfl⟩ : ∃ k, t = 16 + k := ⟨t - 16, by omega⟩
  rw [show 16 + k - 2 = 14 + k by omega, show 16 + k - 7 = 9 + k by omega, show 16 + k - 15 = 1 + k by omega, show 16 + k - 16 = k by omega]
  rw [km_W_at (k := k + 1) (j := 16 + k) b (by omega) (by omega), km_W_at (k := k) (j := 14 + k) b (by omega) (by omega), km_W_at (k := k) (j := 9 + k) b (by omega) (by omega), km_W_at (k := k) (j := 1 + k) b (by omega) (by omega), km_W_at (k := k) (j := k) b (by omega) (by omega)]
  show upd _ (16 + k) _ (16 + k) = _
  exact pk_us
theorem km_W_congr {b b' : Nat → Int32} (h : ∀ j, j < 16 → b j = b' j) : ∀ t, t < 64 → km_W b t = km_W b' t := by
  intro t
  induction t using Nat.strongRecOn with
  | _ t ih =>
    intro ht
    rcases Nat.lt_or_ge t 16 with z | z
    · rw [km_W_lo b z, km_W_lo b' z, h t z]
    · rw [km_W_hi b z ht, km_W_hi b' z ht, ih (t - 2) (by omega) (by omega), ih (t - 7) (by omega) (by omega), ih (t - 15) (by omega) (by omega), ih (t - 16) (by omega) (by omega)]
/-- a round: the eight words a .. h are s 0 .. s 7 -/
def km_u (k w : Int32) (s : Nat → Int32) : Int32 := s 7 + km_y1 (s 4) + (s 4 &&& s 5 ^^^ (s 4 ^^^ (-1)) &&& s 6) + k + w
def km_v (s : Nat → Int32) : Int32 := km_y0 (s 0) + (s 0 &&& s 1 ^^^ s 0 &&& s 2 ^^^ s 1 &&& s 2)
def km_rd (k w : Int32) (s : Nat → Int32) : Nat → Int32
  | 0 => km_u k w s + km_v s
  | 1 => s 0
  | 2 => s 1
  | 3 => s 2
  | 4 => s 3 + km_u k w s
  | 5 => s 4
  | 6 => s 5
  | _ => s 6
def km_r (w s : Nat → Int32) : Nat → Nat → Int32
  | 0 => s
  | t + 1 => km_rd (kK t) (w t) (km_r w s t)
theorem km_r_congr {w w' : Nat → Int32} (s : Nat → Int32) : ∀ n, (∀ t, t < n → w t = w' t) → km_r w s n = km_r w' s n := by
  intro n
  induction n with
  | zero => intro _; rfl
  | succ n ih =>
    intro h
    show km_rd (kK n) (w n) (km_r w s n) = km_rd (kK n) (w' n) (km_r w' s n)
    rw [ih (fun t ht => h t (by omega)), h n (by omega)]
theorem km_rd_congr {s s' : Nat → Int32} (k w : Int32) (h : ∀ j, j < 8 → s j = s' j) : km_rd k w s = km_rd k w s' := by
  have h0 := h 0 (by omega)
  have h1 := h 1 (by omega)
  have h2 := h 2 (by omega)
  have h3 := h 3 (by omega)
  have h4 := h 4 (by omega)
  have h5 := h 5 (by omega)
  have h6 := h 6 (by omega)
  have h7 := h 7 (by omega)
  have eu : km_u k w s = km_u k w s' := by unfold km_u; rw [h4, h5, h6, h7]
  have ev : km_v s = km_v s' := by unfold km_v; rw [h0, h1, h2]
  funext j
  unfold km_rd
  split
  · rw [eu, ev]
  · exact h0
  · exact h1
  · exact h2
  · rw [eu, h3]
  · exact h4
  · exact h5
  · exact h6
theorem km_r_congr8 {s s' : Nat → Int32} (w : Nat → Int32) (h : ∀ j, j < 8 → s j = s' j) : ∀ n j, j < 8 → km_r w s n j = km_r w s' n j := by
  intro n
  induction n with
  | zero => exact h
  | succ n ih =>
    intro j hj
    show km_rd (kK n) (w n) (km_r w s n) j = km_rd (kK n) (w n) (km_r w s' n) j
    rw [km_rd_congr (kK n) (w n) ih]
/-- the eight words behind a block of sixteen words b -/
def km_c (b s : Nat → Int32) : Nat → Int32 := fun j => s j + km_r (km_W b) s 64 j
theorem km_c_congr {b b' : Nat → Int32} (s : Nat → Int32) (h : ∀ j, j < 16 → b j = b' j) : km_c b s = km_c b' s := by
  unfold km_c
  rw [km_r_congr s 64 (km_W_congr h)]
theorem km_c_congr8 {s s' : Nat → Int32} (b : Nat → Int32) (h : ∀ j, j < 8 → s j = s' j) : ∀ j, j < 8 → km_c b s j = km_c b s' j := by
  intro j hj
  show s j + _ = s' j + _
  rw [h j hj, km_r_congr8 (km_W b) h 64 j hj]
/-- i bytes from a on, as a number, the highest first -/
def km_p (m : Nat → Int32) (a : Nat) : Nat → Int32
  | 0 => 0
  | i + 1 => km_p m a i * 256 + m (a + i)
theorem km_p_congr {m m' : Nat → Int32} {a : Nat} : ∀ i, (∀ j, j < i → m (a + j) = m' (a + j)) → km_p m a i = km_p m' a i := by
  intro i
  induction i with
  | zero => intro _; rfl
  | succ i ih =>
    intro h
    show km_p m a i * 256 + m (a + i) = km_p m' a i * 256 + m' (a + i)
    rw [ih (fun j hj => h j (by omega)), h i (by omega)]
/-- the words of block q -/
def km_b (m : Nat → Int32) (q : Nat) : Nat → Int32 := fun j => km_p m (64 * q + 4 * j) 4
/-- the eight words behind q blocks of the bytes m -/
def km_h (m : Nat → Int32) : Nat → Nat → Int32
  | 0 => kH
  | q + 1 => km_c (km_b m q) (km_h m q)
theorem km_h_congr {m m' : Nat → Int32} : ∀ q, (∀ j, j < 64 * q → m j = m' j) → km_h m q = km_h m' q := by
  intro q
  induction q with
  | zero => intro _; rfl
  | succ q ih =>
    intro h
    show km_c (km_b m q) (km_h m q) = km_c (km_b m' q) (km_h m' q)
    rw [ih (fun j hj => h j (by omega))]
    exact km_c_congr _ (fun j hj => km_p_congr 4 (fun i hi => h _ (by omega)))
/-- how many blocks n bytes make -/
def km_q (n : Nat) : Nat := (n + 72) / 64
def km_len (n : Nat) : Nat → Int32 := fun i => if i < 6 then 0 else if i = 6 then nI (8 * n / 256) else nI (8 * n % 256)
/-- the row b of n bytes, and what comes behind it -/
def km_pad (b : Nat → Int32) (n : Nat) : Nat → Int32 := fun j => if j < n then b j else if j = n then 128 else if j + 8 < 64 * km_q n then 0 else km_len n (j + 8 - 64 * km_q n)
theorem km_pad_congr {b b' : Nat → Int32} {n : Nat} (h : ∀ j, j < n → b j = b' j) : km_pad b n = km_pad b' n := by
  funext j
  unfold km_pad
  rcases Nat.lt_or_ge j n with z | z
  · rw [if_pos z, if_pos z, h j z]
  · rw [if_neg (show ¬ j < n by omega), if_neg (show ¬ j < n by omega)]
theorem km_len_kr {n : Nat} (h : n < 8192) (i : Nat) : kr (km_len n i) := by
  unfold km_len
  split
  · exact kr_zero
  · split
    · exact kr_nI _ (by omega)
    · exact kr_nI _ (by omega)
theorem km_pad_kr {b : Nat → Int32} {n : Nat} (hn : n < 8192) (h : ∀ j, j < n → kr (b j)) (j : Nat) : kr (km_pad b n j) := by
  unfold km_pad
  split
  · exact h j (by omega)
  · split
    · exact kr_128
    · split
      · exact kr_zero
      · exact km_len_kr hn _
/-- the sum of the row b of n bytes -/
def km_s (b : Nat → Int32) (n : Nat) : Nat → Int32 := fun j => km_by (km_h (km_pad b n) (km_q n) (j / 4)) (j % 4)
theorem km_s_congr {b b' : Nat → Int32} {n : Nat} (h : ∀ j, j < n → b j = b' j) : km_s b n = km_s b' n := by
  unfold km_s
  rw [km_pad_congr h]
theorem km_s_kr (b : Nat → Int32) (n j : Nat) : kr (km_s b n j) := km_by_kr _ _
/-- the key's block -/
def km_kb (p : Nat → Int32) (np : Nat) : Nat → Int32 := fun j => if 64 < np then (if j < 32 then km_s p np j else 0) else if j < np then p j else 0
theorem km_kb_congr {p p' : Nat → Int32} {np : Nat} (h : ∀ j, j < np → p j = p' j) : km_kb p np = km_kb p' np := by
  funext j
  unfold km_kb
  rw [km_s_congr h]
  rcases Nat.lt_or_ge j np with z | z
  · rw [h j z]
  · rw [if_neg (by omega : ¬ j < np)]
    rw [if_neg (by omega : ¬ j < np)]
theorem km_kb_kr {p : Nat → Int32} {np : Nat} (h : ∀ j, j < np → kr (p j)) (j : Nat) : kr (km_kb p np j) := by
  unfold km_kb
  split
  · split
    · exact km_s_kr _ _ _
    · exact kr_zero
  · split
    · exact h j (by omega)
    · exact kr_zero
def km_kx (p : Nat → Int32) (np : Nat) (c : Int32) : Nat → Int32 := fun j => km_kb p np j ^^^ c
def km_cat (a : Nat → Int32) (k : Nat) (b : Nat → Int32) : Nat → Int32 := fun j => if j < k then a j else b (j - k)
theorem km_cat_congr {a b b' : Nat → Int32} {k n : Nat} (h : ∀ j, j < n → b j = b' j) : ∀ j, j < k + n → km_cat a k b j = km_cat a k b' j := by
  intro j hj
  unfold km_cat
  rcases Nat.lt_or_ge j k with z | z
  · rw [if_pos z, if_pos z]
  · rw [if_neg (by omega), if_neg (by omega), h (j - k) (by omega)]
theorem km_cat_lo {a b : Nat → Int32} {k j : Nat} (h : j < k) : km_cat a k b j = a j := if_pos h
theorem km_cat_hi {a b : Nat → Int32} {k : Nat} (j : Nat) : km_cat a k b (k + j) = b j := by
  unfold km_cat
  rw [if_neg (by omega), Nat.add_sub_cancel_left]
/-- the inner sum, and the mark, of the row x of nx bytes under the key p of np bytes -/
def km_in (p : Nat → Int32) (np : Nat) (x : Nat → Int32) (nx : Nat) : Nat → Int32 := km_s (km_cat (km_kx p np 54) 64 x) (64 + nx)
def km_mk (p : Nat → Int32) (np : Nat) (x : Nat → Int32) (nx : Nat) : Nat → Int32 := km_s (km_cat (km_kx p np 92) 64 (km_in p np x nx)) 96
theorem km_mk_congr {p p' x x' : Nat → Int32} {np nx : Nat} (hp : ∀ j, j < np → p j = p' j) (hx : ∀ j, j < nx → x j = x' j) : km_mk p np x nx = km_mk p' np x' nx := by
  unfold km_mk km_in km_kx
  rw [km_kb_congr hp, km_s_congr (km_cat_congr (k := 64) hx)]
theorem km_mk_kr (p : Nat → Int32) (np : Nat) (x : Nat → Int32) (nx j : Nat) : kr (km_mk p np x nx j) := km_s_kr _ _ _
/-- U of turn d + 1 of all turns (d counts from 0; c turns a part) -/
def km_U (p : Nat → Int32) (np : Nat) (s : Nat → Int32) (ns c : Nat) : Nat → Nat → Int32
  | 0 => fun _ => 0
  | d + 1 => if d % c = 0 then km_mk p np (km_cat s ns (km_by (nI (d / c + 1)))) (ns + 4) else km_mk p np (km_U p np s ns c d) 32
/-- the parts behind d turns -/
def km_K (p : Nat → Int32) (np : Nat) (s : Nat → Int32) (ns c : Nat) : Nat → Nat → Int32
  | 0 => fun _ => 0
  | d + 1 => fun j => if j / 32 = d / c then km_K p np s ns c d j ^^^ km_U p np s ns c (d + 1) (j % 32) else km_K p np s ns c d j
theorem km_U_kr (p : Nat → Int32) (np : Nat) (s : Nat → Int32) (ns c d j : Nat) : kr (km_U p np s ns c d j) := by
  cases d with
  | zero => exact kr_zero
  | succ d =>
    unfold km_U
    split
    · exact km_mk_kr _ _ _ _ _
    · exact km_mk_kr _ _ _ _ _
theorem km_K_kr (p : Nat → Int32) (np : Nat) (s : Nat → Int32) (ns c d j : Nat) : kr (km_K p np s ns c d j) := by
  induction d with
  | zero => exact kr_zero
  | succ d ih =>
    show kr (if j / 32 = d / c then km_K p np s ns c d j ^^^ km_U p np s ns c (d + 1) (j % 32) else km_K p np s ns c d j)
    split
    · exact kr_xor ih (km_U_kr _ _ _ _ _ _ _)
    · exact ih
/-! a sum under way: n bytes of the message m are taken -/
def km_2 : Nat → Int32
  | 0 => 1
  | i + 1 => km_2 i * 256
def km_ok (m : Nat → Int32) (n : Nat) (w : Nat → Int32) : Prop := ∀ j, j < 16 → 4 * j ≤ n % 64 → ∃ x : Int32, w j = x * km_2 (min 4 (n % 64 - 4 * j)) + km_p m (64 * (n / 64) + 4 * j) (min 4 (n % 64 - 4 * j))
theorem km_ok_start (m : Nat → Int32) {n : Nat} (w : Nat → Int32) (h : n % 64 = 0) : km_ok m n w := by
  intro j _ h2
  rw [h] at h2 ⊢
  refine ⟨w j, ?_⟩
  rw [show min 4 (0 - 4 * j) = 0 by omega]
  show w j = w j * 1 + 0
  rw [Int32.mul_one, Int32.add_zero]
/-- the word under way, with one byte more -/
theorem km_ok_push {m : Nat → Int32} {n : Nat} {w : Nat → Int32} (h : km_ok m n w) (hm : kr (m n)) : ∀ j, j < 16 → 4 * j ≤ n % 64 + 1 → ∃ x : Int32, upd w (n % 64 / 4) (w (n % 64 / 4) <<< ((8 : Int32) &&& 31) ||| m n) j = x * km_2 (min 4 (n % 64 + 1 - 4 * j)) + km_p m (64 * (n / 64) + 4 * j) (min 4 (n % 64 + 1 - 4 * j)) := by
  intro j hj h4
  by_cases hc : j = n % 64 / 4
  · subst hc
    rw [pk_us, km_push _ _ hm]
    obtain ⟨x, hx⟩ := h (n % 64 / 4) hj (by omega)
    refine ⟨x, ?_⟩
    have e1 : min 4 (n % 64 - 4 * (n % 64 / 4)) = n % 64 % 4 := by omega
    have e2 : min 4 (n % 64 + 1 - 4 * (n % 64 / 4)) = n % 64 % 4 + 1 := by omega
    rw [e1] at hx
    rw [e2, hx]
    show _ = x * (km_2 (n % 64 % 4) * 256) + (km_p m (64 * (n / 64) + 4 * (n % 64 / 4)) (n % 64 % 4) * 256 + m (64 * (n / 64) + 4 * (n % 64 / 4) + n % 64 % 4))
    rw [show 64 * (n / 64) + 4 * (n % 64 / 4) + n % 64 % 4 = n by omega]
    generalize km_p m _ _ = a
    generalize km_2 _ = b
    rw [Int32.add_mul, Int32.mul_assoc, Int32.add_assoc]
  · rw [pk_un hc]
    rcases Nat.lt_or_ge (n % 64) (4 * j) with z | z
    · refine ⟨w j, ?_⟩
      rw [show min 4 (n % 64 + 1 - 4 * j) = 0 by omega]
      show w j = w j * 1 + 0
      rw [Int32.mul_one, Int32.add_zero]
    · obtain ⟨x, hx⟩ := h j hj z
      refine ⟨x, ?_⟩
      rw [show min 4 (n % 64 + 1 - 4 * j) = 4 by omega]
      rw [show min 4 (n % 64 - 4 * j) = 4 by omega] at hx
      exact hx
theorem km_ok_next {m : Nat → Int32} {n : Nat} {w : Nat → Int32} (h : km_ok m n w) (hm : kr (m n)) (hn : n % 64 < 63) : km_ok m (n + 1) (upd w (n % 64 / 4) (w (n % 64 / 4) <<< ((8 : Int32) &&& 31) ||| m n)) := by
  intro j hj h4
  have e1 : (n + 1) % 64 = n % 64 + 1 := by omega
  have e2 : (n + 1) / 64 = n / 64 := by omega
  rw [e1] at h4
  rw [e1, e2]
  exact km_ok_push h hm j hj h4
theorem km_ok_full {m : Nat → Int32} {n : Nat} {w : Nat → Int32} (h : km_ok m n w) (hm : kr (m n)) (hn : n % 64 = 63) : ∀ j, j < 16 → upd w (n % 64 / 4) (w (n % 64 / 4) <<< ((8 : Int32) &&& 31) ||| m n) j = km_b m (n / 64) j := by
  intro j hj
  obtain ⟨x, hx⟩ := km_ok_push h hm j hj (by omega)
  rw [show min 4 (n % 64 + 1 - 4 * j) = 4 by omega, show km_2 4 = 0 by decide, Int32.mul_zero, Int32.zero_add] at hx
  exact hx
/-- a block is full: the eight words behind it -/
theorem km_ok_block {m : Nat → Int32} {n : Nat} {w : Nat → Int32} (h : km_ok m n w) (hm : kr (m n)) (hn : n % 64 = 63) : (fun j => km_h m (n / 64) j + km_r (km_W (upd w (n % 64 / 4) (w (n % 64 / 4) <<< ((8 : Int32) &&& 31) ||| m n))) (km_h m (n / 64)) 64 j) = km_h m ((n + 1) / 64) := by
  have e : (n + 1) / 64 = n / 64 + 1 := by omega
  rw [e]
  exact km_c_congr _ (km_ok_full h hm hn)
end
section
/-! what the walks want of the functions -/
/-- a word's four bytes from a on -/
def km_put (f : Nat → Int32) (a : Nat) (x : Int32) : Nat → Int32 := fun j => if a ≤ j ∧ j < a + 4 then km_by x (j - a) else f j
theorem km_put_in {f : Nat → Int32} {a : Nat} {x : Int32} {i : Nat} (h : i < 4) : km_put f a x (a + i) = km_by x i := by
  unfold km_put
  rw [if_pos (by omega), Nat.add_sub_cancel_left]
theorem km_put_out {f : Nat → Int32} {a : Nat} {x : Int32} {j : Nat} (h : j < a ∨ a + 4 ≤ j) : km_put f a x j = f j := by
  unfold km_put
  rw [if_neg (by omega)]
theorem km_put_eq (f : Nat → Int32) (a : Nat) (x : Int32) (j : Nat) : upd (upd (upd (upd f a (xu x 24)) (a + 1) (xu x 16 &&& 255)) (a + 2) (xu x 8 &&& 255)) (a + 3) (x &&& 255) j = km_put f a x j := by
  by_cases h3 : j = a + 3
  · subst h3; rw [pk_us, km_put_in (by omega)]; rfl
  · rw [pk_un h3]
    by_cases h2 : j = a + 2
    · subst h2; rw [pk_us, km_put_in (by omega)]; rfl
    · rw [pk_un h2]
      by_cases h1 : j = a + 1
      · subst h1; rw [pk_us, km_put_in (by omega)]; rfl
      · rw [pk_un h1]
        by_cases h0 : j = a
        · subst h0; rw [pk_us]; exact (km_put_in (i := 0) (by omega)).symm
        · rw [pk_un h0, km_put_out (by omega)]
/-- n words laid into g, four bytes each -/
def km_fin (st g : Nat → Int32) (n : Nat) : Nat → Int32 := fun j => if j < 4 * n then km_by (st (j / 4)) (j % 4) else g j
theorem km_fin_0 (st g : Nat → Int32) (j : Nat) : g j = km_fin st g 0 j := by
  unfold km_fin
  rw [if_neg (by omega)]
theorem km_fin_next (st g : Nat → Int32) (n j : Nat) : km_put (km_fin st g n) (n * 4) (st n) j = km_fin st g (n + 1) j := by
  unfold km_put km_fin
  by_cases h : n * 4 ≤ j ∧ j < n * 4 + 4
  · rw [if_pos h, if_pos (by omega), show j / 4 = n by omega, show j % 4 = j - n * 4 by omega]
  · rw [if_neg h]
    by_cases h2 : j < 4 * n
    · rw [if_pos h2, if_pos (by omega)]
    · rw [if_neg h2, if_neg (by omega)]
/-- a row with the sum of b in its first 32 places -/
def km_sum (b : Nat → Int32) (n : Nat) (g : Nat → Int32) : Nat → Int32 := km_fin (km_h (km_pad b n) (km_q n)) g 8
theorem km_sum_lo (b : Nat → Int32) (n : Nat) (g : Nat → Int32) {j : Nat} (h : j < 32) : km_sum b n g j = km_s b n j := if_pos (by omega)
theorem km_sum_hi (b : Nat → Int32) (n : Nat) (g : Nat → Int32) {j : Nat} (h : 32 ≤ j) : km_sum b n g j = g j := if_neg (by omega)
theorem km_q_lt (n : Nat) : n + 9 ≤ 64 * km_q n := by unfold km_q; omega
theorem km_q_le (n : Nat) : 64 * km_q n ≤ n + 72 := by unfold km_q; omega
theorem km_pad_in (b : Nat → Int32) {n j : Nat} (h : j < n) : km_pad b n j = b j := if_pos h
theorem km_pad_at (b : Nat → Int32) (n : Nat) : km_pad b n n = 128 := by
  unfold km_pad
  rw [if_neg (by omega), if_pos rfl]
theorem km_pad_z (b : Nat → Int32) {n j : Nat} (h1 : n < j) (h2 : j + 8 < 64 * km_q n) : km_pad b n j = 0 := by
  unfold km_pad
  rw [if_neg (by omega), if_neg (by omega), if_pos h2]
theorem km_pad_l (b : Nat → Int32) (n : Nat) {j i : Nat} (h : j + 8 = 64 * km_q n + i) : km_pad b n j = km_len n i := by
  have := km_q_lt n
  unfold km_pad
  rw [if_neg (by omega), if_neg (by omega), if_neg (by omega), show j + 8 - 64 * km_q n = i by omega]
theorem km_zeros : ∀ n, n < 256 → ((55 : Int32) - nI n) &&& 63 = nI (64 * km_q n - 9 - n) := by decide +kernel
theorem km_bits : ∀ n, n < 256 → ∀ i, i < 8 → ((((8 : Int64) * (nI n).toInt64).toUInt64 >>> ((nI (56 - 8 * i)).toInt64.toUInt64 &&& Int64.toUInt64 63)).toInt64.toInt32 &&& 255) = km_len n i := by decide +kernel
/-- states behind one block of a message that begins with a -/
theorem km_h_cat (a b : Nat → Int32) (n : Nat) : km_h (km_pad (km_cat a 64 b) (64 + n)) 1 = km_h a 1 := by
  apply km_h_congr
  intro j hj
  rw [km_pad_in _ (by omega), km_cat_lo (by omega)]
theorem km_cat_kr {a b : Nat → Int32} {k n : Nat} (ha : ∀ j, j < k → kr (a j)) (hb : ∀ j, j < n → kr (b j)) : ∀ j, j < k + n → kr (km_cat a k b j) := by
  intro j hj
  unfold km_cat
  split
  · exact ha j (by omega)
  · exact hb _ (by omega)
theorem km_kx_kr {p : Nat → Int32} {np : Nat} (h : ∀ j, j < np → kr (p j)) {c : Int32} (hc : kr c) (j : Nat) : kr (km_kx p np c j) := kr_xor (km_kb_kr h j) hc
theorem kr_54 : kr 54 := by unfold kr; decide
theorem kr_92 : kr 92 := by unfold kr; decide
end
section
/-! the fixed words, by their roots -/
def km_am (r : Int64) (p cube : Int32) : Bool :=
  let x := r >>> ((18 : Int32).toInt64 &&& 63)
  let y := r &&& 262143
  let u0 := y * y
  let t0 := 2 * x * y + u0 >>> ((18 : Int32).toInt64 &&& 63)
  let u := u0 &&& 262143
  let s := x * x + t0 >>> ((18 : Int32).toInt64 &&& 63)
  let t := t0 &&& 262143
  if cube = 0 then
    decide (s < p.toInt64 <<< ((28 : Int32).toInt64 &&& 63)) || (decide (s = p.toInt64 <<< ((28 : Int32).toInt64 &&& 63)) && decide (t + u = 0))
  else
    let d0 := u * y
    let d1 := u * x + t * y + d0 >>> ((18 : Int32).toInt64 &&& 63)
    let d2 := t * x + s * y + d1 >>> ((18 : Int32).toInt64 &&& 63)
    let d3 := s * x + d2 >>> ((18 : Int32).toInt64 &&& 63)
    let low := (d0 &&& 262143) + (d1 &&& 262143) + (d2 &&& 262143)
    decide (d3 < p.toInt64 <<< ((42 : Int32).toInt64 &&& 63)) || (decide (d3 = p.toInt64 <<< ((42 : Int32).toInt64 &&& 63)) && decide (low = 0))
/-- k halvings -/
def km_ro (p cube : Int32) : Nat → Nat
  | 0 => 0
  | k + 1 => if km_am (lN (km_ro p cube k + 2 ^ (35 - k))) p cube = true then km_ro p cube k + 2 ^ (35 - k) else km_ro p cube k
/-- no divisor below k -/
def km_nd (p : Nat) : Nat → Bool
  | 0 => true
  | k + 1 => km_nd p k && (decide (k < 2) || decide (p % k ≠ 0))
/-- primes below p -/
def km_np : Nat → Nat
  | 0 => 0
  | p + 1 => km_np p + (if 2 ≤ p ∧ km_nd p p = true then 1 else 0)
end
section
/-! an object's state, and what each call answers and does to it -/
/-- password and its size, salt and its size, turns of each part, bytes wanted (0: no key started), turns done -/
abbrev kA : Type := (Nat → Int32) × Nat × (Nat → Int32) × Nat × Nat × Nat × Nat
/-- turns of all parts -/
def kt_all (c w : Nat) : Nat := (w + 31) / 32 * c
def kA_ok (a : kA) : Prop := match a with
  | (p, np, s, ns, c, w, d) => np ≤ 150 ∧ ns ≤ 80 ∧ (∀ j, j < np → kr (p j)) ∧ (∀ j, j < ns → kr (s j)) ∧ w ≤ 100 ∧ c ≤ 1000 ∧ (w = 0 → c = 0 ∧ d = 0) ∧ (0 < w → 0 < c) ∧ d ≤ kt_all c w
def ka_password (b : Int32) (a : kA) : Int32 × kA := match a with
  | (p, np, s, ns, c, w, d) => if ¬ b < 0 ∧ ¬ 255 < b ∧ w = 0 ∧ np < 150 then (1, (upd p np b, np + 1, s, ns, c, w, d)) else (0, (p, np, s, ns, c, w, d))
def ka_four (x : Int32) (a : kA) : Int32 × kA := match a with
  | (p, np, s, ns, c, w, d) => if w = 0 ∧ np + 4 ≤ 150 then (1, (km_put p np x, np + 4, s, ns, c, w, d)) else (0, (p, np, s, ns, c, w, d))
def ka_salt (b : Int32) (a : kA) : Int32 × kA := match a with
  | (p, np, s, ns, c, w, d) => if ¬ b < 0 ∧ ¬ 255 < b ∧ w = 0 ∧ ns < 80 then (1, (p, np, upd s ns b, ns + 1, c, w, d)) else (0, (p, np, s, ns, c, w, d))
def ka_start (t b : Int32) (a : kA) : Int32 × kA := match a with
  | (p, np, s, ns, c, w, d) => if w = 0 ∧ ¬ t < 1 ∧ ¬ 1000 < t ∧ ¬ b < 1 ∧ ¬ 100 < b then (nI (kt_all t.toNatClampNeg b.toNatClampNeg), (p, np, s, ns, t.toNatClampNeg, b.toNatClampNeg, 0)) else (-1, (p, np, s, ns, c, w, d))
def ka_step (a : kA) : Int32 × kA := match a with
  | (p, np, s, ns, c, w, d) => if d < kt_all c w then (nI (kt_all c w - (d + 1)), (p, np, s, ns, c, w, d + 1)) else (-1, (p, np, s, ns, c, w, d))
def ka_run (most : Int32) (a : kA) : Int32 × kA := match a with
  | (p, np, s, ns, c, w, d) => if 0 < w ∧ ¬ most < 0 then (nI (min most.toNatClampNeg (kt_all c w - d)), (p, np, s, ns, c, w, d + min most.toNatClampNeg (kt_all c w - d))) else (-1, (p, np, s, ns, c, w, d))
def ka_left (a : kA) : Int32 × kA := match a with
  | (p, np, s, ns, c, w, d) => (if 0 < w then nI (kt_all c w - d) else -1, (p, np, s, ns, c, w, d))
def ka_key (i : Int32) (a : kA) : Int32 × kA := match a with
  | (p, np, s, ns, c, w, d) => (if ¬ i < 0 ∧ i.toNatClampNeg < w ∧ (i.toNatClampNeg / 32 + 1) * c ≤ d then km_K p np s ns c d i.toNatClampNeg else -1, (p, np, s, ns, c, w, d))
def ka_reset (a : kA) : kA := match a with
  | (p, _, s, _, _, _, _) => (p, 0, s, 0, 0, 0, 0)
def ka_many (what : Int32) (a : kA) : Int32 × kA := match a with
  | (p, np, s, ns, c, w, d) => (if what = 0 then nI np else if what = 1 then nI ns else if what = 2 then nI w else -1, (p, np, s, ns, c, w, d))
def ka_sum (i : Int32) (a : kA) : Int32 × kA := match a with
  | (p, np, s, ns, c, w, d) => (if ¬ i < 0 ∧ i.toNatClampNeg < 32 then km_s p np i.toNatClampNeg else -1, (p, np, s, ns, c, w, d))
def ka_mark (i : Int32) (a : kA) : Int32 × kA := match a with
  | (p, np, s, ns, c, w, d) => (if ¬ i < 0 ∧ i.toNatClampNeg < 32 then km_mk p np s ns i.toNatClampNeg else -1, (p, np, s, ns, c, w, d))
def ka_word (which i : Int32) : Int32 := if which = 0 ∧ ¬ i < 0 ∧ i.toNatClampNeg < 64 then kK i.toNatClampNeg else if which = 1 ∧ ¬ i < 0 ∧ i.toNatClampNeg < 8 then kH i.toNatClampNeg else 0
theorem kt_all_0 (c : Nat) : kt_all c 0 = 0 := by unfold kt_all; simp
theorem kt_all_le {c w : Nat} (hc : c ≤ 1000) (hw : w ≤ 100) : kt_all c w ≤ 4000 := by
  unfold kt_all
  exact Nat.le_trans (Nat.mul_le_mul (show (w + 31) / 32 ≤ 4 by omega) hc) (by omega)
theorem kA_password {b : Int32} {a : kA} (h : kA_ok a) : kA_ok (ka_password b a).2 := by
  obtain ⟨p, np, s, ns, c, w, d⟩ := a
  obtain ⟨h1, h2, h3, h4, h5⟩ := h
  unfold ka_password
  dsimp only
  split
  · rename_i hc
    refine ⟨by omega, h2, fun j hj => ?_, h4, h5⟩
    by_cases e : j = np
    · subst e; rw [pk_us]; exact kr_small hc.1 hc.2.1
    · rw [pk_un e]; exact h3 j (by omega)
  · exact ⟨h1, h2, h3, h4, h5⟩
theorem kA_four {x : Int32} {a : kA} (h : kA_ok a) : kA_ok (ka_four x a).2 := by
  obtain ⟨p, np, s, ns, c, w, d⟩ := a
  obtain ⟨h1, h2, h3, h4, h5⟩ := h
  unfold ka_four
  dsimp only
  split
  · rename_i hc
    refine ⟨by omega, h2, fun j hj => ?_, h4, h5⟩
    unfold km_put
    split
    · exact km_by_kr _ _
    · exact h3 j (by omega)
  · exact ⟨h1, h2, h3, h4, h5⟩
theorem kA_salt {b : Int32} {a : kA} (h : kA_ok a) : kA_ok (ka_salt b a).2 := by
  obtain ⟨p, np, s, ns, c, w, d⟩ := a
  obtain ⟨h1, h2, h3, h4, h5⟩ := h
  unfold ka_salt
  dsimp only
  split
  · rename_i hc
    refine ⟨h1, by omega, h3, fun j hj => ?_, h5⟩
    by_cases e : j = ns
    · subst e; rw [pk_us]; exact kr_small hc.1 hc.2.1
    · rw [pk_un e]; exact h4 j (by omega)
  · exact ⟨h1, h2, h3, h4, h5⟩
theorem kA_start {t b : Int32} {a : kA} (h : kA_ok a) : kA_ok (ka_start t b a).2 := by
  obtain ⟨p, np, s, ns, c, w, d⟩ := a
  obtain ⟨h1, h2, h3, h4, h5⟩ := h
  unfold ka_start
  dsimp only
  split
  · rename_i hc
    obtain ⟨-, c1, c2, c3, c4⟩ := hc
    have lo : ∀ z : Int32, ¬ z < 1 → ¬ z < 0 := by
      intro z hz h0
      rw [Int32.lt_iff_toInt_lt] at hz h0
      have e1 : (1 : Int32).toInt = 1 := by decide
      have e0 : (0 : Int32).toInt = 0 := by decide
      omega
    obtain ⟨t', ht, rfl⟩ := nI_of2 (M := 1000) (n := 1000) (by decide) (lo t c1) (Int32.not_lt.mp c2)
    obtain ⟨b', hb, rfl⟩ := nI_of2 (M := 100) (n := 100) (by decide) (lo b c3) (Int32.not_lt.mp c4)
    rw [nI_clamp (by omega), nI_clamp (by omega)]
    have p1 : ¬ t' < 1 := fun z => c1 ((nI_ltI (b := 1) (by omega) (by omega)).mpr z)
    have p2 : ¬ b' < 1 := fun z => c3 ((nI_ltI (b := 1) (by omega) (by omega)).mpr z)
    exact ⟨h1, h2, h3, h4, hb, ht, fun z => by omega, fun _ => by omega, Nat.zero_le _⟩
  · exact ⟨h1, h2, h3, h4, h5⟩
theorem kA_step {a : kA} (h : kA_ok a) : kA_ok (ka_step a).2 := by
  obtain ⟨p, np, s, ns, c, w, d⟩ := a
  obtain ⟨h1, h2, h3, h4, h5, h6, h7, h8, h9⟩ := h
  unfold ka_step
  dsimp only
  split
  · rename_i hc
    refine ⟨h1, h2, h3, h4, h5, h6, fun z => ?_, h8, hc⟩
    subst z
    rw [kt_all_0] at hc
    omega
  · exact ⟨h1, h2, h3, h4, h5, h6, h7, h8, h9⟩
theorem kA_run {most : Int32} {a : kA} (h : kA_ok a) : kA_ok (ka_run most a).2 := by
  obtain ⟨p, np, s, ns, c, w, d⟩ := a
  obtain ⟨h1, h2, h3, h4, h5, h6, h7, h8, h9⟩ := h
  unfold ka_run
  dsimp only
  split
  · rename_i hc
    exact ⟨h1, h2, h3, h4, h5, h6, fun z => by omega, h8, by omega⟩
  · exact ⟨h1, h2, h3, h4, h5, h6, h7, h8, h9⟩
theorem kA_reset {a : kA} (h : kA_ok a) : kA_ok (ka_reset a) := by
  obtain ⟨p, np, s, ns, c, w, d⟩ := a
  exact ⟨Nat.zero_le _, Nat.zero_le _, fun j hj => by omega, fun j hj => by omega, Nat.zero_le _, Nat.zero_le _, fun _ => ⟨rfl, rfl⟩, fun z => by omega, Nat.zero_le _⟩
theorem kA_new : kA_ok (fun _ => 0, 0, fun _ => 0, 0, 0, 0, 0) :=
  ⟨Nat.zero_le _, Nat.zero_le _, fun j hj => by omega, fun j hj => by omega, Nat.zero_le _, Nat.zero_le _, fun _ => ⟨rfl, rfl⟩, fun z => by omega, Nat.zero_le _⟩
/-- what the class's rows hold: F 0 password, F 1 salt, F 2 key, F 3 last mark, F 12 and F 13 the states behind the key's block -/
def kC (a : kA) (F : Nat → Nat → Int32) : Prop := match a with
  | (p, np, s, ns, c, w, d) => (∀ j, j < np → F 0 j = p j) ∧ (∀ j, j < ns → F 1 j = s j) ∧
    (0 < w → (∀ j, j < 128 → F 2 j = km_K p np s ns c d j) ∧ (0 < d → ∀ j, j < 32 → F 3 j = km_U p np s ns c d j) ∧ (∀ j, j < 8 → F 12 j = km_h (km_kx p np 54) 1 j) ∧ (∀ j, j < 8 → F 13 j = km_h (km_kx p np 92) 1 j))
/-- what the reference's rows hold: secret, grain, last, parts -/
def kM (a : kA) (fs fg fl fp : Nat → Int32) : Prop := match a with
  | (p, np, s, ns, c, w, d) => (∀ j, j < np → fs j &&& 255 = p j) ∧ (∀ j, j < ns → fg j &&& 255 = s j) ∧
    (0 < w → (∀ j, j < 128 → fp j &&& 255 = km_K p np s ns c d j) ∧ (0 < d → ∀ j, j < 32 → fl j &&& 255 = km_U p np s ns c d j))
end
section
/-! turns counted by parts; the reference's bytes -/
theorem kt_next {c d : Nat} (hc : 0 < c) (h : d % c + 1 = c) : (d + 1) / c = d / c + 1 ∧ (d + 1) % c = 0 := by
  have e := Nat.div_add_mod d c
  generalize d / c = q at e ⊢
  generalize d % c = r at e h
  have e2 : d + 1 = c * (q + 1) := by rw [Nat.mul_add, Nat.mul_one]; omega
  rw [e2]
  exact ⟨Nat.mul_div_cancel_left _ hc, Nat.mul_mod_right _ _⟩
theorem kt_same {c d : Nat} (hc : 0 < c) (h : d % c + 1 < c) : (d + 1) / c = d / c ∧ (d + 1) % c = d % c + 1 := by
  have e := Nat.div_add_mod d c
  generalize d / c = q at e ⊢
  generalize d % c = r at e h ⊢
  have e2 : d + 1 = (r + 1) + c * q := by omega
  rw [e2]
  exact ⟨by rw [Nat.add_mul_div_left _ _ hc, Nat.div_eq_of_lt h, Nat.zero_add], by rw [Nat.add_mul_mod_self_left, Nat.mod_eq_of_lt h]⟩
theorem kt_div {c w d : Nat} (h0 : c = 0 → d = 0) (h : d ≤ kt_all c w) : d / c ≤ (w + 32 - 1) / 32 := by
  unfold kt_all at h
  rcases Nat.eq_zero_or_pos c with z | z
  · rw [h0 z]; simp
  · exact Nat.div_le_of_le_mul (by rw [Nat.mul_comm]; exact h)
theorem kt_mod {c w d : Nat} (h0 : c = 0 → d = 0) (h : d ≤ kt_all c w) : d % c ≤ ((w + 32 - 1) / 32 - d / c) * c := by
  unfold kt_all at h
  have e := Nat.div_add_mod d c
  rw [show w + 32 - 1 = w + 31 by omega, Nat.sub_mul, Nat.mul_comm (d / c) c]
  omega
theorem kt_left {c w d : Nat} : ((w + 32 - 1) / 32 - d / c) * c - d % c = kt_all c w - d := by
  unfold kt_all
  have e := Nat.div_add_mod d c
  rw [show w + 32 - 1 = w + 31 by omega, Nat.sub_mul, Nat.mul_comm (d / c) c]
  omega
theorem kt_part {c w d : Nat} (h : d < kt_all c w) : d / c < (w + 31) / 32 := by
  unfold kt_all at h
  exact Nat.div_lt_of_lt_mul (by rw [Nat.mul_comm]; exact h)
theorem km_salt_eq {f s : Nat → Int32} {ns : Nat} (x : Int32) (h : ∀ j, j < ns → f j = s j) : ∀ j, j < ns + 4 → km_put f ns x j = km_cat s ns (km_by x) j := by
  intro j hj
  unfold km_cat
  rcases Nat.lt_or_ge j ns with z | z
  · rw [if_pos z, km_put_out (by omega), h j z]
  · rw [if_neg (by omega)]
    unfold km_put
    rw [if_pos (by omega)]
theorem bp_b2 (x : Int32) : x.toInt8.toInt32.toInt8.toInt32 &&& 255 = x &&& 255 := by rw [bp_b, bp_b]
theorem km_lenm : ∀ n, n < 256 → ∀ k, k < 4 → (nI (8 * n) >>> (nI (8 * k) &&& 31)) &&& 255 = km_len n (7 - k) := by decide +kernel
theorem km_shift {s f : Nat → Int32} (k w : Int32) (h0 : f 0 = s 0) (h : ∀ j, 1 ≤ j → j < 8 → f j = s (j - 1)) : ∀ j, j < 8 → upd (upd f 4 (f 4 + km_u k w s)) 0 (km_u k w s + km_v s) j = km_rd k w s j := by
  intro j hj
  have hc : j = 0 ∨ j = 1 ∨ j = 2 ∨ j = 3 ∨ j = 4 ∨ j = 5 ∨ j = 6 ∨ j = 7 := by omega
  rcases hc with rfl | rfl | rfl | rfl | rfl | rfl | rfl | rfl
  · rw [pk_us]; rfl
  · rw [pk_un (by omega), pk_un (by omega), h 1 (by omega) (by omega)]; rfl
  · rw [pk_un (by omega), pk_un (by omega), h 2 (by omega) (by omega)]; rfl
  · rw [pk_un (by omega), pk_un (by omega), h 3 (by omega) (by omega)]; rfl
  · rw [pk_un (by omega), pk_us, h 4 (by omega) (by omega)]; rfl
  · rw [pk_un (by omega), pk_un (by omega), h 5 (by omega) (by omega)]; rfl
  · rw [pk_un (by omega), pk_un (by omega), h 6 (by omega) (by omega)]; rfl
  · rw [pk_un (by omega), pk_un (by omega), h 7 (by omega) (by omega)]; rfl
theorem km_add8 (f g : Nat → Int32) : ∀ j, j < 8 → upd (upd (upd (upd (upd (upd (upd (upd f 0 (f 0 + g 0)) 1 (f 1 + g 1)) 2 (f 2 + g 2)) 3 (f 3 + g 3)) 4 (f 4 + g 4)) 5 (f 5 + g 5)) 6 (f 6 + g 6)) 7 (f 7 + g 7) j = f j + g j := by
  intro j hj
  have hc : j = 0 ∨ j = 1 ∨ j = 2 ∨ j = 3 ∨ j = 4 ∨ j = 5 ∨ j = 6 ∨ j = 7 := by omega
  rcases hc with rfl | rfl | rfl | rfl | rfl | rfl | rfl | rfl <;> rfl
end
section
/-! one form for all contracts of this proof, and rows for it -/
/-- the array classes that worlds hold -/
abbrev xt (cI cB : ClassId) : List (ClassId × FieldType) := [(cI, .int), (cB, .byte)]
/-- links to private members of nest mates: no word that a callee may be handed by its list, so they stand in the start -/
def xN : List Cond := [.methodLinkNest R_KeyMaker 27 y_Summer_init "KeyMaker", .methodLinkNest R_KeyMaker 34 y_Marker_init "KeyMaker", .methodLinkNest R_Marker 11 y_Summer_init "KeyMaker", .fieldLinkNest R_Summer 29 "KeyMaker" "H" "[I" "KeyMaker", .fieldLinkNest R_Summer 68 "KeyMaker" "K" "[I" "KeyMaker", .methodLinkNest R_Summer 48 y_KeyMaker_putWord "KeyMaker"]
def xn_is : Cond → Bool
  | .fieldLinkNest .. => true
  | .methodLinkNest .. => true
  | _ => false
theorem xn_all : ∀ w ∈ xN, xn_is w = true := by decide +kernel
theorem xn_on {w : Cond} (hi : xn_is w = true) : w.onTables = true := by
  cases w <;> first | rfl | exact absurd hi Bool.false_ne_true
theorem xn_warm {w : Cond} (hi : xn_is w = true) {u U : State} (hW : u.WarmedH U.vm) (h : va_Nw w u) : va_Nw w U := by
  cases w <;> first | exact va_Nw.warmF hW h | exact va_Nw.warmM hW h | exact absurd hi Bool.false_ne_true
/-- the class's two fixed tables: where they lie, what they hold; and the nest's links -/
def xZ (tK tH : Nat) (A : Nat → Prop) (U : State) (H : Heap) : Prop :=
  va_Z "KeyMaker" "K" "[I" (.ref tK) A U H ∧ va_Z "KeyMaker" "H" "[I" (.ref tH) A U H ∧ va_T .int tK 64 (fun j => .int (kK j)) A U H ∧ va_T .int tH 8 (fun j => .int (kH j)) A U H ∧ ∀ w ∈ xN, va_Nw w U
theorem xZ.warm {tK tH : Nat} {A : Nat → Prop} {u U : State} {H : Heap} (hW : u.WarmedH U.vm) (h : xZ tK tH A u H) : xZ tK tH A U H := ⟨h.1.moved hW.alike, h.2.1.moved hW.alike, h.2.2.1.moved hW.alike, h.2.2.2.1.moved hW.alike, fun w hw => xn_warm (xn_all w hw) hW (h.2.2.2.2 w hw)⟩
theorem xZ.same {tK tH : Nat} {A : Nat → Prop} {u U : State} {H : Heap} (e : u.vm = U.vm) (h : xZ tK tH A u H) : xZ tK tH A U H :=
  have hvm : u.vm.Alike U.vm := e ▸ Vm.Alike.refl u.vm
  ⟨h.1.moved hvm, h.2.1.moved hvm, h.2.2.1.moved hvm, h.2.2.2.1.moved hvm, fun w hw => va_Nw.same (xn_on (xn_all w hw)) e (h.2.2.2.2 w hw)⟩
theorem xZ.kept {tK tH : Nat} {A : Nat → Prop} {U : State} {H H1 : Heap} (h : xZ tK tH A U H) (hq : ∀ a : Nat, a < H.size → ¬ A a → H1[a]? = H[a]?) : xZ tK tH A U H1 := ⟨h.1.kept hq, h.2.1.kept hq, h.2.2.1.kept hq, h.2.2.2.1.kept hq, h.2.2.2.2⟩
theorem xZ.narrow {tK tH : Nat} {A B : Nat → Prop} {U : State} {H : Heap} (h : xZ tK tH A U H) (hAB : ∀ q, B q → A q) : xZ tK tH B U H := ⟨h.1.narrow hAB, h.2.1.narrow hAB, h.2.2.1.narrow hAB, h.2.2.2.1.narrow hAB, h.2.2.2.2⟩
/-- a nest link's word -/
theorem xZ.nest {tK tH : Nat} {A : Nat → Prop} {U : State} {H : Heap} (h : xZ tK tH A U H) {w : Cond} (k : Nat) (hk : xN[k]? = some w) : va_Nw w U := h.2.2.2.2 w (List.mem_of_getElem? hk)
/-- the words that a callee wants are among those that all methods are proved under -/
theorem xg_c {y : MethodName} {b : ByteArray} {n : Nat} {r : Option FieldType} (h : Cond.code y b n r ∈ xG) : GoodIn xG (.code y b n r :: xG) := by
  have hg : ∀ w ∈ xG, w ∈ xG ∧ ((w.onTables && w.keeps) = true ∨ ∃ ty, w = .arrayClass ty) := fun w hw => ⟨hw, good_of_word (List.mem_filter.mp hw).2⟩
  intro w hw
  rcases List.mem_cons.mp hw with e | hw
  · rw [e]; exact hg _ h
  · exact hg w hw
theorem xg_V {own C : String} {idx : Nat} {y : MethodName} {b : ByteArray} {n : Nat} {r : Option FieldType} (h1 : Cond.methodLink own idx y ∈ xG) (h2 : Cond.instanceMethod y ∈ xG) (h3 : Cond.selects C y y ∈ xG) (h4 : Cond.initialized C ∈ xG) (h : Cond.code y b n r ∈ xG) : GoodIn xG (wsV own idx C y (.code y b n r :: xG)) := by
  have hg : ∀ w ∈ xG, w ∈ xG ∧ ((w.onTables && w.keeps) = true ∨ ∃ ty, w = .arrayClass ty) := fun w hw => ⟨hw, good_of_word (List.mem_filter.mp hw).2⟩
  intro w hw
  rcases List.mem_append.mp hw with hw | hw
  · have hc : w = Cond.methodLink own idx y ∨ w = Cond.instanceMethod y ∨ w = Cond.selects C y y ∨ w = Cond.initialized C := by simpa using hw
    rcases hc with e | e | e | e <;> rw [e] <;> apply hg <;> assumption
  · exact xg_c h w hw
theorem xg_S {own : String} {idx : Nat} {y : MethodName} {b : ByteArray} {n : Nat} {r : Option FieldType} (h1 : Cond.methodLink own idx y ∈ xG) (h2 : Cond.static y ∈ xG) (h3 : Cond.initialized y.cls ∈ xG) (h : Cond.code y b n r ∈ xG) : GoodIn xG (va_wsS own idx y (.code y b n r :: xG)) := by
  have hg : ∀ w ∈ xG, w ∈ xG ∧ ((w.onTables && w.keeps) = true ∨ ∃ ty, w = .arrayClass ty) := fun w hw => ⟨hw, good_of_word (List.mem_filter.mp hw).2⟩
  intro w hw
  rcases List.mem_append.mp hw with hw | hw
  · have hc : w = Cond.methodLink own idx y ∨ w = Cond.static y ∨ w = Cond.initialized y.cls := by simpa using hw
    rcases hc with e | e | e <;> rw [e] <;> apply hg <;> assumption
  · exact xg_c h w hw
/-- a contract's start -/
def xP (G : va_G) (cI cB : ClassId) (tK tH sz : Nat) (wc : va_W) (U : State) : Prop :=
  U.heap.size = sz ∧ va_P G classes wc U.heap ∧ va_K G classes (xt cI cB) U ∧ va_D (fun _ => True) wc ∧ xZ tK tH (va_A wc sz) U U.heap
/-- a contract's end -/
def xB (G : va_G) (cI cB : ClassId) (A : Nat → Prop) {S : Type} (w1 : S → va_W) (u : S) (t : State) : Prop :=
  va_P G classes (w1 u) t.heap ∧ va_K G classes (xt cI cB) t ∧ va_D A (w1 u)
def xMi (l : Launch) (G : va_G) (cI cB : ClassId) (tK tH : Nat) (y : MethodName) (cc : ByteArray) (maxL : Nat) (ret : Option FieldType) (rm : Room) (as : List Value) (sz : Nat) (wc : va_W) {S : Type} (post : Int32 → S → Prop) (w1 : S → va_W) : Prop :=
  Met l y (.code y cc maxL ret :: xG) rm (va_Pc as (xP G cI cB tK tH sz wc)) (va_Qi post (xB G cI cB (va_A wc sz) w1) (va_A wc sz)) rm.cells rm.slots (va_A wc sz)
def xMv (l : Launch) (G : va_G) (cI cB : ClassId) (tK tH : Nat) (y : MethodName) (cc : ByteArray) (maxL : Nat) (ret : Option FieldType) (rm : Room) (as : List Value) (sz : Nat) (wc : va_W) {S : Type} (post : S → Prop) (w1 : S → va_W) : Prop :=
  Met l y (.code y cc maxL ret :: xG) rm (va_Pc as (xP G cI cB tK tH sz wc)) (va_Qv post (xB G cI cB (va_A wc sz) w1) (va_A wc sz)) rm.cells rm.slots (va_A wc sz)
section XO
variable {l : Launch} {G : va_G} {cI cB : ClassId} {tK tH : Nat} {y : MethodName} {rm : Room} {as : List Value} {sz : Nat} {wc : va_W} {S : Type} {cc : ByteArray} {maxL : Nat} {ret : Option FieldType} {lv : List (Nat × Value)}
/-- what a walk begins with -/
abbrev xO (l : Launch) (G : va_G) (cI cB : ClassId) (tK tH : Nat) (y : MethodName) (rm : Room) (as : List Value) (wc : va_W) (Qc : (Nat → Prop) → Array Value → State → Outcome → State → Prop) (cc : ByteArray) (maxL : Nat) (ret : Option FieldType) (lv : List (Nat × Value)) : Prop :=
  ∀ (p : Program) (e : Env) (s : State) (m : MethodId) (below : List Frame) (meth : Method) (c : Code) (A : Nat → Prop) (ls : Array Slot) (H : Heap) (locs : List Loc),
    p.tables.exec = Jvm.exec → c.code = cc → c.maxLocals = maxL → meth.sig.returnType = ret → meth.locks = false → (∀ x ∈ xG, x.before as.toArray s = true) → s.vm.findClass y.cls = some m.cls → meth.name = y.name →
    (∀ q : Nat, s.heap.size ≤ q → A q) → va_K G classes (xt cI cB) s → xZ tK tH A s s.heap → va_P G classes wc H → va_D A wc → va_S A s.heap H locs → lv_has ls maxL lv →
    W p l e rm s m as.toArray below meth c H locs 0 0 (MQ below (Qc A) as.toArray s rm.cells rm.slots A) (F0 m 0 ls [])
theorem xO.met {Qc : (Nat → Prop) → Array Value → State → Outcome → State → Prop} (hy : plainName y.cls = true) (hn : (lg_sl as).length ≤ maxL) (hlv : lv_args 0 as = lv)
    (body : xO l G cI cB tK tH y rm as wc Qc cc maxL ret lv) :
    Met l y (.code y cc maxL ret :: xG) rm (va_Pc as (xP G cI cB tK tH sz wc)) (Qc (va_A wc sz)) rm.cells rm.slots (va_A wc sz) := by
  refine Met.ofW (cc := cc) (maxL := maxL) (ret := ret) hy rfl ?_
  intro p e s m args below meth c s₁ B hml hv
  obtain ⟨rfl, hsz, hP, hK, hD0, hst⟩ := hv
  subst hsz
  have hl := lv_entry as (n := maxL) hn
  rw [hlv] at hl
  rw [lg_entry_eq]
  exact body p e s m below meth c (va_A wc s.heap.size) _ s.heap [] B.exec B.bytes hml B.returns B.notSynchronized (fun x hx => atoms_spec (ws := .code y cc maxL ret :: xG) B.pre x (List.mem_cons_of_mem _ hx)) (findClass_of_methodNamed B.named) (name_of_methodNamed B.named B.method).1 (fun q h => Or.inr h) hK hst hP hD0.self va_S.rf hl
theorem xMi.of {post : Int32 → S → Prop} {w1 : S → va_W} (hy : plainName y.cls = true) (hn : (lg_sl as).length ≤ maxL) (hlv : lv_args 0 as = lv)
    (body : xO l G cI cB tK tH y rm as wc (fun A => va_Qi post (xB G cI cB A w1) A) cc maxL ret lv) : xMi l G cI cB tK tH y cc maxL ret rm as sz wc post w1 := xO.met hy hn hlv body
theorem xMv.of {post : S → Prop} {w1 : S → va_W} (hy : plainName y.cls = true) (hn : (lg_sl as).length ≤ maxL) (hlv : lv_args 0 as = lv)
    (body : xO l G cI cB tK tH y rm as wc (fun A => va_Qv post (xB G cI cB A w1) A) cc maxL ret lv) : xMv l G cI cB tK tH y cc maxL ret rm as sz wc post w1 := xO.met hy hn hlv body
end XO
section XC
variable {p : Program} {l : Launch} {e : Env} {R : Room} {s : State} {m : MethodId} {args : Array Value} {below : List Frame} {meth : Method} {c : Code} {H : Heap} {locs : List Loc} {cells slots : Nat} {Q : State → Prop}
variable {cc : ByteArray} {pc : Nat} {ls : Array Slot} {rest st0 : List Value} {A : Nat → Prop} {a : Nat} {ws wc wr : va_W} {G : va_G} {cI cB : ClassId} {tK tH : Nat}
theorem xc_blind {as : List Value} {sz : Nat} : FrameBlind (va_Pc as (xP G cI cB tK tH sz wc)) := by
  intro a U g mk q
  obtain ⟨q0, q1, qP, qK, qD, qZ⟩ := q
  exact ⟨q0, q1, qP, va_K.moved (u := U) (U := U.calling g mk a) (Vm.Alike.refl U.vm) qK, qD, xZ.same (u := U) (U := U.calling g mk a) rfl qZ⟩
theorem xc_fm (is : List Nat) (ws wc : va_W) (h : is.map (fun i => ws[i]?) = wc.map some) : is.filterMap (fun i => ws[i]?) = wc := by
  induction is generalizing wc with
  | nil => cases wc with
    | nil => rfl
    | cons _ _ => cases h
  | cons i is ih => cases wc with
    | nil => cases h
    | cons x wc =>
      rw [List.map_cons, List.map_cons] at h
      injection h with h1 h2
      rw [List.filterMap_cons, h1]
      show x :: _ = _
      rw [ih wc h2]
/-- a callee's start, out of the caller's world -/
theorem xc_pre (hK : va_K G classes (xt cI cB) s) (hst : xZ tK tH A s s.heap) (hA : ∀ q : Nat, s.heap.size ≤ q → A q) (hP : va_P G classes ws H) (hD : va_D A ws) (hS : va_S A s.heap H locs) (isC : List Nat) (hn : va_nd isC = true) (hC : isC.map (fun i => ws[i]?) = wc.map some) (as : List Value) :
    PreS s H (va_Pc as (xP G cI cB tK tH H.size wc)) as := by
  refine ⟨xc_blind, fun U hU hW => ⟨rfl, by rw [hU], ?_, va_K.moved hW.alike hK, ?_, ?_⟩⟩
  · rw [hU]; exact hP.sub isC (xc_fm isC ws wc hC)
  · exact (hD.sub isC hn hC).weaken (fun _ _ _ _ => trivial)
  · rw [hU]; exact ((hst.kept hS.2.1).narrow (va_free hD hS hA isC hC)).warm hW
theorem xc_preV {C : String} {T : u_T} {N ci b : Nat} {fs : List Value} {As : List Value} (hK : va_K G classes (xt cI cB) s) (hst : xZ tK tH A s s.heap) (hA : ∀ q : Nat, s.heap.size ≤ q → A q) (hP : va_P G classes ws H) (hD : va_D A ws) (hS : va_S A s.heap H locs) (isC : List Nat) (hn : va_nd isC = true) (hC : isC.map (fun i => ws[i]?) = wc.map some) (q0 : Nat) (he : ws[q0]? = some (b, .inr (ci, fs))) (hc : classes[ci]? = some (C, T, N)) :
    PreV s H C b (va_Pc (.ref b :: As) (xP G cI cB tK tH H.size wc)) As :=
  ⟨xc_blind, va_recv (q := (C, T, N)) hK hP hc he, (xc_pre hK hst hA hP hD hS isC hn hC (.ref b :: As)).2⟩
/-- behind a call that answers an int -/
theorem xc_i {S : Type} {post : Int32 → S → Prop} {w1 : S → va_W} {mc ms : Nat} {ar : Array Value} (hr : va_Run p l e R s m args below meth c H locs cells slots mc ms (F0 m pc ls st0) rest (va_Qi post (xB G cI cB (va_A wc H.size) w1) (va_A wc H.size) ar) (va_A wc H.size))
    (hA : ∀ q : Nat, s.heap.size ≤ q → A q) (hP : va_P G classes ws H) (hD : va_D A ws) (hS : va_S A s.heap H locs) (isC isR : List Nat) (hC : isC.map (fun i => ws[i]?) = wc.map some) (hR : isR.map (fun i => ws[i]?) = wr.map some) (hn : va_nd isR = true) (hdis : ∀ i ∈ isR, i ∉ isC)
    (kk : ∀ (r : Int32) (u : S) (H1 : Heap) (locs1 : List Loc), post r u → va_P G classes (wr ++ w1 u) H1 → va_D A (wr ++ w1 u) → va_S A s.heap H1 locs1 → W p l e R s m args below meth c H1 locs1 (cells + mc) (slots + ms) Q (F0 m (pc + 3) ls (.int r :: rest))) :
    W p l e R s m args below meth c H locs cells slots Q (F0 m pc ls st0) := by
  have hF := va_free (wc := wc) hD hS hA isC hC
  refine va_calli hr hS (fun q _ h => hF q h) hF (fun r u t H1 locs1 ht hvm hp hB hz hk hS1 => ?_)
  obtain ⟨hP1, hK1, hD1⟩ := hB
  rw [ht] at hP1
  obtain ⟨hP2, hD2⟩ := va_join hP hD isC isR hC hR hn hdis hk hF hP1 hD1
  exact kk r u H1 locs1 hp hP2 hD2 hS1
/-- behind a call that answers nothing -/
theorem xc_v {S : Type} {post : S → Prop} {w1 : S → va_W} {mc ms : Nat} {ar : Array Value} (hr : va_Run p l e R s m args below meth c H locs cells slots mc ms (F0 m pc ls st0) rest (va_Qv post (xB G cI cB (va_A wc H.size) w1) (va_A wc H.size) ar) (va_A wc H.size))
    (hA : ∀ q : Nat, s.heap.size ≤ q → A q) (hP : va_P G classes ws H) (hD : va_D A ws) (hS : va_S A s.heap H locs) (isC isR : List Nat) (hC : isC.map (fun i => ws[i]?) = wc.map some) (hR : isR.map (fun i => ws[i]?) = wr.map some) (hn : va_nd isR = true) (hdis : ∀ i ∈ isR, i ∉ isC)
    (kk : ∀ (u : S) (H1 : Heap) (locs1 : List Loc), post u → va_P G classes (wr ++ w1 u) H1 → va_D A (wr ++ w1 u) → va_S A s.heap H1 locs1 → W p l e R s m args below meth c H1 locs1 (cells + mc) (slots + ms) Q (F0 m (pc + 3) ls rest)) :
    W p l e R s m args below meth c H locs cells slots Q (F0 m pc ls st0) := by
  have hF := va_free (wc := wc) hD hS hA isC hC
  refine va_callv hr hS (fun q _ h => hF q h) hF (fun u t H1 locs1 ht hvm hp hB hz hk hS1 => ?_)
  obtain ⟨hP1, hK1, hD1⟩ := hB
  rw [ht] at hP1
  obtain ⟨hP2, hD2⟩ := va_join hP hD isC isR hC hR hn hdis hk hF hP1 hD1
  exact kk u H1 locs1 hp hP2 hD2 hS1
/-- ends -/
theorem xe_i {S : Type} {post : Int32 → S → Prop} {w1 : S → va_W} {v : Int32} (u : S) (hx : p.tables.exec = Jvm.exec) (hb : c.code = cc) (hr : meth.sig.returnType = some .int) (hlk : meth.locks = false) (hK : va_K G classes (xt cI cB) s) (hp : post v u) (hP : va_P G classes (w1 u) H) (hD : va_D A (w1 u)) (hS : va_S A s.heap H locs) (hdg : decode cc pc = .ok (.ireturn, 1)) {kc ks : Nat} (h1 : cells ≤ kc) (h2 : slots ≤ ks) :
    W p l e R s m args below meth c H locs cells slots (MQ below (va_Qi post (xB G cI cB A w1) A) args s kc ks A) (F0 m pc ls [.int v]) :=
  W.widen h1 h2 (W.iret hx hb hr (fun t ht hW => ⟨⟨v, u, rfl, hp, by rw [ht]; exact hP, va_K.moved hW.alike hK, hD⟩, hS.F ht⟩) hS.2.2 hdg hlk)
theorem xe_z {S : Type} {post : Int32 → S → Prop} {w1 : S → va_W} {v : Int32} {ty : FieldType} (u : S) (hx : p.tables.exec = Jvm.exec) (hb : c.code = cc) (hr : meth.sig.returnType = some ty) (hnar : narrow ty (.int v) = .int v) (hlk : meth.locks = false) (hK : va_K G classes (xt cI cB) s) (hp : post v u) (hP : va_P G classes (w1 u) H) (hD : va_D A (w1 u)) (hS : va_S A s.heap H locs) (hdg : decode cc pc = .ok (.ireturn, 1)) {kc ks : Nat} (h1 : cells ≤ kc) (h2 : slots ≤ ks) :
    W p l e R s m args below meth c H locs cells slots (MQ below (va_Qi post (xB G cI cB A w1) A) args s kc ks A) (F0 m pc ls [.int v]) :=
  W.widen h1 h2 (W.zret hx hb hr hnar (fun t ht hW => ⟨⟨v, u, rfl, hp, by rw [ht]; exact hP, va_K.moved hW.alike hK, hD⟩, hS.F ht⟩) hS.2.2 hdg hlk)
theorem xe_v {S : Type} {post : S → Prop} {w1 : S → va_W} (u : S) (hx : p.tables.exec = Jvm.exec) (hb : c.code = cc) (hr : meth.sig.returnType = none) (hlk : meth.locks = false) (hK : va_K G classes (xt cI cB) s) (hp : post u) (hP : va_P G classes (w1 u) H) (hD : va_D A (w1 u)) (hS : va_S A s.heap H locs) (hdg : decode cc pc = .ok (.return_, 1)) {kc ks : Nat} (h1 : cells ≤ kc) (h2 : slots ≤ ks) :
    W p l e R s m args below meth c H locs cells slots (MQ below (va_Qv post (xB G cI cB A w1) A) args s kc ks A) (F0 m pc ls []) :=
  W.widen h1 h2 (W.vret hx hb hr (fun t ht hW => ⟨⟨u, rfl, hp, by rw [ht]; exact hP, va_K.moved hW.alike hK, hD⟩, hS.F ht⟩) hS.2.2 hdg hlk)
/-- a loop -/
theorem xl (I : Nat → Array Slot → Heap → List Loc → Prop) (st : List Value)
    (step : ∀ n, (∀ k, k < n → ∀ ls H locs, I k ls H locs → W p l e R s m args below meth c H locs cells slots Q (F0 m pc ls st)) → ∀ ls H locs, I n ls H locs → W p l e R s m args below meth c H locs cells slots Q (F0 m pc ls st)) :
    ∀ n ls H locs, I n ls H locs → W p l e R s m args below meth c H locs cells slots Q (F0 m pc ls st) := by
  intro n
  induction n using Nat.strongRecOn with
  | _ n ih => exact step n ih
/-- arrays, by Nat places -/
theorem xa_iald {tys : List (ClassId × FieldType)} {cl : List vw_C} (hx : p.tables.exec = Jvm.exec) (hb : c.code = cc) (hK : va_K G cl tys s) (hP : va_P G cl ws H) (q0 t0 : Nat) {cA : ClassId} {n : Nat} {f : Nat → Int32} {k : Nat} (ha : ws[q0]? = some (a, .inl (cA, n, .inl f))) (ht : tys[t0]? = some (cA, .int)) (hk : k < n) (hn : n < 2 ^ 31) (hdg : decode cc pc = .ok (.iaload, 1))
    (kk : W p l e R s m args below meth c H locs cells slots Q (F0 m (pc + 1) ls (.int (f k) :: rest))) : W p l e R s m args below meth c H locs cells slots Q (F0 m pc ls (.int (nI k) :: .ref a :: rest)) := by
  refine va_iald hx hb hK hP q0 t0 ha ht (vp_in_nI hk hn) hdg ?_
  rw [nI_clamp (by omega)]
  exact kk
theorem xa_bald {tys : List (ClassId × FieldType)} {cl : List vw_C} (hx : p.tables.exec = Jvm.exec) (hb : c.code = cc) (hK : va_K G cl tys s) (hP : va_P G cl ws H) (q0 t0 : Nat) {cA : ClassId} {n : Nat} {f : Nat → Int32} {k : Nat} (ha : ws[q0]? = some (a, .inl (cA, n, .inl f))) (ht : tys[t0]? = some (cA, .byte)) (hk : k < n) (hn : n < 2 ^ 31) (hdg : decode cc pc = .ok (.baload, 1))
    (kk : W p l e R s m args below meth c H locs cells slots Q (F0 m (pc + 1) ls (.int (f k) :: rest))) : W p l e R s m args below meth c H locs cells slots Q (F0 m pc ls (.int (nI k) :: .ref a :: rest)) := by
  refine va_bald hx hb hK hP q0 t0 ha ht (vp_in_nI hk hn) hdg ?_
  rw [nI_clamp (by omega)]
  exact kk
theorem xa_iast {tys : List (ClassId × FieldType)} {cl : List vw_C} {H0 : Heap} (hx : p.tables.exec = Jvm.exec) (hb : c.code = cc) (hK : va_K G cl tys s) (hP : va_P G cl ws H) (hD : va_D A ws) (hS : va_S A H0 H locs) (q0 t0 : Nat) {cA : ClassId} {n : Nat} {f : Nat → Int32} {k : Nat} {x : Int32} (ha : ws[q0]? = some (a, .inl (cA, n, .inl f))) (ht : tys[t0]? = some (cA, .int)) (hk : k < n) (hn : n < 2 ^ 31) (hdg : decode cc pc = .ok (.iastore, 1))
    (kk : ∀ (H1 : Heap) (locs1 : List Loc), va_P G cl (ws.set q0 (a, .inl (cA, n, .inl (upd f k x)))) H1 → va_D A (ws.set q0 (a, .inl (cA, n, .inl (upd f k x)))) → va_S A H0 H1 locs1 → W p l e R s m args below meth c H1 locs1 cells slots Q (F0 m (pc + 1) ls rest)) : W p l e R s m args below meth c H locs cells slots Q (F0 m pc ls (.int x :: .int (nI k) :: .ref a :: rest)) := by
  refine va_iast hx hb hK hP hD hS q0 t0 ha ht (vp_in_nI hk hn) hdg ?_
  rw [nI_clamp (by omega)]
  exact kk
theorem xa_bast {tys : List (ClassId × FieldType)} {cl : List vw_C} {H0 : Heap} (hx : p.tables.exec = Jvm.exec) (hb : c.code = cc) (hK : va_K G cl tys s) (hP : va_P G cl ws H) (hD : va_D A ws) (hS : va_S A H0 H locs) (q0 t0 : Nat) {cA : ClassId} {n : Nat} {f : Nat → Int32} {k : Nat} {x : Int32} (ha : ws[q0]? = some (a, .inl (cA, n, .inl f))) (ht : tys[t0]? = some (cA, .byte)) (hk : k < n) (hn : n < 2 ^ 31) (hdg : decode cc pc = .ok (.bastore, 1))
    (kk : ∀ (H1 : Heap) (locs1 : List Loc), va_P G cl (ws.set q0 (a, .inl (cA, n, .inl (upd f k x.toInt8.toInt32)))) H1 → va_D A (ws.set q0 (a, .inl (cA, n, .inl (upd f k x.toInt8.toInt32)))) → va_S A H0 H1 locs1 → W p l e R s m args below meth c H1 locs1 cells slots Q (F0 m (pc + 1) ls rest)) : W p l e R s m args below meth c H locs cells slots Q (F0 m pc ls (.int x :: .int (nI k) :: .ref a :: rest)) := by
  refine va_bast hx hb hK hP hD hS q0 t0 ha ht (vp_in_nI hk hn) hdg ?_
  rw [nI_clamp (by omega)]
  exact kk
/-- a fixed table -/
theorem xa_ti {t N : Nat} {f : Nat → Int32} (hx : p.tables.exec = Jvm.exec) (hb : c.code = cc) (hT : va_T .int t N (fun j => .int (f j)) A s s.heap) (hS : va_S A s.heap H locs) {k : Nat} (hk : k < N) (hn : N < 2 ^ 31) (hdg : decode cc pc = .ok (.iaload, 1))
    (kk : W p l e R s m args below meth c H locs cells slots Q (F0 m (pc + 1) ls (.int (f k) :: rest))) : W p l e R s m args below meth c H locs cells slots Q (F0 m pc ls (.int (nI k) :: .ref t :: rest)) := by
  refine va_ti hx hb hT hS (vp_in_nI hk hn) (v := .int (f k)) ?_ hdg kk
  show Value.int (f (nI k).toNatClampNeg) = _
  rw [nI_clamp (by omega)]
/-- the same array by another function -/
theorem xp_cell (cA : ClassId) {n : Nat} {f g : Nat → Int32} (h : ∀ j, j < n → f j = g j) : vp_cell cA (n, .inl f) = vp_cell cA (n, .inl g) := by
  show ({ cls := cA, slots := Array.ofFn (n := n) fun j => Value.int (f j.val), vm := .none } : Cell) = { cls := cA, slots := Array.ofFn (n := n) fun j => Value.int (g j.val), vm := .none }
  congr 1
  congr 1
  funext j
  rw [h j.val j.isLt]
theorem xp_fun {cl : List vw_C} (hP : va_P G cl ws H) (q0 : Nat) {cA : ClassId} {n : Nat} {f : Nat → Int32} (g : Nat → Int32) (ha : ws[q0]? = some (a, .inl (cA, n, .inl f))) (h : ∀ j, j < n → f j = g j) : va_P G cl (ws.set q0 (a, .inl (cA, n, .inl g))) H := by
  intro k q hk
  rw [List.getElem?_set] at hk
  split at hk
  · rename_i e
    split at hk
    · cases hk
      show H[a]? = some (vp_cell cA (n, .inl g))
      rw [← xp_cell cA h]
      exact hP q0 _ ha
    · cases hk
  · exact hP k q hk
end XC
section XK
variable {p : Program} {l : Launch} {e : Env} {R : Room} {s : State} {m : MethodId} {args : Array Value} {below : List Frame} {meth : Method} {c : Code} {H : Heap} {locs : List Loc} {cells slots : Nat} {Q : State → Prop}
variable {cc : ByteArray} {pc : Nat} {ls : Array Slot} {rest : List Value} {A : Nat → Prop} {a : Nat} {ws : va_W} {G : va_G} {cl : List vw_C} {tys : List (ClassId × FieldType)} {H0 : Heap}
/-- System.arraycopy between two int rows of the world, by Nat places -/
theorem xa_copy (hx : p.tables.exec = Jvm.exec) (hb : c.code = cc) (hml : c.maxLocals = ls.size) {own : String} {index : Nat} (hown : s.vm.findClass own = some m.cls) (hlink : (Cond.methodLink own index arraycopyName).before args s = true) (hnat : (Cond.native arraycopyName).before args s = true) (hstat : (Cond.static arraycopyName).before args s = true) (hini : (Cond.initialized "java/lang/System").before args s = true)
    (hK : va_K G cl tys s) (hP : va_P G cl ws H) (hD : va_D A ws) (hS : va_S A H0 H locs) (q0 q1 t0 t1 : Nat) {a0 : Nat} {c0 c1 : ClassId} {n0 n1 : Nat} {f g : Nat → Int32} (ha0 : ws[q0]? = some (a0, .inl (c0, n0, .inl f))) (ha1 : ws[q1]? = some (a, .inl (c1, n1, .inl g))) (ht0 : tys[t0]? = some (c0, .int)) (ht1 : tys[t1]? = some (c1, .int))
    {sp dp n : Nat} (h4 : sp + n ≤ n0) (h5 : dp + n ≤ n1) (h1 : sp < 2 ^ 31) (h2 : dp < 2 ^ 31) (h3 : n < 2 ^ 31)
    (hframes : 1 ≤ R.frames) (hlocals : (rest.map fun v => v.category).sum + (nativeFrameWords "java/lang/System" "arraycopy" 5 + 11) ≤ R.locals) (hdg : decode cc pc = .ok (.invokestatic index, 3))
    (kk : ∀ (H1 : Heap) (locs1 : List Loc), va_P G cl (ws.set q1 (a, .inl (c1, n1, .inl (va_cpy f g sp dp n)))) H1 → va_D A (ws.set q1 (a, .inl (c1, n1, .inl (va_cpy f g sp dp n)))) → va_S A H0 H1 locs1 → W p l e R s m args below meth c H1 locs1 cells slots Q (F0 m (pc + 3) ls rest)) :
    W p l e R s m args below meth c H locs cells slots Q (F0 m pc ls (.int (nI n) :: .int (nI dp) :: .ref a :: .int (nI sp) :: .ref a0 :: rest)) := by
  refine va_copyi hx hb hml hown hlink hnat hstat hini hK hP hD hS q0 q1 t0 t1 ha0 ha1 ht0 ht1 rfl (nI_pos h1) (nI_pos h2) (nI_pos h3) ?_ ?_ (fun _ _ => rfl) hframes hlocals hdg ?_
  · rw [nI_clamp h1, nI_clamp h3]; exact h4
  · rw [nI_clamp h2, nI_clamp h3]; exact h5
  · rw [nI_clamp h1, nI_clamp h2, nI_clamp h3]; exact kk
/-- System.arraycopy out of a fixed table -/
theorem xa_copyt (hx : p.tables.exec = Jvm.exec) (hb : c.code = cc) (hml : c.maxLocals = ls.size) {own : String} {index : Nat} (hown : s.vm.findClass own = some m.cls) (hlink : (Cond.methodLink own index arraycopyName).before args s = true) (hnat : (Cond.native arraycopyName).before args s = true) (hstat : (Cond.static arraycopyName).before args s = true) (hini : (Cond.initialized "java/lang/System").before args s = true)
    (hK : va_K G cl tys s) (hP : va_P G cl ws H) (hD : va_D A ws) (hS : va_S A s.heap H locs) {t N : Nat} {f : Nat → Int32} (hT : va_T .int t N (fun j => .int (f j)) A s s.heap) (q1 t1 : Nat) {c1 : ClassId} {n1 : Nat} {g : Nat → Int32} (ha1 : ws[q1]? = some (a, .inl (c1, n1, .inl g))) (ht1 : tys[t1]? = some (c1, .int))
    {sp dp n : Nat} (h4 : sp + n ≤ N) (h5 : dp + n ≤ n1) (h1 : sp < 2 ^ 31) (h2 : dp < 2 ^ 31) (h3 : n < 2 ^ 31)
    (hframes : 1 ≤ R.frames) (hlocals : (rest.map fun v => v.category).sum + (nativeFrameWords "java/lang/System" "arraycopy" 5 + 11) ≤ R.locals) (hdg : decode cc pc = .ok (.invokestatic index, 3))
    (kk : ∀ (H1 : Heap) (locs1 : List Loc), va_P G cl (ws.set q1 (a, .inl (c1, n1, .inl (va_cpy f g sp dp n)))) H1 → va_D A (ws.set q1 (a, .inl (c1, n1, .inl (va_cpy f g sp dp n)))) → va_S A s.heap H1 locs1 → W p l e R s m args below meth c H1 locs1 cells slots Q (F0 m (pc + 3) ls rest)) :
    W p l e R s m args below meth c H locs cells slots Q (F0 m pc ls (.int (nI n) :: .int (nI dp) :: .ref a :: .int (nI sp) :: .ref t :: rest)) := by
  obtain ⟨tab, g1, ⟨g2, k0, g3, g4, g5⟩, g6, g7, -, g8, g9⟩ := hT
  intro T hT X
  have cT : H[t]? = some tab := (hS.2.1 t (Array.getElem?_eq_some_iff.mp g1).1 g9).trans g1
  have cD : H[a]? = some (vp_cell c1 (n1, .inl g)) := hP q1 _ ha1
  obtain ⟨-, k1, g10, cm1, g11⟩ := (hK.2 t1 _ ht1).1 n1 (fun j => .int (g j))
  have elt : ∀ i, i < n → tab.slots.getD (sp + i) .null = .int (f (sp + i)) := fun i hi => by
    rw [Array.getD_eq_getD_getElem?, g8 _ (by omega)]
    rfl
  obtain ⟨vm', X', step⟩ := X.arraycopy hx hown hlink hnat hstat hini (src := t) (dst := a) (cs := tab) (cd := vp_cell c1 (n1, .inl g)) (srcPos := nI sp) (destPos := nI dp) (n := nI n) (by rw [hT]; exact cT) (by rw [hT]; exact cD)
    g2 (fun _ h => by cases h) g6 (fun h => by cases h) g3 g10 g5 g11 (by simp [refKind]) (nI_pos h1) (nI_pos h2) (nI_pos h3)
    (by rw [nI_toInt h1, nI_toInt h3]; omega)
    (by rw [nI_toInt h2, nI_toInt h3]; show ¬ _ > ((arrV c1 n1 (fun j => .int (g j))).slots.size : Int); rw [arrV_size]; omega)
    (fun vm₁ _ i hi => by
      rw [nI_clamp h3] at hi
      rw [nI_clamp h1, elt i hi]
      exact ⟨rfl, trivial⟩)
    (g := F0 m pc ls (.int (nI n) :: .int (nI dp) :: .ref a :: .int (nI sp) :: .ref t :: rest)) rfl (by rw [hml]) (rest := rest) rfl (by rw [hb]; exact hdg) hframes (by show 2 * 0 + _ + _ ≤ _; omega)
  have e1 : copied tab (vp_cell c1 (n1, .inl g)) (nI sp) (nI dp) (nI n) = vp_cell c1 (n1, .inl (va_cpy f g sp dp n)) := by
    have e := va_copiedX (fun z => Value.int z) tab c1 f g g8 (sp := sp) (dp := dp) (n := n) (n1 := n1) h4
    unfold copied
    rw [nI_clamp h1, nI_clamp h2, nI_clamp h3]
    exact e
  rw [e1] at X' step
  generalize hcell : vp_cell c1 (n1, .inl (va_cpy f g sp dp n)) = cell at X' step
  have hl : a < H.size := (Array.getElem?_eq_some_iff.mp cD).1
  have oq : ∀ q : Nat, q ≠ a → (H.setIfInBounds a cell)[q]? = H[q]? := fun q hq => by simp [Array.getElem?_setIfInBounds, Ne.symm hq]
  have here : va_at G cl (a, .inl (c1, n1, .inl (va_cpy f g sp dp n))) (H.setIfInBounds a cell) := by
    show (H.setIfInBounds a cell)[a]? = some (vp_cell c1 (n1, .inl (va_cpy f g sp dp n)))
    rw [hcell]
    simp [Array.getElem?_setIfInBounds, hl]
  have hheap : ((T.setVm vm').setCell a cell).heap = H.setIfInBounds a cell := by rw [← hT]; rfl
  obtain ⟨u, u1, u2⟩ := kk _ _ (hP.set hD ha1 here oq) (hD.set ha1) ⟨by simp; exact hS.1, fun q z1 z2 => (oq q (fun z => z2 (z ▸ hD.2 q1 _ ha1))).trans (hS.2.1 q z1 z2), fun q hq => by
      rcases List.mem_append.mp hq with z | z
      · exact hS.2.2 q z
      · obtain ⟨x, -, hx⟩ := List.mem_map.mp z
        rw [← hx]
        exact hD.2 q1 _ ha1⟩ _ hheap X'
  exact ⟨u, step u u1, u2⟩
/-- all int arrays are of one class, so are all byte arrays -/
theorem xk_int {cl : List vw_C} {cI cB cA : ClassId} (h : va_K G cl (xt cI cB) s) (h2 : va_K G cl (xt cI cB ++ [(cA, .int)]) s) : cA = cI :=
  Option.some.inj ((h2.2 2 (cA, .int) rfl).2.symm.trans (h.2 0 (cI, .int) rfl).2)
theorem xk_byte {cl : List vw_C} {cI cB cA : ClassId} (h : va_K G cl (xt cI cB) s) (h2 : va_K G cl (xt cI cB ++ [(cA, .byte)]) s) : cA = cB :=
  Option.some.inj ((h2.2 2 (cA, .byte) rfl).2.symm.trans (h.2 1 (cB, .byte) rfl).2)
end XK
end
