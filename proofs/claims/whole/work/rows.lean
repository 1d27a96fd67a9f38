section
-- ===== PART A: goes FIRST, ahead of the names: the tables' words, and 'selects' of the private methods out of them =====
/-- a private method of a class that the tables say can be made, by its rows of tables_1 -/
def lw_okq (q : MethodName × Nat) : Prop := (q.1.cls ≠ "java/lang/invoke/MethodHandle" ∧ q.1.cls ≠ "java/lang/invoke/VarHandle") ∧ Cond.instantiable q.1.cls q.2 ∈ tables_1 ∧ Cond.privateMethod q.1 ∈ tables_1 ∧ Cond.instanceMethod q.1 ∈ tables_1
theorem lw_p0 : lw_okq (⟨"CharDesk", "hasRoomFor", "(I)Z"⟩, 7) := ⟨⟨by decide +kernel, by decide +kernel⟩, List.mem_of_getElem? (i := 5) (by decide +kernel), List.mem_of_getElem? (i := 40) (by decide +kernel), List.mem_of_getElem? (i := 41) (by decide +kernel)⟩
theorem lw_p1 : lw_okq (⟨"CharDesk", "append", "(I)V"⟩, 7) := ⟨⟨by decide +kernel, by decide +kernel⟩, List.mem_of_getElem? (i := 5) (by decide +kernel), List.mem_of_getElem? (i := 44) (by decide +kernel), List.mem_of_getElem? (i := 45) (by decide +kernel)⟩
theorem lw_p2 : lw_okq (⟨"CharDesk", "forgetReading", "()V"⟩, 7) := ⟨⟨by decide +kernel, by decide +kernel⟩, List.mem_of_getElem? (i := 5) (by decide +kernel), List.mem_of_getElem? (i := 69) (by decide +kernel), List.mem_of_getElem? (i := 70) (by decide +kernel)⟩
theorem lw_p3 : lw_okq (⟨"CharDesk", "readText", "()I"⟩, 7) := ⟨⟨by decide +kernel, by decide +kernel⟩, List.mem_of_getElem? (i := 5) (by decide +kernel), List.mem_of_getElem? (i := 73) (by decide +kernel), List.mem_of_getElem? (i := 74) (by decide +kernel)⟩
theorem lw_p4 : lw_okq (⟨"CharDesk", "decodedAt", "(I)I"⟩, 7) := ⟨⟨by decide +kernel, by decide +kernel⟩, List.mem_of_getElem? (i := 5) (by decide +kernel), List.mem_of_getElem? (i := 77) (by decide +kernel), List.mem_of_getElem? (i := 78) (by decide +kernel)⟩
theorem lw_p5 : lw_okq (⟨"CharDesk", "isLeftOut", "(II)Z"⟩, 7) := ⟨⟨by decide +kernel, by decide +kernel⟩, List.mem_of_getElem? (i := 5) (by decide +kernel), List.mem_of_getElem? (i := 92) (by decide +kernel), List.mem_of_getElem? (i := 93) (by decide +kernel)⟩
theorem lw_p6 : lw_okq (⟨"CharDesk", "keep", "(II)V"⟩, 7) := ⟨⟨by decide +kernel, by decide +kernel⟩, List.mem_of_getElem? (i := 5) (by decide +kernel), List.mem_of_getElem? (i := 97) (by decide +kernel), List.mem_of_getElem? (i := 98) (by decide +kernel)⟩
theorem lw_p7 : lw_okq (⟨"CharDesk", "hasCharacter", "(I)Z"⟩, 7) := ⟨⟨by decide +kernel, by decide +kernel⟩, List.mem_of_getElem? (i := 5) (by decide +kernel), List.mem_of_getElem? (i := 109) (by decide +kernel), List.mem_of_getElem? (i := 110) (by decide +kernel)⟩
theorem lw_p8 : lw_okq (⟨"CharDesk", "hasStretch", "(II)Z"⟩, 7) := ⟨⟨by decide +kernel, by decide +kernel⟩, List.mem_of_getElem? (i := 5) (by decide +kernel), List.mem_of_getElem? (i := 141) (by decide +kernel), List.mem_of_getElem? (i := 142) (by decide +kernel)⟩
theorem lw_p9 : lw_okq (⟨"CharDeskModel", "sequence", "()I"⟩, 9) := ⟨⟨by decide +kernel, by decide +kernel⟩, List.mem_of_getElem? (i := 152) (by decide +kernel), List.mem_of_getElem? (i := 212) (by decide +kernel), List.mem_of_getElem? (i := 213) (by decide +kernel)⟩
theorem lw_p10 : lw_okq (⟨"CharDeskModel", "next", "()Z"⟩, 9) := ⟨⟨by decide +kernel, by decide +kernel⟩, List.mem_of_getElem? (i := 152) (by decide +kernel), List.mem_of_getElem? (i := 222) (by decide +kernel), List.mem_of_getElem? (i := 223) (by decide +kernel)⟩
theorem lw_p11 : lw_okq (⟨"CharDeskModel", "go", "(I)Z"⟩, 9) := ⟨⟨by decide +kernel, by decide +kernel⟩, List.mem_of_getElem? (i := 152) (by decide +kernel), List.mem_of_getElem? (i := 234) (by decide +kernel), List.mem_of_getElem? (i := 235) (by decide +kernel)⟩
def lw_privs_1 : List (MethodName × Nat) := [(⟨"CharDesk", "hasRoomFor", "(I)Z"⟩, 7), (⟨"CharDesk", "append", "(I)V"⟩, 7), (⟨"CharDesk", "forgetReading", "()V"⟩, 7), (⟨"CharDesk", "readText", "()I"⟩, 7), (⟨"CharDesk", "decodedAt", "(I)I"⟩, 7), (⟨"CharDesk", "isLeftOut", "(II)Z"⟩, 7), (⟨"CharDesk", "keep", "(II)V"⟩, 7), (⟨"CharDesk", "hasCharacter", "(I)Z"⟩, 7), (⟨"CharDesk", "hasStretch", "(II)Z"⟩, 7), (⟨"CharDeskModel", "sequence", "()I"⟩, 9), (⟨"CharDeskModel", "next", "()Z"⟩, 9), (⟨"CharDeskModel", "go", "(I)Z"⟩, 9)]
theorem lw_r1 : ∀ q ∈ lw_privs_1, lw_okq q := List.forall_mem_cons.mpr ⟨lw_p0, List.forall_mem_cons.mpr ⟨lw_p1, List.forall_mem_cons.mpr ⟨lw_p2, List.forall_mem_cons.mpr ⟨lw_p3, List.forall_mem_cons.mpr ⟨lw_p4, List.forall_mem_cons.mpr ⟨lw_p5, List.forall_mem_cons.mpr ⟨lw_p6, List.forall_mem_cons.mpr ⟨lw_p7, List.forall_mem_cons.mpr ⟨lw_p8, List.forall_mem_cons.mpr ⟨lw_p9, List.forall_mem_cons.mpr ⟨lw_p10, List.forall_mem_cons.mpr ⟨lw_p11, fun _ h => absurd h List.not_mem_nil⟩⟩⟩⟩⟩⟩⟩⟩⟩⟩⟩⟩
def lw_privs : List (MethodName × Nat) := lw_privs_1
def lw_tbl : List Cond := k2_sels lw_privs ++ tables_1
theorem lw_privs_ok : ∀ q ∈ lw_privs, lw_okq q := lw_r1
-- ===== end of PART A; then your names; then what follows =====
/-! ===== BEGIN words of one list among another's, by their places ===== -/
theorem goodIn_r {big : List Cond} (ws : List Cond) (ps : List Nat) (hp : ws = ps.filterMap (fun i => big[i]?)) (h : ws.all goodWord = true) : GoodIn big ws := by
  intro w hw
  have h1 := List.all_eq_true.mp h w hw
  rw [hp] at hw
  obtain ⟨i, -, hi⟩ := List.mem_filterMap.mp hw
  have hm : w ∈ big := by first | exact List.mem_of_getElem? hi | exact List.getElem?_mem hi
  exact ⟨hm, good_of_word h1⟩
theorem goodIn_app {big a b : List Cond} (ha : GoodIn big a) (hb : GoodIn big b) : GoodIn big (a ++ b) := fun w h => (List.mem_append.mp h).elim (ha w) (hb w)
theorem goodIn_ca {big a b : List Cond} {c : Cond} (ha : GoodIn big (c :: a)) (hb : GoodIn big b) : GoodIn big (c :: (a ++ b)) := fun w h => (List.mem_cons.mp h).elim (fun e => ha w (List.mem_cons.mpr (Or.inl e))) (fun h => (List.mem_append.mp h).elim (fun h => ha w (List.mem_cons.mpr (Or.inr h))) (hb w))
theorem goodIn_sub {big ws : List Cond} (hm : ∀ w ∈ ws, w ∈ big) (h : ws.all goodWord = true) : GoodIn big ws := fun w hw => ⟨hm w hw, good_of_word (List.all_eq_true.mp h w hw)⟩
/-! ===== END ===== -/

/-! ===== BEGIN printed: names, fields, word lists, decode rows ===== -/
def RX0 : String := "CharDesk"
def TX0 : u_T := fun k => match k with
  | 0 => ("CharDesk", "text", "[I", true)
  | 1 => ("CharDesk", "textLength", "I", false)
  | 2 => ("CharDesk", "characters", "[I", true)
  | 3 => ("CharDesk", "places", "[I", true)
  | 4 => ("CharDesk", "count", "I", false)
  | 5 => ("CharDesk", "hasReading", "Z", false)
  | _ => ("CharDesk", "faultPlace", "I", false)
def tyX0 : Nat → FieldType := fun k => match k with
  | 0 => .array .int
  | 1 => .int
  | 2 => .array .int
  | 3 => .array .int
  | 4 => .int
  | 5 => .boolean
  | _ => .int
abbrev wsX00 : List Cond := u_ws RX0 TX0 7
theorem nmX0 : ∀ a, a < 7 → ∀ b, b < 7 → a ≠ b → (TX0 a).2.1 ≠ (TX0 b).2.1 := by decide +kernel
theorem tyX0_ok : ∀ k, k < 7 → parseFieldDescriptor (TX0 k).2.2.1 = some (tyX0 k) := by decide +kernel
abbrev cX0_init : ByteArray := prog_1_method_1_code
def yX0_init : MethodName := ⟨RX0, "<init>", "()V"⟩
abbrev cX0_put : ByteArray := prog_1_method_2_code
def yX0_put : MethodName := ⟨RX0, "put", "(JI)Z"⟩
abbrev cX0_character : ByteArray := prog_1_method_3_code
def yX0_character : MethodName := ⟨RX0, "character", "(I)Z"⟩
abbrev cX0_read : ByteArray := prog_1_method_4_code
def yX0_read : MethodName := ⟨RX0, "read", "()I"⟩
abbrev cX0_place : ByteArray := prog_1_method_5_code
def yX0_place : MethodName := ⟨RX0, "place", "()I"⟩
abbrev cX0_at : ByteArray := prog_1_method_6_code
def yX0_at : MethodName := ⟨RX0, "at", "(I)I"⟩
abbrev cX0_placeOf : ByteArray := prog_1_method_7_code
def yX0_placeOf : MethodName := ⟨RX0, "placeOf", "(I)I"⟩
abbrev cX0_kind : ByteArray := prog_1_method_8_code
def yX0_kind : MethodName := ⟨RX0, "kind", "(I)I"⟩
abbrev cX0_run : ByteArray := prog_1_method_9_code
def yX0_run : MethodName := ⟨RX0, "run", "(II)I"⟩
abbrev cX0_compare : ByteArray := prog_1_method_10_code
def yX0_compare : MethodName := ⟨RX0, "compare", "(III)I"⟩
abbrev cX0_bytes : ByteArray := prog_1_method_11_code
def yX0_bytes : MethodName := ⟨RX0, "bytes", "(I)J"⟩
abbrev cX0_hasRoomFor : ByteArray := prog_1_method_12_code
def yX0_hasRoomFor : MethodName := ⟨RX0, "hasRoomFor", "(I)Z"⟩
abbrev cX0_append : ByteArray := prog_1_method_13_code
def yX0_append : MethodName := ⟨RX0, "append", "(I)V"⟩
abbrev cX0_forgetReading : ByteArray := prog_1_method_14_code
def yX0_forgetReading : MethodName := ⟨RX0, "forgetReading", "()V"⟩
abbrev cX0_readText : ByteArray := prog_1_method_15_code
def yX0_readText : MethodName := ⟨RX0, "readText", "()I"⟩
abbrev cX0_faultOf : ByteArray := prog_1_method_16_code
def yX0_faultOf : MethodName := ⟨RX0, "faultOf", "(I)I"⟩
abbrev cX0_isLeftOut : ByteArray := prog_1_method_17_code
def yX0_isLeftOut : MethodName := ⟨RX0, "isLeftOut", "(II)Z"⟩
abbrev cX0_keep : ByteArray := prog_1_method_18_code
def yX0_keep : MethodName := ⟨RX0, "keep", "(II)V"⟩
abbrev cX0_decodedAt : ByteArray := prog_1_method_19_code
def yX0_decodedAt : MethodName := ⟨RX0, "decodedAt", "(I)I"⟩
abbrev cX0_followersOf : ByteArray := prog_1_method_20_code
def yX0_followersOf : MethodName := ⟨RX0, "followersOf", "(I)I"⟩
abbrev cX0_widthOf : ByteArray := prog_1_method_21_code
def yX0_widthOf : MethodName := ⟨RX0, "widthOf", "(I)I"⟩
abbrev cX0_encodedByte : ByteArray := prog_1_method_22_code
def yX0_encodedByte : MethodName := ⟨RX0, "encodedByte", "(III)I"⟩
abbrev cX0_firstByteMark : ByteArray := prog_1_method_23_code
def yX0_firstByteMark : MethodName := ⟨RX0, "firstByteMark", "(I)I"⟩
abbrev cX0_hasCharacter : ByteArray := prog_1_method_24_code
def yX0_hasCharacter : MethodName := ⟨RX0, "hasCharacter", "(I)Z"⟩
abbrev cX0_hasStretch : ByteArray := prog_1_method_25_code
def yX0_hasStretch : MethodName := ⟨RX0, "hasStretch", "(II)Z"⟩
abbrev cX0_belongsToRun : ByteArray := prog_1_method_26_code
def yX0_belongsToRun : MethodName := ⟨RX0, "belongsToRun", "(II)Z"⟩
abbrev cX0_isNamePart : ByteArray := prog_1_method_27_code
def yX0_isNamePart : MethodName := ⟨RX0, "isNamePart", "(I)Z"⟩
abbrev cX0_isIn : ByteArray := prog_1_method_28_code
def yX0_isIn : MethodName := ⟨RX0, "isIn", "([II)Z"⟩
def RX1 : String := "CharDeskModel"
def TX1 : u_T := fun k => match k with
  | 0 => ("CharDeskModel", "text", "[I", true)
  | 1 => ("CharDeskModel", "size", "I", false)
  | 2 => ("CharDeskModel", "kept", "[I", true)
  | 3 => ("CharDeskModel", "length", "I", false)
  | 4 => ("CharDeskModel", "read", "Z", false)
  | 5 => ("CharDeskModel", "place", "I", false)
  | 6 => ("CharDeskModel", "stand", "I", false)
  | 7 => ("CharDeskModel", "met", "I", false)
  | _ => ("CharDeskModel", "began", "I", false)
def tyX1 : Nat → FieldType := fun k => match k with
  | 0 => .array .int
  | 1 => .int
  | 2 => .array .int
  | 3 => .int
  | 4 => .boolean
  | 5 => .int
  | 6 => .int
  | 7 => .int
  | _ => .int
abbrev wsX10 : List Cond := u_ws RX1 TX1 9
theorem nmX1 : ∀ a, a < 9 → ∀ b, b < 9 → a ≠ b → (TX1 a).2.1 ≠ (TX1 b).2.1 := by decide +kernel
theorem tyX1_ok : ∀ k, k < 9 → parseFieldDescriptor (TX1 k).2.2.1 = some (tyX1 k) := by decide +kernel
abbrev cX1_init : ByteArray := prog_3_method_1_code
def yX1_init : MethodName := ⟨RX1, "<init>", "()V"⟩
abbrev cX1_put : ByteArray := prog_3_method_2_code
def yX1_put : MethodName := ⟨RX1, "put", "(JI)Z"⟩
abbrev cX1_has : ByteArray := prog_3_method_3_code
def yX1_has : MethodName := ⟨RX1, "has", "(I)Z"⟩
abbrev cX1_sizeOf : ByteArray := prog_3_method_4_code
def yX1_sizeOf : MethodName := ⟨RX1, "sizeOf", "(I)I"⟩
abbrev cX1_byteOf : ByteArray := prog_3_method_5_code
def yX1_byteOf : MethodName := ⟨RX1, "byteOf", "(II)I"⟩
abbrev cX1_character : ByteArray := prog_3_method_6_code
def yX1_character : MethodName := ⟨RX1, "character", "(I)Z"⟩
abbrev cX1_sequence : ByteArray := prog_3_method_7_code
def yX1_sequence : MethodName := ⟨RX1, "sequence", "()I"⟩
abbrev cX1_isAllowed : ByteArray := prog_3_method_8_code
def yX1_isAllowed : MethodName := ⟨RX1, "isAllowed", "(I)Z"⟩
abbrev cX1_next : ByteArray := prog_3_method_9_code
def yX1_next : MethodName := ⟨RX1, "next", "()Z"⟩
abbrev cX1_read : ByteArray := prog_3_method_10_code
def yX1_read : MethodName := ⟨RX1, "read", "()I"⟩
abbrev cX1_place : ByteArray := prog_3_method_11_code
def yX1_place : MethodName := ⟨RX1, "place", "()I"⟩
abbrev cX1_go : ByteArray := prog_3_method_12_code
def yX1_go : MethodName := ⟨RX1, "go", "(I)Z"⟩
abbrev cX1_at : ByteArray := prog_3_method_13_code
def yX1_at : MethodName := ⟨RX1, "at", "(I)I"⟩
def RJ6 : String := "java/lang/Integer"
def TJ6 : u_T := fun k => match k with
  | _ => ("", "", "", false)
def tyJ6 : Nat → FieldType := fun k => match k with
  | _ => .int
abbrev wsJ60 : List Cond := u_ws RJ6 TJ6 0
theorem nmJ6 : ∀ a, a < 0 → ∀ b, b < 0 → a ≠ b → (TJ6 a).2.1 ≠ (TJ6 b).2.1 := by decide +kernel
theorem tyJ6_ok : ∀ k, k < 0 → parseFieldDescriptor (TJ6 k).2.2.1 = some (tyJ6 k) := by decide +kernel
abbrev cJ6_compare_7cf53 : ByteArray := prog_4_method_40_code
def yJ6_compare_7cf53 : MethodName := ⟨RJ6, "compare", "(II)I"⟩
def RL : String := "CharDeskLaw"
abbrev cL_law : ByteArray := code
def yL_law : MethodName := ⟨RL, "law", "([I)Z"⟩
def wsX0_init : List Cond := .code yX0_init cX0_init 1 none :: ([.methodLink RX0 1 objectInit, .instanceMethod objectInit, .code objectInit ⟨#[0xb1]⟩ 1 none, .arrayClass .int, .fieldLink RX0 9 "CharDesk" "text" "[I", .fieldLink RX0 13 "CharDesk" "characters" "[I", .fieldLink RX0 16 "CharDesk" "places" "[I", .fieldLink RX0 19 "CharDesk" "textLength" "I", .fieldLink RX0 23 "CharDesk" "count" "I", .fieldLink RX0 26 "CharDesk" "hasReading" "Z", .fieldLink RX0 30 "CharDesk" "faultPlace" "I"] ++ wsX00)
def wsX0_hasRoomFor : List Cond := .code yX0_hasRoomFor cX0_hasRoomFor 2 (some .boolean) :: ([.fieldLink RX0 19 "CharDesk" "textLength" "I"] ++ wsX00)
def wsX0_append : List Cond := .code yX0_append cX0_append 2 none :: ([.fieldLink RX0 19 "CharDesk" "textLength" "I", .fieldLink RX0 9 "CharDesk" "text" "[I"] ++ wsX00)
def wsX0_put : List Cond := .code yX0_put cX0_put 5 (some .boolean) :: ([.methodLink RX0 33 yX0_hasRoomFor, .instanceMethod yX0_hasRoomFor, .selects RX0 yX0_hasRoomFor yX0_hasRoomFor, .initialized RX0, .code yX0_hasRoomFor cX0_hasRoomFor 2 (some .boolean), .fieldLink RX0 19 "CharDesk" "textLength" "I", .methodLink RX0 37 yX0_append, .instanceMethod yX0_append, .selects RX0 yX0_append yX0_append, .code yX0_append cX0_append 2 none, .fieldLink RX0 9 "CharDesk" "text" "[I"] ++ wsX00)
def wsX0_widthOf : List Cond := .code yX0_widthOf cX0_widthOf 1 (some .int) :: ([.constant RX0 105 (1114111), .constant RX0 106 (55296), .constant RX0 107 (57343), .constant RX0 108 (65535)])
def wsX0_firstByteMark : List Cond := .code yX0_firstByteMark cX0_firstByteMark 1 (some .int) :: ([])
def wsX0_encodedByte : List Cond := .code yX0_encodedByte cX0_encodedByte 4 (some .int) :: ([.methodLink RX0 109 yX0_firstByteMark, .static yX0_firstByteMark, .initialized RX0, .code yX0_firstByteMark cX0_firstByteMark 1 (some .int)])
def wsX0_character : List Cond := .code yX0_character cX0_character 4 (some .boolean) :: ([.methodLink RX0 41 yX0_widthOf, .static yX0_widthOf, .initialized RX0, .code yX0_widthOf cX0_widthOf 1 (some .int), .constant RX0 105 (1114111), .constant RX0 106 (55296), .constant RX0 107 (57343), .constant RX0 108 (65535), .methodLink RX0 33 yX0_hasRoomFor, .instanceMethod yX0_hasRoomFor, .selects RX0 yX0_hasRoomFor yX0_hasRoomFor, .code yX0_hasRoomFor cX0_hasRoomFor 2 (some .boolean), .fieldLink RX0 19 "CharDesk" "textLength" "I", .methodLink RX0 45 yX0_encodedByte, .static yX0_encodedByte, .code yX0_encodedByte cX0_encodedByte 4 (some .int), .methodLink RX0 109 yX0_firstByteMark, .static yX0_firstByteMark, .code yX0_firstByteMark cX0_firstByteMark 1 (some .int), .methodLink RX0 37 yX0_append, .instanceMethod yX0_append, .selects RX0 yX0_append yX0_append, .code yX0_append cX0_append 2 none, .fieldLink RX0 9 "CharDesk" "text" "[I"] ++ wsX00)
def wsX0_forgetReading : List Cond := .code yX0_forgetReading cX0_forgetReading 1 none :: ([.fieldLink RX0 23 "CharDesk" "count" "I", .fieldLink RX0 26 "CharDesk" "hasReading" "Z", .fieldLink RX0 30 "CharDesk" "faultPlace" "I"] ++ wsX00)
def wsX0_followersOf : List Cond := .code yX0_followersOf cX0_followersOf 1 (some .int) :: ([])
def wsX0_decodedAt : List Cond := .code yX0_decodedAt cX0_decodedAt 7 (some .int) :: ([.fieldLink RX0 9 "CharDesk" "text" "[I", .fieldLink RX0 19 "CharDesk" "textLength" "I", .methodLink RX0 102 yX0_followersOf, .static yX0_followersOf, .initialized RX0, .code yX0_followersOf cX0_followersOf 1 (some .int), .methodLink RX0 41 yX0_widthOf, .static yX0_widthOf, .code yX0_widthOf cX0_widthOf 1 (some .int), .constant RX0 105 (1114111), .constant RX0 106 (55296), .constant RX0 107 (57343), .constant RX0 108 (65535)] ++ wsX00)
def wsX0_isIn : List Cond := .code yX0_isIn cX0_isIn 3 (some .boolean) :: ([])
def wsX0_faultOf : List Cond := .code yX0_faultOf cX0_faultOf 1 (some .int) :: ([.fieldLink RX0 59 "CharDesk" "ALLOWED" "[I", .methodLink RX0 62 yX0_isIn, .static yX0_isIn, .initialized RX0, .code yX0_isIn cX0_isIn 3 (some .boolean)])
def wsX0_isLeftOut : List Cond := .code yX0_isLeftOut cX0_isLeftOut 3 (some .boolean) :: ([.constant RX0 101 (65279), .fieldLink RX0 9 "CharDesk" "text" "[I"] ++ wsX00)
def wsX0_keep : List Cond := .code yX0_keep cX0_keep 3 none :: ([.fieldLink RX0 23 "CharDesk" "count" "I", .fieldLink RX0 13 "CharDesk" "characters" "[I", .fieldLink RX0 16 "CharDesk" "places" "[I"] ++ wsX00)
def wsX0_readText_r1 : List Cond := [Cond.fieldLink RX0 19 "CharDesk" "textLength" "I", Cond.fieldLink RX0 30 "CharDesk" "faultPlace" "I", Cond.methodLink RX0 88 yX0_decodedAt, Cond.instanceMethod yX0_decodedAt, Cond.selects RX0 yX0_decodedAt yX0_decodedAt, Cond.initialized RX0, Cond.code yX0_decodedAt cX0_decodedAt 7 (some .int), Cond.fieldLink RX0 9 "CharDesk" "text" "[I", Cond.methodLink RX0 102 yX0_followersOf, Cond.static yX0_followersOf, Cond.code yX0_followersOf cX0_followersOf 1 (some .int), Cond.methodLink RX0 41 yX0_widthOf, Cond.static yX0_widthOf, Cond.code yX0_widthOf cX0_widthOf 1 (some .int), Cond.constant RX0 105 (1114111), Cond.constant RX0 106 (55296), Cond.constant RX0 107 (57343), Cond.constant RX0 108 (65535), Cond.methodLink RX0 91 yX0_faultOf, Cond.static yX0_faultOf, Cond.code yX0_faultOf cX0_faultOf 1 (some .int), Cond.fieldLink RX0 59 "CharDesk" "ALLOWED" "[I", Cond.methodLink RX0 62 yX0_isIn, Cond.static yX0_isIn]
def wsX0_readText_r2 : List Cond := [Cond.code yX0_isIn cX0_isIn 3 (some .boolean), Cond.methodLink RX0 94 yX0_isLeftOut, Cond.instanceMethod yX0_isLeftOut, Cond.selects RX0 yX0_isLeftOut yX0_isLeftOut, Cond.code yX0_isLeftOut cX0_isLeftOut 3 (some .boolean), Cond.constant RX0 101 (65279), Cond.methodLink RX0 97 yX0_keep, Cond.instanceMethod yX0_keep, Cond.selects RX0 yX0_keep yX0_keep, Cond.code yX0_keep cX0_keep 3 none, Cond.fieldLink RX0 23 "CharDesk" "count" "I", Cond.fieldLink RX0 13 "CharDesk" "characters" "[I", Cond.fieldLink RX0 16 "CharDesk" "places" "[I"]
def wsX0_readText : List Cond := .code yX0_readText cX0_readText 5 (some .int) :: ((wsX0_readText_r1 ++ wsX0_readText_r2) ++ wsX00)
def wsX0_read_r1 : List Cond := [Cond.fieldLink RX0 16 "CharDesk" "places" "[I", Cond.fieldLink RX0 23 "CharDesk" "count" "I", Cond.fieldLink RX0 19 "CharDesk" "textLength" "I", Cond.fieldLink RX0 26 "CharDesk" "hasReading" "Z", Cond.methodLink RX0 49 yX0_forgetReading, Cond.instanceMethod yX0_forgetReading, Cond.selects RX0 yX0_forgetReading yX0_forgetReading, Cond.initialized RX0, Cond.code yX0_forgetReading cX0_forgetReading 1 none, Cond.fieldLink RX0 30 "CharDesk" "faultPlace" "I", Cond.methodLink RX0 52 yX0_readText, Cond.instanceMethod yX0_readText, Cond.selects RX0 yX0_readText yX0_readText, Cond.code yX0_readText cX0_readText 5 (some .int), Cond.methodLink RX0 88 yX0_decodedAt, Cond.instanceMethod yX0_decodedAt, Cond.selects RX0 yX0_decodedAt yX0_decodedAt, Cond.code yX0_decodedAt cX0_decodedAt 7 (some .int), Cond.fieldLink RX0 9 "CharDesk" "text" "[I", Cond.methodLink RX0 102 yX0_followersOf, Cond.static yX0_followersOf, Cond.code yX0_followersOf cX0_followersOf 1 (some .int), Cond.methodLink RX0 41 yX0_widthOf, Cond.static yX0_widthOf]
def wsX0_read_r2 : List Cond := [Cond.code yX0_widthOf cX0_widthOf 1 (some .int), Cond.constant RX0 105 (1114111), Cond.constant RX0 106 (55296), Cond.constant RX0 107 (57343), Cond.constant RX0 108 (65535), Cond.methodLink RX0 91 yX0_faultOf, Cond.static yX0_faultOf, Cond.code yX0_faultOf cX0_faultOf 1 (some .int), Cond.fieldLink RX0 59 "CharDesk" "ALLOWED" "[I", Cond.methodLink RX0 62 yX0_isIn, Cond.static yX0_isIn, Cond.code yX0_isIn cX0_isIn 3 (some .boolean), Cond.methodLink RX0 94 yX0_isLeftOut, Cond.instanceMethod yX0_isLeftOut, Cond.selects RX0 yX0_isLeftOut yX0_isLeftOut, Cond.code yX0_isLeftOut cX0_isLeftOut 3 (some .boolean), Cond.constant RX0 101 (65279), Cond.methodLink RX0 97 yX0_keep, Cond.instanceMethod yX0_keep, Cond.selects RX0 yX0_keep yX0_keep, Cond.code yX0_keep cX0_keep 3 none, Cond.fieldLink RX0 13 "CharDesk" "characters" "[I"]
def wsX0_read : List Cond := .code yX0_read cX0_read 2 (some .int) :: ((wsX0_read_r1 ++ wsX0_read_r2) ++ wsX00)
def wsX0_place : List Cond := .code yX0_place cX0_place 1 (some .int) :: ([.fieldLink RX0 30 "CharDesk" "faultPlace" "I"] ++ wsX00)
def wsX0_hasCharacter : List Cond := .code yX0_hasCharacter cX0_hasCharacter 2 (some .boolean) :: ([.fieldLink RX0 23 "CharDesk" "count" "I"] ++ wsX00)
def wsX0_at : List Cond := .code yX0_at cX0_at 2 (some .int) :: ([.fieldLink RX0 13 "CharDesk" "characters" "[I", .methodLink RX0 56 yX0_hasCharacter, .instanceMethod yX0_hasCharacter, .selects RX0 yX0_hasCharacter yX0_hasCharacter, .initialized RX0, .code yX0_hasCharacter cX0_hasCharacter 2 (some .boolean), .fieldLink RX0 23 "CharDesk" "count" "I"] ++ wsX00)
def wsX0_placeOf : List Cond := .code yX0_placeOf cX0_placeOf 2 (some .int) :: ([.fieldLink RX0 26 "CharDesk" "hasReading" "Z", .fieldLink RX0 23 "CharDesk" "count" "I", .fieldLink RX0 16 "CharDesk" "places" "[I"] ++ wsX00)
def wsX0_isNamePart : List Cond := .code yX0_isNamePart cX0_isNamePart 1 (some .boolean) :: ([.fieldLink RX0 69 "CharDesk" "NAME_BEGINS" "[I", .fieldLink RX0 112 "CharDesk" "FURTHER_NAME_PARTS" "[I", .methodLink RX0 62 yX0_isIn, .static yX0_isIn, .initialized RX0, .code yX0_isIn cX0_isIn 3 (some .boolean)])
def wsX0_kind : List Cond := .code yX0_kind cX0_kind 3 (some .int) :: ([.fieldLink RX0 59 "CharDesk" "ALLOWED" "[I", .fieldLink RX0 66 "CharDesk" "BLANKS" "[I", .fieldLink RX0 69 "CharDesk" "NAME_BEGINS" "[I", .methodLink RX0 62 yX0_isIn, .static yX0_isIn, .initialized RX0, .code yX0_isIn cX0_isIn 3 (some .boolean), .methodLink RX0 72 yX0_isNamePart, .static yX0_isNamePart, .code yX0_isNamePart cX0_isNamePart 1 (some .boolean), .fieldLink RX0 112 "CharDesk" "FURTHER_NAME_PARTS" "[I"])
def wsX0_belongsToRun : List Cond := .code yX0_belongsToRun cX0_belongsToRun 2 (some .boolean) :: ([.fieldLink RX0 66 "CharDesk" "BLANKS" "[I", .methodLink RX0 72 yX0_isNamePart, .static yX0_isNamePart, .initialized RX0, .code yX0_isNamePart cX0_isNamePart 1 (some .boolean), .fieldLink RX0 69 "CharDesk" "NAME_BEGINS" "[I", .fieldLink RX0 112 "CharDesk" "FURTHER_NAME_PARTS" "[I", .methodLink RX0 62 yX0_isIn, .static yX0_isIn, .code yX0_isIn cX0_isIn 3 (some .boolean)])
def wsX0_run : List Cond := .code yX0_run cX0_run 4 (some .int) :: ([.fieldLink RX0 69 "CharDesk" "NAME_BEGINS" "[I", .fieldLink RX0 13 "CharDesk" "characters" "[I", .fieldLink RX0 23 "CharDesk" "count" "I", .methodLink RX0 56 yX0_hasCharacter, .instanceMethod yX0_hasCharacter, .selects RX0 yX0_hasCharacter yX0_hasCharacter, .initialized RX0, .code yX0_hasCharacter cX0_hasCharacter 2 (some .boolean), .methodLink RX0 62 yX0_isIn, .static yX0_isIn, .code yX0_isIn cX0_isIn 3 (some .boolean), .methodLink RX0 75 yX0_belongsToRun, .static yX0_belongsToRun, .code yX0_belongsToRun cX0_belongsToRun 2 (some .boolean), .fieldLink RX0 66 "CharDesk" "BLANKS" "[I", .methodLink RX0 72 yX0_isNamePart, .static yX0_isNamePart, .code yX0_isNamePart cX0_isNamePart 1 (some .boolean), .fieldLink RX0 112 "CharDesk" "FURTHER_NAME_PARTS" "[I"] ++ wsX00)
def wsX0_hasStretch : List Cond := .code yX0_hasStretch cX0_hasStretch 3 (some .boolean) :: ([.fieldLink RX0 26 "CharDesk" "hasReading" "Z", .fieldLink RX0 23 "CharDesk" "count" "I"] ++ wsX00)
def wsJ6_compare_7cf53 : List Cond := .code yJ6_compare_7cf53 cJ6_compare_7cf53 2 (some .int) :: ([])
def wsX0_compare : List Cond := .code yX0_compare cX0_compare 6 (some .int) :: ([.fieldLink RX0 13 "CharDesk" "characters" "[I", .methodLink RX0 79 yX0_hasStretch, .instanceMethod yX0_hasStretch, .selects RX0 yX0_hasStretch yX0_hasStretch, .initialized RX0, .code yX0_hasStretch cX0_hasStretch 3 (some .boolean), .fieldLink RX0 26 "CharDesk" "hasReading" "Z", .fieldLink RX0 23 "CharDesk" "count" "I", .methodLink RX0 82 yJ6_compare_7cf53, .static yJ6_compare_7cf53, .initialized RJ6, .code yJ6_compare_7cf53 cJ6_compare_7cf53 2 (some .int)] ++ wsX00)
def wsX0_bytes : List Cond := .code yX0_bytes cX0_bytes 6 (some .long) :: ([.methodLink RX0 41 yX0_widthOf, .static yX0_widthOf, .initialized RX0, .code yX0_widthOf cX0_widthOf 1 (some .int), .constant RX0 105 (1114111), .constant RX0 106 (55296), .constant RX0 107 (57343), .constant RX0 108 (65535), .methodLink RX0 45 yX0_encodedByte, .static yX0_encodedByte, .code yX0_encodedByte cX0_encodedByte 4 (some .int), .methodLink RX0 109 yX0_firstByteMark, .static yX0_firstByteMark, .code yX0_firstByteMark cX0_firstByteMark 1 (some .int)])
def wsX1_init : List Cond := .code yX1_init cX1_init 1 none :: ([.methodLink RX1 1 objectInit, .instanceMethod objectInit, .code objectInit ⟨#[0xb1]⟩ 1 none, .arrayClass .int, .fieldLink RX1 7 "CharDeskModel" "text" "[I", .fieldLink RX1 13 "CharDeskModel" "kept" "[I", .fieldLink RX1 16 "CharDeskModel" "place" "I"] ++ wsX10)
def wsX1_put : List Cond := .code yX1_put cX1_put 5 (some .boolean) :: ([.fieldLink RX1 20 "CharDeskModel" "size" "I", .fieldLink RX1 7 "CharDeskModel" "text" "[I", .constantLong RX1 23 (255)] ++ wsX10)
def wsX1_has : List Cond := .code yX1_has cX1_has 1 (some .boolean) :: ([.constant RX1 25 (55296), .constant RX1 26 (57343), .constant RX1 27 (1114112)])
def wsX1_sizeOf : List Cond := .code yX1_sizeOf cX1_sizeOf 2 (some .int) :: ([.constant RX1 28 (65535)])
def wsX1_byteOf : List Cond := .code yX1_byteOf cX1_byteOf 5 (some .int) :: ([.methodLink RX1 29 yX1_sizeOf, .static yX1_sizeOf, .initialized RX1, .code yX1_sizeOf cX1_sizeOf 2 (some .int), .constant RX1 28 (65535)])
def wsX1_character : List Cond := .code yX1_character cX1_character 4 (some .boolean) :: ([.fieldLink RX1 20 "CharDeskModel" "size" "I", .fieldLink RX1 7 "CharDeskModel" "text" "[I", .methodLink RX1 33 yX1_has, .static yX1_has, .initialized RX1, .code yX1_has cX1_has 1 (some .boolean), .constant RX1 25 (55296), .constant RX1 26 (57343), .constant RX1 27 (1114112), .methodLink RX1 29 yX1_sizeOf, .static yX1_sizeOf, .code yX1_sizeOf cX1_sizeOf 2 (some .int), .constant RX1 28 (65535), .methodLink RX1 37 yX1_byteOf, .static yX1_byteOf, .code yX1_byteOf cX1_byteOf 5 (some .int)] ++ wsX10)
def wsX1_sequence : List Cond := .code yX1_sequence cX1_sequence 6 (some .int) :: ([.fieldLink RX1 13 "CharDeskModel" "kept" "[I", .fieldLink RX1 41 "CharDeskModel" "stand" "I", .fieldLink RX1 44 "CharDeskModel" "length" "I", .methodLink RX1 33 yX1_has, .static yX1_has, .initialized RX1, .code yX1_has cX1_has 1 (some .boolean), .constant RX1 25 (55296), .constant RX1 26 (57343), .constant RX1 27 (1114112), .methodLink RX1 29 yX1_sizeOf, .static yX1_sizeOf, .code yX1_sizeOf cX1_sizeOf 2 (some .int), .constant RX1 28 (65535)] ++ wsX10)
def wsX1_isAllowed : List Cond := .code yX1_isAllowed cX1_isAllowed 1 (some .boolean) :: ([.constant RX1 25 (55296), .constant RX1 47 (57344), .constant RX1 48 (65534), .constant RX1 49 (65536), .constant RX1 27 (1114112)])
def wsX1_next : List Cond := .code yX1_next cX1_next 1 (some .boolean) :: ([.fieldLink RX1 41 "CharDeskModel" "stand" "I", .fieldLink RX1 44 "CharDeskModel" "length" "I", .fieldLink RX1 13 "CharDeskModel" "kept" "[I", .fieldLink RX1 50 "CharDeskModel" "began" "I", .fieldLink RX1 57 "CharDeskModel" "met" "I", .methodLink RX1 53 yX1_sequence, .instanceMethod yX1_sequence, .selects RX1 yX1_sequence yX1_sequence, .initialized RX1, .code yX1_sequence cX1_sequence 6 (some .int), .methodLink RX1 33 yX1_has, .static yX1_has, .code yX1_has cX1_has 1 (some .boolean), .constant RX1 25 (55296), .constant RX1 26 (57343), .constant RX1 27 (1114112), .methodLink RX1 29 yX1_sizeOf, .static yX1_sizeOf, .code yX1_sizeOf cX1_sizeOf 2 (some .int), .constant RX1 28 (65535)] ++ wsX10)
def wsX1_read_r1 : List Cond := [Cond.fieldLink RX1 20 "CharDeskModel" "size" "I", Cond.fieldLink RX1 44 "CharDeskModel" "length" "I", Cond.fieldLink RX1 60 "CharDeskModel" "read" "Z", Cond.fieldLink RX1 13 "CharDeskModel" "kept" "[I", Cond.fieldLink RX1 7 "CharDeskModel" "text" "[I", Cond.fieldLink RX1 41 "CharDeskModel" "stand" "I", Cond.fieldLink RX1 16 "CharDeskModel" "place" "I", Cond.methodLink RX1 53 yX1_sequence, Cond.instanceMethod yX1_sequence, Cond.selects RX1 yX1_sequence yX1_sequence, Cond.initialized RX1, Cond.code yX1_sequence cX1_sequence 6 (some .int), Cond.methodLink RX1 33 yX1_has, Cond.static yX1_has, Cond.code yX1_has cX1_has 1 (some .boolean), Cond.constant RX1 25 (55296), Cond.constant RX1 26 (57343), Cond.constant RX1 27 (1114112), Cond.methodLink RX1 29 yX1_sizeOf, Cond.static yX1_sizeOf, Cond.code yX1_sizeOf cX1_sizeOf 2 (some .int), Cond.constant RX1 28 (65535), Cond.methodLink RX1 64 yX1_isAllowed, Cond.static yX1_isAllowed]
def wsX1_read_r2 : List Cond := [Cond.code yX1_isAllowed cX1_isAllowed 1 (some .boolean), Cond.constant RX1 47 (57344), Cond.constant RX1 48 (65534), Cond.constant RX1 49 (65536), Cond.methodLink RX1 67 yX1_next, Cond.instanceMethod yX1_next, Cond.selects RX1 yX1_next yX1_next, Cond.code yX1_next cX1_next 1 (some .boolean), Cond.fieldLink RX1 50 "CharDeskModel" "began" "I", Cond.fieldLink RX1 57 "CharDeskModel" "met" "I"]
def wsX1_read : List Cond := .code yX1_read cX1_read 2 (some .int) :: ((wsX1_read_r1 ++ wsX1_read_r2) ++ wsX10)
def wsX1_place : List Cond := .code yX1_place cX1_place 1 (some .int) :: ([.fieldLink RX1 16 "CharDeskModel" "place" "I"] ++ wsX10)
def wsX1_go_r1 : List Cond := [Cond.fieldLink RX1 41 "CharDeskModel" "stand" "I", Cond.fieldLink RX1 60 "CharDeskModel" "read" "Z", Cond.methodLink RX1 67 yX1_next, Cond.instanceMethod yX1_next, Cond.selects RX1 yX1_next yX1_next, Cond.initialized RX1, Cond.code yX1_next cX1_next 1 (some .boolean), Cond.fieldLink RX1 44 "CharDeskModel" "length" "I", Cond.fieldLink RX1 13 "CharDeskModel" "kept" "[I", Cond.fieldLink RX1 50 "CharDeskModel" "began" "I", Cond.fieldLink RX1 57 "CharDeskModel" "met" "I", Cond.methodLink RX1 53 yX1_sequence, Cond.instanceMethod yX1_sequence, Cond.selects RX1 yX1_sequence yX1_sequence, Cond.code yX1_sequence cX1_sequence 6 (some .int), Cond.methodLink RX1 33 yX1_has, Cond.static yX1_has, Cond.code yX1_has cX1_has 1 (some .boolean), Cond.constant RX1 25 (55296), Cond.constant RX1 26 (57343), Cond.constant RX1 27 (1114112), Cond.methodLink RX1 29 yX1_sizeOf, Cond.static yX1_sizeOf, Cond.code yX1_sizeOf cX1_sizeOf 2 (some .int)]
def wsX1_go_r2 : List Cond := [Cond.constant RX1 28 (65535)]
def wsX1_go : List Cond := .code yX1_go cX1_go 4 (some .boolean) :: ((wsX1_go_r1 ++ wsX1_go_r2) ++ wsX10)
def wsX1_at_r1 : List Cond := [Cond.fieldLink RX1 57 "CharDeskModel" "met" "I", Cond.methodLink RX1 71 yX1_go, Cond.instanceMethod yX1_go, Cond.selects RX1 yX1_go yX1_go, Cond.initialized RX1, Cond.code yX1_go cX1_go 4 (some .boolean), Cond.fieldLink RX1 41 "CharDeskModel" "stand" "I", Cond.fieldLink RX1 60 "CharDeskModel" "read" "Z", Cond.methodLink RX1 67 yX1_next, Cond.instanceMethod yX1_next, Cond.selects RX1 yX1_next yX1_next, Cond.code yX1_next cX1_next 1 (some .boolean), Cond.fieldLink RX1 44 "CharDeskModel" "length" "I", Cond.fieldLink RX1 13 "CharDeskModel" "kept" "[I", Cond.fieldLink RX1 50 "CharDeskModel" "began" "I", Cond.methodLink RX1 53 yX1_sequence, Cond.instanceMethod yX1_sequence, Cond.selects RX1 yX1_sequence yX1_sequence, Cond.code yX1_sequence cX1_sequence 6 (some .int), Cond.methodLink RX1 33 yX1_has, Cond.static yX1_has, Cond.code yX1_has cX1_has 1 (some .boolean), Cond.constant RX1 25 (55296), Cond.constant RX1 26 (57343)]
def wsX1_at_r2 : List Cond := [Cond.constant RX1 27 (1114112), Cond.methodLink RX1 29 yX1_sizeOf, Cond.static yX1_sizeOf, Cond.code yX1_sizeOf cX1_sizeOf 2 (some .int), Cond.constant RX1 28 (65535)]
def wsX1_at : List Cond := .code yX1_at cX1_at 2 (some .int) :: ((wsX1_at_r1 ++ wsX1_at_r2) ++ wsX10)
def wsL_law_r1 : List Cond := [Cond.classLink RL 7 RX0, Cond.instantiable RX0 7, Cond.initialized RX0, Cond.classLink RL 10 RX1, Cond.instantiable RX1 9, Cond.initialized RX1, Cond.methodLink RL 9 yX0_init, Cond.instanceMethod yX0_init, Cond.code yX0_init cX0_init 1 none, Cond.methodLink RX0 1 objectInit, Cond.instanceMethod objectInit, Cond.code objectInit ⟨#[0xb1]⟩ 1 none, Cond.arrayClass .int, Cond.fieldLink RX0 9 "CharDesk" "text" "[I", Cond.fieldLink RX0 13 "CharDesk" "characters" "[I", Cond.fieldLink RX0 16 "CharDesk" "places" "[I", Cond.fieldLink RX0 19 "CharDesk" "textLength" "I", Cond.fieldLink RX0 23 "CharDesk" "count" "I", Cond.fieldLink RX0 26 "CharDesk" "hasReading" "Z", Cond.fieldLink RX0 30 "CharDesk" "faultPlace" "I", Cond.methodLink RL 12 yX1_init, Cond.instanceMethod yX1_init, Cond.code yX1_init cX1_init 1 none, Cond.methodLink RX1 1 objectInit]
def wsL_law_r2 : List Cond := [Cond.fieldLink RX1 7 "CharDeskModel" "text" "[I", Cond.fieldLink RX1 13 "CharDeskModel" "kept" "[I", Cond.fieldLink RX1 16 "CharDeskModel" "place" "I", Cond.methodLink RL 15 yX0_put, Cond.instanceMethod yX0_put, Cond.selects RX0 yX0_put yX0_put, Cond.code yX0_put cX0_put 5 (some .boolean), Cond.methodLink RX0 33 yX0_hasRoomFor, Cond.instanceMethod yX0_hasRoomFor, Cond.selects RX0 yX0_hasRoomFor yX0_hasRoomFor, Cond.code yX0_hasRoomFor cX0_hasRoomFor 2 (some .boolean), Cond.methodLink RX0 37 yX0_append, Cond.instanceMethod yX0_append, Cond.selects RX0 yX0_append yX0_append, Cond.code yX0_append cX0_append 2 none, Cond.methodLink RL 19 yX1_put, Cond.instanceMethod yX1_put, Cond.selects RX1 yX1_put yX1_put, Cond.code yX1_put cX1_put 5 (some .boolean), Cond.fieldLink RX1 20 "CharDeskModel" "size" "I", Cond.constantLong RX1 23 (255), Cond.methodLink RL 20 yX0_character, Cond.instanceMethod yX0_character, Cond.selects RX0 yX0_character yX0_character]
def wsL_law_r3 : List Cond := [Cond.code yX0_character cX0_character 4 (some .boolean), Cond.methodLink RX0 41 yX0_widthOf, Cond.static yX0_widthOf, Cond.code yX0_widthOf cX0_widthOf 1 (some .int), Cond.constant RX0 105 (1114111), Cond.constant RX0 106 (55296), Cond.constant RX0 107 (57343), Cond.constant RX0 108 (65535), Cond.methodLink RX0 45 yX0_encodedByte, Cond.static yX0_encodedByte, Cond.code yX0_encodedByte cX0_encodedByte 4 (some .int), Cond.methodLink RX0 109 yX0_firstByteMark, Cond.static yX0_firstByteMark, Cond.code yX0_firstByteMark cX0_firstByteMark 1 (some .int), Cond.methodLink RL 24 yX1_character, Cond.instanceMethod yX1_character, Cond.selects RX1 yX1_character yX1_character, Cond.code yX1_character cX1_character 4 (some .boolean), Cond.methodLink RX1 33 yX1_has, Cond.static yX1_has, Cond.code yX1_has cX1_has 1 (some .boolean), Cond.constant RX1 25 (55296), Cond.constant RX1 26 (57343), Cond.constant RX1 27 (1114112)]
def wsL_law_r4 : List Cond := [Cond.methodLink RX1 29 yX1_sizeOf, Cond.static yX1_sizeOf, Cond.code yX1_sizeOf cX1_sizeOf 2 (some .int), Cond.constant RX1 28 (65535), Cond.methodLink RX1 37 yX1_byteOf, Cond.static yX1_byteOf, Cond.code yX1_byteOf cX1_byteOf 5 (some .int), Cond.methodLink RL 25 yX0_read, Cond.instanceMethod yX0_read, Cond.selects RX0 yX0_read yX0_read, Cond.code yX0_read cX0_read 2 (some .int), Cond.methodLink RX0 49 yX0_forgetReading, Cond.instanceMethod yX0_forgetReading, Cond.selects RX0 yX0_forgetReading yX0_forgetReading, Cond.code yX0_forgetReading cX0_forgetReading 1 none, Cond.methodLink RX0 52 yX0_readText, Cond.instanceMethod yX0_readText, Cond.selects RX0 yX0_readText yX0_readText, Cond.code yX0_readText cX0_readText 5 (some .int), Cond.methodLink RX0 88 yX0_decodedAt, Cond.instanceMethod yX0_decodedAt, Cond.selects RX0 yX0_decodedAt yX0_decodedAt, Cond.code yX0_decodedAt cX0_decodedAt 7 (some .int), Cond.methodLink RX0 102 yX0_followersOf]
def wsL_law_r5 : List Cond := [Cond.static yX0_followersOf, Cond.code yX0_followersOf cX0_followersOf 1 (some .int), Cond.methodLink RX0 91 yX0_faultOf, Cond.static yX0_faultOf, Cond.code yX0_faultOf cX0_faultOf 1 (some .int), Cond.fieldLink RX0 59 "CharDesk" "ALLOWED" "[I", Cond.methodLink RX0 62 yX0_isIn, Cond.static yX0_isIn, Cond.code yX0_isIn cX0_isIn 3 (some .boolean), Cond.methodLink RX0 94 yX0_isLeftOut, Cond.instanceMethod yX0_isLeftOut, Cond.selects RX0 yX0_isLeftOut yX0_isLeftOut, Cond.code yX0_isLeftOut cX0_isLeftOut 3 (some .boolean), Cond.constant RX0 101 (65279), Cond.methodLink RX0 97 yX0_keep, Cond.instanceMethod yX0_keep, Cond.selects RX0 yX0_keep yX0_keep, Cond.code yX0_keep cX0_keep 3 none, Cond.methodLink RL 29 yX1_read, Cond.instanceMethod yX1_read, Cond.selects RX1 yX1_read yX1_read, Cond.code yX1_read cX1_read 2 (some .int), Cond.fieldLink RX1 44 "CharDeskModel" "length" "I", Cond.fieldLink RX1 60 "CharDeskModel" "read" "Z"]
def wsL_law_r6 : List Cond := [Cond.fieldLink RX1 41 "CharDeskModel" "stand" "I", Cond.methodLink RX1 53 yX1_sequence, Cond.instanceMethod yX1_sequence, Cond.selects RX1 yX1_sequence yX1_sequence, Cond.code yX1_sequence cX1_sequence 6 (some .int), Cond.methodLink RX1 64 yX1_isAllowed, Cond.static yX1_isAllowed, Cond.code yX1_isAllowed cX1_isAllowed 1 (some .boolean), Cond.constant RX1 47 (57344), Cond.constant RX1 48 (65534), Cond.constant RX1 49 (65536), Cond.methodLink RX1 67 yX1_next, Cond.instanceMethod yX1_next, Cond.selects RX1 yX1_next yX1_next, Cond.code yX1_next cX1_next 1 (some .boolean), Cond.fieldLink RX1 50 "CharDeskModel" "began" "I", Cond.fieldLink RX1 57 "CharDeskModel" "met" "I", Cond.methodLink RL 30 yX0_place, Cond.instanceMethod yX0_place, Cond.selects RX0 yX0_place yX0_place, Cond.code yX0_place cX0_place 1 (some .int), Cond.methodLink RL 33 yX1_place, Cond.instanceMethod yX1_place, Cond.selects RX1 yX1_place yX1_place]
def wsL_law_r7 : List Cond := [Cond.code yX1_place cX1_place 1 (some .int), Cond.methodLink RL 34 yX0_at, Cond.instanceMethod yX0_at, Cond.selects RX0 yX0_at yX0_at, Cond.code yX0_at cX0_at 2 (some .int), Cond.methodLink RX0 56 yX0_hasCharacter, Cond.instanceMethod yX0_hasCharacter, Cond.selects RX0 yX0_hasCharacter yX0_hasCharacter, Cond.code yX0_hasCharacter cX0_hasCharacter 2 (some .boolean), Cond.methodLink RL 38 yX1_at, Cond.instanceMethod yX1_at, Cond.selects RX1 yX1_at yX1_at, Cond.code yX1_at cX1_at 2 (some .int), Cond.methodLink RX1 71 yX1_go, Cond.instanceMethod yX1_go, Cond.selects RX1 yX1_go yX1_go, Cond.code yX1_go cX1_go 4 (some .boolean), Cond.methodLink RL 39 yX0_placeOf, Cond.instanceMethod yX0_placeOf, Cond.selects RX0 yX0_placeOf yX0_placeOf, Cond.code yX0_placeOf cX0_placeOf 2 (some .int), Cond.methodLink RL 43 yX0_kind, Cond.instanceMethod yX0_kind, Cond.selects RX0 yX0_kind yX0_kind]
def wsL_law_r8 : List Cond := [Cond.code yX0_kind cX0_kind 3 (some .int), Cond.fieldLink RX0 66 "CharDesk" "BLANKS" "[I", Cond.fieldLink RX0 69 "CharDesk" "NAME_BEGINS" "[I", Cond.methodLink RX0 72 yX0_isNamePart, Cond.static yX0_isNamePart, Cond.code yX0_isNamePart cX0_isNamePart 1 (some .boolean), Cond.fieldLink RX0 112 "CharDesk" "FURTHER_NAME_PARTS" "[I", Cond.methodLink RL 47 yX0_run, Cond.instanceMethod yX0_run, Cond.selects RX0 yX0_run yX0_run, Cond.code yX0_run cX0_run 4 (some .int), Cond.methodLink RX0 75 yX0_belongsToRun, Cond.static yX0_belongsToRun, Cond.code yX0_belongsToRun cX0_belongsToRun 2 (some .boolean), Cond.methodLink RL 52 yX0_compare, Cond.instanceMethod yX0_compare, Cond.selects RX0 yX0_compare yX0_compare, Cond.code yX0_compare cX0_compare 6 (some .int), Cond.methodLink RX0 79 yX0_hasStretch, Cond.instanceMethod yX0_hasStretch, Cond.selects RX0 yX0_hasStretch yX0_hasStretch, Cond.code yX0_hasStretch cX0_hasStretch 3 (some .boolean), Cond.methodLink RX0 82 yJ6_compare_7cf53, Cond.static yJ6_compare_7cf53]
def wsL_law_r9 : List Cond := [Cond.initialized RJ6, Cond.code yJ6_compare_7cf53 cJ6_compare_7cf53 2 (some .int), Cond.methodLink RL 57 yX0_bytes, Cond.instanceMethod yX0_bytes, Cond.selects RX0 yX0_bytes yX0_bytes, Cond.code yX0_bytes cX0_bytes 6 (some .long)]
def wsL_law : List Cond := (wsL_law_r1 ++ (wsL_law_r2 ++ (wsL_law_r3 ++ (wsL_law_r4 ++ (wsL_law_r5 ++ (wsL_law_r6 ++ (wsL_law_r7 ++ (wsL_law_r8 ++ wsL_law_r9)))))))) ++ wsX00 ++ wsX10 ++ ([] : List Cond)
set_option maxRecDepth 20000 in
theorem wsL_law_in : ∀ w ∈ wsL_law, w ∈ lw_tbl := fun w h => (goodIn_p wsL_law [20, 23, 167, 50, 54, 58, 200, 62, 65, 72, 75, 205, 208, 214, 218, 79, 83, 87, 91, 94, 97, 102, 106, 111, 222, 226, 229, 236, 115, 240, 119, 123, 244, 248, 127, 131, 138, 144, 147, 151, 155, 158, 162] (by decide +kernel) (by decide +kernel) w h).1
theorem inlX0 : ∀ w ∈ wsX00, w ∈ wsL_law := fun _ h => List.mem_append_left _ (List.mem_append_left _ (List.mem_append_right _ h))
theorem inX0 : ∀ w ∈ wsX00, w ∈ lw_tbl := fun w h => wsL_law_in w (inlX0 w h)
theorem inlX1 : ∀ w ∈ wsX10, w ∈ wsL_law := fun _ h => List.mem_append_left _ (List.mem_append_right _ h)
theorem inX1 : ∀ w ∈ wsX10, w ∈ lw_tbl := fun w h => wsL_law_in w (inlX1 w h)
theorem inJ6 : ∀ w ∈ wsJ60, w ∈ lw_tbl := by decide +kernel
abbrev vwCl : List vw_C := [(RX0, TX0, 7), (RX1, TX1, 9)]
end
section
theorem dX0_init_0 : decode cX0_init 0 = .ok (.aload_n 0, 1) := by decide +kernel
theorem dX0_init_1 : decode cX0_init 1 = .ok (.invokespecial 1, 3) := by decide +kernel
theorem dX0_init_4 : decode cX0_init 4 = .ok (.aload_n 0, 1) := by decide +kernel
theorem dX0_init_5 : decode cX0_init 5 = .ok (.sipush 1000, 3) := by decide +kernel
theorem dX0_init_8 : decode cX0_init 8 = .ok (.newarray .int, 2) := by decide +kernel
theorem dX0_init_10 : decode cX0_init 10 = .ok (.putfield 9, 3) := by decide +kernel
theorem dX0_init_13 : decode cX0_init 13 = .ok (.aload_n 0, 1) := by decide +kernel
theorem dX0_init_14 : decode cX0_init 14 = .ok (.sipush 1000, 3) := by decide +kernel
theorem dX0_init_17 : decode cX0_init 17 = .ok (.newarray .int, 2) := by decide +kernel
theorem dX0_init_19 : decode cX0_init 19 = .ok (.putfield 13, 3) := by decide +kernel
theorem dX0_init_22 : decode cX0_init 22 = .ok (.aload_n 0, 1) := by decide +kernel
theorem dX0_init_23 : decode cX0_init 23 = .ok (.sipush 1001, 3) := by decide +kernel
theorem dX0_init_26 : decode cX0_init 26 = .ok (.newarray .int, 2) := by decide +kernel
theorem dX0_init_28 : decode cX0_init 28 = .ok (.putfield 16, 3) := by decide +kernel
theorem dX0_init_31 : decode cX0_init 31 = .ok (.aload_n 0, 1) := by decide +kernel
theorem dX0_init_32 : decode cX0_init 32 = .ok (.iconst 0, 1) := by decide +kernel
theorem dX0_init_33 : decode cX0_init 33 = .ok (.putfield 19, 3) := by decide +kernel
theorem dX0_init_36 : decode cX0_init 36 = .ok (.aload_n 0, 1) := by decide +kernel
theorem dX0_init_37 : decode cX0_init 37 = .ok (.iconst 0, 1) := by decide +kernel
theorem dX0_init_38 : decode cX0_init 38 = .ok (.putfield 23, 3) := by decide +kernel
theorem dX0_init_41 : decode cX0_init 41 = .ok (.aload_n 0, 1) := by decide +kernel
theorem dX0_init_42 : decode cX0_init 42 = .ok (.iconst 0, 1) := by decide +kernel
theorem dX0_init_43 : decode cX0_init 43 = .ok (.putfield 26, 3) := by decide +kernel
theorem dX0_init_46 : decode cX0_init 46 = .ok (.aload_n 0, 1) := by decide +kernel
theorem dX0_init_47 : decode cX0_init 47 = .ok (.iconst (-1), 1) := by decide +kernel
theorem dX0_init_48 : decode cX0_init 48 = .ok (.putfield 30, 3) := by decide +kernel
theorem dX0_init_51 : decode cX0_init 51 = .ok (.return_, 1) := by decide +kernel
set_option maxRecDepth 20000 in
theorem ggX0_put_X0_hasRoomFor : GoodIn wsX0_put wsX0_hasRoomFor := goodIn_r _ [5, 6, 12, 13, 14, 15, 16, 17, 18] (by decide +kernel) (by decide +kernel)
set_option maxRecDepth 20000 in
theorem gX0_put_X0_hasRoomFor : GoodIn wsX0_put (wsV RX0 33 RX0 yX0_hasRoomFor wsX0_hasRoomFor) := goodIn_app (goodIn_of _ (by decide +kernel)) ggX0_put_X0_hasRoomFor
set_option maxRecDepth 20000 in
theorem ggX0_put_X0_append : GoodIn wsX0_put wsX0_append := goodIn_r _ [10, 6, 11, 12, 13, 14, 15, 16, 17, 18] (by decide +kernel) (by decide +kernel)
set_option maxRecDepth 20000 in
theorem gX0_put_X0_append : GoodIn wsX0_put (wsV RX0 37 RX0 yX0_append wsX0_append) := goodIn_app (goodIn_of _ (by decide +kernel)) ggX0_put_X0_append
theorem dX0_put_0 : decode cX0_put 0 = .ok (.iload_n 3, 1) := by decide +kernel
theorem dX0_put_1 : decode cX0_put 1 = .ok (.iconst 1, 1) := by decide +kernel
theorem dX0_put_2 : decode cX0_put 2 = .ok (.if_icmp .lt 17, 3) := by decide +kernel
theorem dX0_put_5 : decode cX0_put 5 = .ok (.iload_n 3, 1) := by decide +kernel
theorem dX0_put_6 : decode cX0_put 6 = .ok (.bipush 8, 2) := by decide +kernel
theorem dX0_put_8 : decode cX0_put 8 = .ok (.if_icmp .gt 11, 3) := by decide +kernel
theorem dX0_put_11 : decode cX0_put 11 = .ok (.aload_n 0, 1) := by decide +kernel
theorem dX0_put_12 : decode cX0_put 12 = .ok (.iload_n 3, 1) := by decide +kernel
theorem dX0_put_13 : decode cX0_put 13 = .ok (.invokevirtual 33, 3) := by decide +kernel
theorem dX0_put_16 : decode cX0_put 16 = .ok (.ifCond .ne 5, 3) := by decide +kernel
theorem dX0_put_19 : decode cX0_put 19 = .ok (.iconst 0, 1) := by decide +kernel
theorem dX0_put_20 : decode cX0_put 20 = .ok (.ireturn, 1) := by decide +kernel
theorem dX0_put_21 : decode cX0_put 21 = .ok (.iload_n 3, 1) := by decide +kernel
theorem dX0_put_22 : decode cX0_put 22 = .ok (.iconst 1, 1) := by decide +kernel
theorem dX0_put_23 : decode cX0_put 23 = .ok (.isub, 1) := by decide +kernel
theorem dX0_put_24 : decode cX0_put 24 = .ok (.istore 4, 2) := by decide +kernel
theorem dX0_put_26 : decode cX0_put 26 = .ok (.iload 4, 2) := by decide +kernel
theorem dX0_put_28 : decode cX0_put 28 = .ok (.ifCond .lt 25, 3) := by decide +kernel
theorem dX0_put_31 : decode cX0_put 31 = .ok (.aload_n 0, 1) := by decide +kernel
theorem dX0_put_32 : decode cX0_put 32 = .ok (.lload_n 1, 1) := by decide +kernel
theorem dX0_put_33 : decode cX0_put 33 = .ok (.bipush 8, 2) := by decide +kernel
theorem dX0_put_35 : decode cX0_put 35 = .ok (.iload 4, 2) := by decide +kernel
theorem dX0_put_37 : decode cX0_put 37 = .ok (.imul, 1) := by decide +kernel
theorem dX0_put_38 : decode cX0_put 38 = .ok (.lushr, 1) := by decide +kernel
theorem dX0_put_39 : decode cX0_put 39 = .ok (.l2i, 1) := by decide +kernel
theorem dX0_put_40 : decode cX0_put 40 = .ok (.sipush 255, 3) := by decide +kernel
theorem dX0_put_43 : decode cX0_put 43 = .ok (.iand, 1) := by decide +kernel
theorem dX0_put_44 : decode cX0_put 44 = .ok (.invokevirtual 37, 3) := by decide +kernel
theorem dX0_put_47 : decode cX0_put 47 = .ok (.iinc 4 (-1), 3) := by decide +kernel
theorem dX0_put_50 : decode cX0_put 50 = .ok (.goto (-24), 3) := by decide +kernel
theorem dX0_put_53 : decode cX0_put 53 = .ok (.iconst 1, 1) := by decide +kernel
theorem dX0_put_54 : decode cX0_put 54 = .ok (.ireturn, 1) := by decide +kernel
set_option maxRecDepth 20000 in
theorem ggX0_character_X0_widthOf : GoodIn wsX0_character wsX0_widthOf := goodIn_r _ [4, 5, 6, 7, 8] (by decide +kernel) (by decide +kernel)
set_option maxRecDepth 20000 in
theorem gX0_character_X0_widthOf : GoodIn wsX0_character (va_wsS RX0 41 yX0_widthOf wsX0_widthOf) := goodIn_app (goodIn_of _ (by decide +kernel)) ggX0_character_X0_widthOf
set_option maxRecDepth 20000 in
theorem ggX0_character_X0_hasRoomFor : GoodIn wsX0_character wsX0_hasRoomFor := goodIn_r _ [12, 13, 25, 26, 27, 28, 29, 30, 31] (by decide +kernel) (by decide +kernel)
set_option maxRecDepth 20000 in
theorem gX0_character_X0_hasRoomFor : GoodIn wsX0_character (wsV RX0 33 RX0 yX0_hasRoomFor wsX0_hasRoomFor) := goodIn_app (goodIn_of _ (by decide +kernel)) ggX0_character_X0_hasRoomFor
set_option maxRecDepth 20000 in
theorem ggX0_character_X0_encodedByte : GoodIn wsX0_character wsX0_encodedByte := goodIn_r _ [16, 17, 18, 3, 19] (by decide +kernel) (by decide +kernel)
set_option maxRecDepth 20000 in
theorem gX0_character_X0_encodedByte : GoodIn wsX0_character (va_wsS RX0 45 yX0_encodedByte wsX0_encodedByte) := goodIn_app (goodIn_of _ (by decide +kernel)) ggX0_character_X0_encodedByte
set_option maxRecDepth 20000 in
theorem ggX0_character_X0_append : GoodIn wsX0_character wsX0_append := goodIn_r _ [23, 13, 24, 25, 26, 27, 28, 29, 30, 31] (by decide +kernel) (by decide +kernel)
set_option maxRecDepth 20000 in
theorem gX0_character_X0_append : GoodIn wsX0_character (wsV RX0 37 RX0 yX0_append wsX0_append) := goodIn_app (goodIn_of _ (by decide +kernel)) ggX0_character_X0_append
theorem dX0_character_0 : decode cX0_character 0 = .ok (.iload_n 1, 1) := by decide +kernel
theorem dX0_character_1 : decode cX0_character 1 = .ok (.invokestatic 41, 3) := by decide +kernel
theorem dX0_character_4 : decode cX0_character 4 = .ok (.istore_n 2, 1) := by decide +kernel
theorem dX0_character_5 : decode cX0_character 5 = .ok (.iload_n 2, 1) := by decide +kernel
theorem dX0_character_6 : decode cX0_character 6 = .ok (.ifCond .eq 11, 3) := by decide +kernel
theorem dX0_character_9 : decode cX0_character 9 = .ok (.aload_n 0, 1) := by decide +kernel
theorem dX0_character_10 : decode cX0_character 10 = .ok (.iload_n 2, 1) := by decide +kernel
theorem dX0_character_11 : decode cX0_character 11 = .ok (.invokevirtual 33, 3) := by decide +kernel
theorem dX0_character_14 : decode cX0_character 14 = .ok (.ifCond .ne 5, 3) := by decide +kernel
theorem dX0_character_17 : decode cX0_character 17 = .ok (.iconst 0, 1) := by decide +kernel
theorem dX0_character_18 : decode cX0_character 18 = .ok (.ireturn, 1) := by decide +kernel
theorem dX0_character_19 : decode cX0_character 19 = .ok (.iconst 0, 1) := by decide +kernel
theorem dX0_character_20 : decode cX0_character 20 = .ok (.istore_n 3, 1) := by decide +kernel
theorem dX0_character_21 : decode cX0_character 21 = .ok (.iload_n 3, 1) := by decide +kernel
theorem dX0_character_22 : decode cX0_character 22 = .ok (.iload_n 2, 1) := by decide +kernel
theorem dX0_character_23 : decode cX0_character 23 = .ok (.if_icmp .ge 19, 3) := by decide +kernel
theorem dX0_character_26 : decode cX0_character 26 = .ok (.aload_n 0, 1) := by decide +kernel
theorem dX0_character_27 : decode cX0_character 27 = .ok (.iload_n 1, 1) := by decide +kernel
theorem dX0_character_28 : decode cX0_character 28 = .ok (.iload_n 2, 1) := by decide +kernel
theorem dX0_character_29 : decode cX0_character 29 = .ok (.iload_n 3, 1) := by decide +kernel
theorem dX0_character_30 : decode cX0_character 30 = .ok (.invokestatic 45, 3) := by decide +kernel
theorem dX0_character_33 : decode cX0_character 33 = .ok (.invokevirtual 37, 3) := by decide +kernel
theorem dX0_character_36 : decode cX0_character 36 = .ok (.iinc 3 1, 3) := by decide +kernel
theorem dX0_character_39 : decode cX0_character 39 = .ok (.goto (-18), 3) := by decide +kernel
theorem dX0_character_42 : decode cX0_character 42 = .ok (.iconst 1, 1) := by decide +kernel
theorem dX0_character_43 : decode cX0_character 43 = .ok (.ireturn, 1) := by decide +kernel
set_option maxRecDepth 20000 in
theorem ggX0_read_X0_forgetReading : GoodIn wsX0_read wsX0_forgetReading := goodIn_r _ [9, 2, 4, 10, 47, 48, 49, 50, 51, 52, 53] (by decide +kernel) (by decide +kernel)
set_option maxRecDepth 20000 in
theorem gX0_read_X0_forgetReading : GoodIn wsX0_read (wsV RX0 49 RX0 yX0_forgetReading wsX0_forgetReading) := goodIn_app (goodIn_of _ (by decide +kernel)) ggX0_read_X0_forgetReading
set_option maxRecDepth 20000 in
theorem ggX0_read_X0_readText : GoodIn wsX0_read wsX0_readText := goodIn_r _ [14, 3, 10, 15, 16, 17, 8, 18, 19, 20, 21, 22, 23, 24, 25, 26, 27, 28, 29, 30, 31, 32, 33, 34, 35, 36, 37, 38, 39, 40, 41, 42, 43, 44, 45, 2, 46, 1, 47, 48, 49, 50, 51, 52, 53] (by decide +kernel) (by decide +kernel)
set_option maxRecDepth 20000 in
theorem gX0_read_X0_readText : GoodIn wsX0_read (wsV RX0 52 RX0 yX0_readText wsX0_readText) := goodIn_app (goodIn_of _ (by decide +kernel)) ggX0_read_X0_readText
theorem dX0_read_0 : decode cX0_read 0 = .ok (.aload_n 0, 1) := by decide +kernel
theorem dX0_read_1 : decode cX0_read 1 = .ok (.invokevirtual 49, 3) := by decide +kernel
theorem dX0_read_4 : decode cX0_read 4 = .ok (.aload_n 0, 1) := by decide +kernel
theorem dX0_read_5 : decode cX0_read 5 = .ok (.invokevirtual 52, 3) := by decide +kernel
theorem dX0_read_8 : decode cX0_read 8 = .ok (.istore_n 1, 1) := by decide +kernel
theorem dX0_read_9 : decode cX0_read 9 = .ok (.iload_n 1, 1) := by decide +kernel
theorem dX0_read_10 : decode cX0_read 10 = .ok (.ifCond .ne 24, 3) := by decide +kernel
theorem dX0_read_13 : decode cX0_read 13 = .ok (.aload_n 0, 1) := by decide +kernel
theorem dX0_read_14 : decode cX0_read 14 = .ok (.getfield 16, 3) := by decide +kernel
theorem dX0_read_17 : decode cX0_read 17 = .ok (.aload_n 0, 1) := by decide +kernel
theorem dX0_read_18 : decode cX0_read 18 = .ok (.getfield 23, 3) := by decide +kernel
theorem dX0_read_21 : decode cX0_read 21 = .ok (.aload_n 0, 1) := by decide +kernel
theorem dX0_read_22 : decode cX0_read 22 = .ok (.getfield 19, 3) := by decide +kernel
theorem dX0_read_25 : decode cX0_read 25 = .ok (.iastore, 1) := by decide +kernel
theorem dX0_read_26 : decode cX0_read 26 = .ok (.aload_n 0, 1) := by decide +kernel
theorem dX0_read_27 : decode cX0_read 27 = .ok (.iconst 1, 1) := by decide +kernel
theorem dX0_read_28 : decode cX0_read 28 = .ok (.putfield 26, 3) := by decide +kernel
theorem dX0_read_31 : decode cX0_read 31 = .ok (.goto 8, 3) := by decide +kernel
theorem dX0_read_34 : decode cX0_read 34 = .ok (.aload_n 0, 1) := by decide +kernel
theorem dX0_read_35 : decode cX0_read 35 = .ok (.iconst 0, 1) := by decide +kernel
theorem dX0_read_36 : decode cX0_read 36 = .ok (.putfield 23, 3) := by decide +kernel
theorem dX0_read_39 : decode cX0_read 39 = .ok (.aload_n 0, 1) := by decide +kernel
theorem dX0_read_40 : decode cX0_read 40 = .ok (.iconst 0, 1) := by decide +kernel
theorem dX0_read_41 : decode cX0_read 41 = .ok (.putfield 19, 3) := by decide +kernel
theorem dX0_read_44 : decode cX0_read 44 = .ok (.iload_n 1, 1) := by decide +kernel
theorem dX0_read_45 : decode cX0_read 45 = .ok (.ifCond .ne 10, 3) := by decide +kernel
theorem dX0_read_48 : decode cX0_read 48 = .ok (.aload_n 0, 1) := by decide +kernel
theorem dX0_read_49 : decode cX0_read 49 = .ok (.getfield 23, 3) := by decide +kernel
theorem dX0_read_52 : decode cX0_read 52 = .ok (.goto 6, 3) := by decide +kernel
theorem dX0_read_55 : decode cX0_read 55 = .ok (.iconst (-1), 1) := by decide +kernel
theorem dX0_read_56 : decode cX0_read 56 = .ok (.iload_n 1, 1) := by decide +kernel
theorem dX0_read_57 : decode cX0_read 57 = .ok (.isub, 1) := by decide +kernel
theorem dX0_read_58 : decode cX0_read 58 = .ok (.ireturn, 1) := by decide +kernel
theorem dX0_place_0 : decode cX0_place 0 = .ok (.aload_n 0, 1) := by decide +kernel
theorem dX0_place_1 : decode cX0_place 1 = .ok (.getfield 30, 3) := by decide +kernel
theorem dX0_place_4 : decode cX0_place 4 = .ok (.ireturn, 1) := by decide +kernel
set_option maxRecDepth 20000 in
theorem ggX0_at_X0_hasCharacter : GoodIn wsX0_at wsX0_hasCharacter := goodIn_r _ [6, 7, 8, 9, 10, 11, 12, 13, 14] (by decide +kernel) (by decide +kernel)
set_option maxRecDepth 20000 in
theorem gX0_at_X0_hasCharacter : GoodIn wsX0_at (wsV RX0 56 RX0 yX0_hasCharacter wsX0_hasCharacter) := goodIn_app (goodIn_of _ (by decide +kernel)) ggX0_at_X0_hasCharacter
theorem dX0_at_0 : decode cX0_at 0 = .ok (.aload_n 0, 1) := by decide +kernel
theorem dX0_at_1 : decode cX0_at 1 = .ok (.iload_n 1, 1) := by decide +kernel
theorem dX0_at_2 : decode cX0_at 2 = .ok (.invokevirtual 56, 3) := by decide +kernel
theorem dX0_at_5 : decode cX0_at 5 = .ok (.ifCond .eq 12, 3) := by decide +kernel
theorem dX0_at_8 : decode cX0_at 8 = .ok (.aload_n 0, 1) := by decide +kernel
theorem dX0_at_9 : decode cX0_at 9 = .ok (.getfield 13, 3) := by decide +kernel
theorem dX0_at_12 : decode cX0_at 12 = .ok (.iload_n 1, 1) := by decide +kernel
theorem dX0_at_13 : decode cX0_at 13 = .ok (.iaload, 1) := by decide +kernel
theorem dX0_at_14 : decode cX0_at 14 = .ok (.goto 4, 3) := by decide +kernel
theorem dX0_at_17 : decode cX0_at 17 = .ok (.iconst (-1), 1) := by decide +kernel
theorem dX0_at_18 : decode cX0_at 18 = .ok (.ireturn, 1) := by decide +kernel
theorem dX0_placeOf_0 : decode cX0_placeOf 0 = .ok (.aload_n 0, 1) := by decide +kernel
theorem dX0_placeOf_1 : decode cX0_placeOf 1 = .ok (.getfield 26, 3) := by decide +kernel
theorem dX0_placeOf_4 : decode cX0_placeOf 4 = .ok (.ifCond .eq 15, 3) := by decide +kernel
theorem dX0_placeOf_7 : decode cX0_placeOf 7 = .ok (.iload_n 1, 1) := by decide +kernel
theorem dX0_placeOf_8 : decode cX0_placeOf 8 = .ok (.ifCond .lt 11, 3) := by decide +kernel
theorem dX0_placeOf_11 : decode cX0_placeOf 11 = .ok (.iload_n 1, 1) := by decide +kernel
theorem dX0_placeOf_12 : decode cX0_placeOf 12 = .ok (.aload_n 0, 1) := by decide +kernel
theorem dX0_placeOf_13 : decode cX0_placeOf 13 = .ok (.getfield 23, 3) := by decide +kernel
theorem dX0_placeOf_16 : decode cX0_placeOf 16 = .ok (.if_icmp .le 5, 3) := by decide +kernel
theorem dX0_placeOf_19 : decode cX0_placeOf 19 = .ok (.iconst (-1), 1) := by decide +kernel
theorem dX0_placeOf_20 : decode cX0_placeOf 20 = .ok (.ireturn, 1) := by decide +kernel
theorem dX0_placeOf_21 : decode cX0_placeOf 21 = .ok (.aload_n 0, 1) := by decide +kernel
theorem dX0_placeOf_22 : decode cX0_placeOf 22 = .ok (.getfield 16, 3) := by decide +kernel
theorem dX0_placeOf_25 : decode cX0_placeOf 25 = .ok (.iload_n 1, 1) := by decide +kernel
theorem dX0_placeOf_26 : decode cX0_placeOf 26 = .ok (.iaload, 1) := by decide +kernel
theorem dX0_placeOf_27 : decode cX0_placeOf 27 = .ok (.ireturn, 1) := by decide +kernel
set_option maxRecDepth 20000 in
theorem ggX0_kind_X0_isIn : GoodIn wsX0_kind wsX0_isIn := goodIn_r _ [7] (by decide +kernel) (by decide +kernel)
set_option maxRecDepth 20000 in
theorem gX0_kind_X0_isIn : GoodIn wsX0_kind (va_wsS RX0 62 yX0_isIn wsX0_isIn) := goodIn_app (goodIn_of _ (by decide +kernel)) ggX0_kind_X0_isIn
set_option maxRecDepth 20000 in
theorem ggX0_kind_X0_isNamePart : GoodIn wsX0_kind wsX0_isNamePart := goodIn_r _ [10, 3, 11, 4, 5, 6, 7] (by decide +kernel) (by decide +kernel)
set_option maxRecDepth 20000 in
theorem gX0_kind_X0_isNamePart : GoodIn wsX0_kind (va_wsS RX0 72 yX0_isNamePart wsX0_isNamePart) := goodIn_app (goodIn_of _ (by decide +kernel)) ggX0_kind_X0_isNamePart
theorem dX0_kind_0 : decode cX0_kind 0 = .ok (.iconst 0, 1) := by decide +kernel
theorem dX0_kind_1 : decode cX0_kind 1 = .ok (.istore_n 2, 1) := by decide +kernel
theorem dX0_kind_2 : decode cX0_kind 2 = .ok (.getstatic 59, 3) := by decide +kernel
theorem dX0_kind_5 : decode cX0_kind 5 = .ok (.iload_n 1, 1) := by decide +kernel
theorem dX0_kind_6 : decode cX0_kind 6 = .ok (.invokestatic 62, 3) := by decide +kernel
theorem dX0_kind_9 : decode cX0_kind 9 = .ok (.ifCond .eq 6, 3) := by decide +kernel
theorem dX0_kind_12 : decode cX0_kind 12 = .ok (.iinc 2 1, 3) := by decide +kernel
theorem dX0_kind_15 : decode cX0_kind 15 = .ok (.getstatic 66, 3) := by decide +kernel
theorem dX0_kind_18 : decode cX0_kind 18 = .ok (.iload_n 1, 1) := by decide +kernel
theorem dX0_kind_19 : decode cX0_kind 19 = .ok (.invokestatic 62, 3) := by decide +kernel
theorem dX0_kind_22 : decode cX0_kind 22 = .ok (.ifCond .eq 6, 3) := by decide +kernel
theorem dX0_kind_25 : decode cX0_kind 25 = .ok (.iinc 2 2, 3) := by decide +kernel
theorem dX0_kind_28 : decode cX0_kind 28 = .ok (.getstatic 69, 3) := by decide +kernel
theorem dX0_kind_31 : decode cX0_kind 31 = .ok (.iload_n 1, 1) := by decide +kernel
theorem dX0_kind_32 : decode cX0_kind 32 = .ok (.invokestatic 62, 3) := by decide +kernel
theorem dX0_kind_35 : decode cX0_kind 35 = .ok (.ifCond .eq 6, 3) := by decide +kernel
theorem dX0_kind_38 : decode cX0_kind 38 = .ok (.iinc 2 4, 3) := by decide +kernel
theorem dX0_kind_41 : decode cX0_kind 41 = .ok (.iload_n 1, 1) := by decide +kernel
theorem dX0_kind_42 : decode cX0_kind 42 = .ok (.invokestatic 72, 3) := by decide +kernel
theorem dX0_kind_45 : decode cX0_kind 45 = .ok (.ifCond .eq 6, 3) := by decide +kernel
theorem dX0_kind_48 : decode cX0_kind 48 = .ok (.iinc 2 8, 3) := by decide +kernel
theorem dX0_kind_51 : decode cX0_kind 51 = .ok (.iload_n 2, 1) := by decide +kernel
theorem dX0_kind_52 : decode cX0_kind 52 = .ok (.ireturn, 1) := by decide +kernel
set_option maxRecDepth 20000 in
theorem ggX0_run_X0_hasCharacter : GoodIn wsX0_run wsX0_hasCharacter := goodIn_r _ [8, 3, 20, 21, 22, 23, 24, 25, 26] (by decide +kernel) (by decide +kernel)
set_option maxRecDepth 20000 in
theorem gX0_run_X0_hasCharacter : GoodIn wsX0_run (wsV RX0 56 RX0 yX0_hasCharacter wsX0_hasCharacter) := goodIn_app (goodIn_of _ (by decide +kernel)) ggX0_run_X0_hasCharacter
set_option maxRecDepth 20000 in
theorem ggX0_run_X0_isIn : GoodIn wsX0_run wsX0_isIn := goodIn_r _ [11] (by decide +kernel) (by decide +kernel)
set_option maxRecDepth 20000 in
theorem gX0_run_X0_isIn : GoodIn wsX0_run (va_wsS RX0 62 yX0_isIn wsX0_isIn) := goodIn_app (goodIn_of _ (by decide +kernel)) ggX0_run_X0_isIn
set_option maxRecDepth 20000 in
theorem ggX0_run_X0_belongsToRun : GoodIn wsX0_run wsX0_belongsToRun := goodIn_r _ [14, 15, 16, 17, 7, 18, 1, 19, 9, 10, 11] (by decide +kernel) (by decide +kernel)
set_option maxRecDepth 20000 in
theorem gX0_run_X0_belongsToRun : GoodIn wsX0_run (va_wsS RX0 75 yX0_belongsToRun wsX0_belongsToRun) := goodIn_app (goodIn_of _ (by decide +kernel)) ggX0_run_X0_belongsToRun
theorem dX0_run_0 : decode cX0_run 0 = .ok (.aload_n 0, 1) := by decide +kernel
theorem dX0_run_1 : decode cX0_run 1 = .ok (.iload_n 2, 1) := by decide +kernel
theorem dX0_run_2 : decode cX0_run 2 = .ok (.invokevirtual 56, 3) := by decide +kernel
theorem dX0_run_5 : decode cX0_run 5 = .ok (.ifCond .ne 5, 3) := by decide +kernel
theorem dX0_run_8 : decode cX0_run 8 = .ok (.iconst 0, 1) := by decide +kernel
theorem dX0_run_9 : decode cX0_run 9 = .ok (.ireturn, 1) := by decide +kernel
theorem dX0_run_10 : decode cX0_run 10 = .ok (.iload_n 1, 1) := by decide +kernel
theorem dX0_run_11 : decode cX0_run 11 = .ok (.ifCond .ne 20, 3) := by decide +kernel
theorem dX0_run_14 : decode cX0_run 14 = .ok (.getstatic 69, 3) := by decide +kernel
theorem dX0_run_17 : decode cX0_run 17 = .ok (.aload_n 0, 1) := by decide +kernel
theorem dX0_run_18 : decode cX0_run 18 = .ok (.getfield 13, 3) := by decide +kernel
theorem dX0_run_21 : decode cX0_run 21 = .ok (.iload_n 2, 1) := by decide +kernel
theorem dX0_run_22 : decode cX0_run 22 = .ok (.iaload, 1) := by decide +kernel
theorem dX0_run_23 : decode cX0_run 23 = .ok (.invokestatic 62, 3) := by decide +kernel
theorem dX0_run_26 : decode cX0_run 26 = .ok (.ifCond .ne 5, 3) := by decide +kernel
theorem dX0_run_29 : decode cX0_run 29 = .ok (.iconst 0, 1) := by decide +kernel
theorem dX0_run_30 : decode cX0_run 30 = .ok (.ireturn, 1) := by decide +kernel
theorem dX0_run_31 : decode cX0_run 31 = .ok (.iload_n 2, 1) := by decide +kernel
theorem dX0_run_32 : decode cX0_run 32 = .ok (.istore_n 3, 1) := by decide +kernel
theorem dX0_run_33 : decode cX0_run 33 = .ok (.iload_n 3, 1) := by decide +kernel
theorem dX0_run_34 : decode cX0_run 34 = .ok (.aload_n 0, 1) := by decide +kernel
theorem dX0_run_35 : decode cX0_run 35 = .ok (.getfield 23, 3) := by decide +kernel
theorem dX0_run_38 : decode cX0_run 38 = .ok (.if_icmp .ge 22, 3) := by decide +kernel
theorem dX0_run_41 : decode cX0_run 41 = .ok (.iload_n 1, 1) := by decide +kernel
theorem dX0_run_42 : decode cX0_run 42 = .ok (.aload_n 0, 1) := by decide +kernel
theorem dX0_run_43 : decode cX0_run 43 = .ok (.getfield 13, 3) := by decide +kernel
theorem dX0_run_46 : decode cX0_run 46 = .ok (.iload_n 3, 1) := by decide +kernel
theorem dX0_run_47 : decode cX0_run 47 = .ok (.iaload, 1) := by decide +kernel
theorem dX0_run_48 : decode cX0_run 48 = .ok (.invokestatic 75, 3) := by decide +kernel
theorem dX0_run_51 : decode cX0_run 51 = .ok (.ifCond .eq 9, 3) := by decide +kernel
theorem dX0_run_54 : decode cX0_run 54 = .ok (.iinc 3 1, 3) := by decide +kernel
theorem dX0_run_57 : decode cX0_run 57 = .ok (.goto (-24), 3) := by decide +kernel
theorem dX0_run_60 : decode cX0_run 60 = .ok (.iload_n 3, 1) := by decide +kernel
theorem dX0_run_61 : decode cX0_run 61 = .ok (.iload_n 2, 1) := by decide +kernel
theorem dX0_run_62 : decode cX0_run 62 = .ok (.isub, 1) := by decide +kernel
theorem dX0_run_63 : decode cX0_run 63 = .ok (.ireturn, 1) := by decide +kernel
set_option maxRecDepth 20000 in
theorem ggX0_compare_X0_hasStretch : GoodIn wsX0_compare wsX0_hasStretch := goodIn_r _ [6, 7, 8, 13, 14, 15, 16, 17, 18, 19] (by decide +kernel) (by decide +kernel)
set_option maxRecDepth 20000 in
theorem gX0_compare_X0_hasStretch : GoodIn wsX0_compare (wsV RX0 79 RX0 yX0_hasStretch wsX0_hasStretch) := goodIn_app (goodIn_of _ (by decide +kernel)) ggX0_compare_X0_hasStretch
set_option maxRecDepth 20000 in
theorem ggX0_compare_J6_compare_7cf53 : GoodIn wsX0_compare wsJ6_compare_7cf53 := goodIn_r _ [12] (by decide +kernel) (by decide +kernel)
set_option maxRecDepth 20000 in
theorem gX0_compare_J6_compare_7cf53 : GoodIn wsX0_compare (va_wsS RX0 82 yJ6_compare_7cf53 wsJ6_compare_7cf53) := goodIn_app (goodIn_of _ (by decide +kernel)) ggX0_compare_J6_compare_7cf53
theorem dX0_compare_0 : decode cX0_compare 0 = .ok (.aload_n 0, 1) := by decide +kernel
theorem dX0_compare_1 : decode cX0_compare 1 = .ok (.iload_n 1, 1) := by decide +kernel
theorem dX0_compare_2 : decode cX0_compare 2 = .ok (.iload_n 3, 1) := by decide +kernel
theorem dX0_compare_3 : decode cX0_compare 3 = .ok (.invokevirtual 79, 3) := by decide +kernel
theorem dX0_compare_6 : decode cX0_compare 6 = .ok (.ifCond .eq 12, 3) := by decide +kernel
theorem dX0_compare_9 : decode cX0_compare 9 = .ok (.aload_n 0, 1) := by decide +kernel
theorem dX0_compare_10 : decode cX0_compare 10 = .ok (.iload_n 2, 1) := by decide +kernel
theorem dX0_compare_11 : decode cX0_compare 11 = .ok (.iload_n 3, 1) := by decide +kernel
theorem dX0_compare_12 : decode cX0_compare 12 = .ok (.invokevirtual 79, 3) := by decide +kernel
theorem dX0_compare_15 : decode cX0_compare 15 = .ok (.ifCond .ne 6, 3) := by decide +kernel
theorem dX0_compare_18 : decode cX0_compare 18 = .ok (.bipush (-2), 2) := by decide +kernel
theorem dX0_compare_20 : decode cX0_compare 20 = .ok (.ireturn, 1) := by decide +kernel
theorem dX0_compare_21 : decode cX0_compare 21 = .ok (.iconst 0, 1) := by decide +kernel
theorem dX0_compare_22 : decode cX0_compare 22 = .ok (.istore 4, 2) := by decide +kernel
theorem dX0_compare_24 : decode cX0_compare 24 = .ok (.iload 4, 2) := by decide +kernel
theorem dX0_compare_26 : decode cX0_compare 26 = .ok (.iload_n 3, 1) := by decide +kernel
theorem dX0_compare_27 : decode cX0_compare 27 = .ok (.if_icmp .ge 48, 3) := by decide +kernel
theorem dX0_compare_30 : decode cX0_compare 30 = .ok (.aload_n 0, 1) := by decide +kernel
theorem dX0_compare_31 : decode cX0_compare 31 = .ok (.getfield 13, 3) := by decide +kernel
theorem dX0_compare_34 : decode cX0_compare 34 = .ok (.iload_n 1, 1) := by decide +kernel
theorem dX0_compare_35 : decode cX0_compare 35 = .ok (.iload 4, 2) := by decide +kernel
theorem dX0_compare_37 : decode cX0_compare 37 = .ok (.iadd, 1) := by decide +kernel
theorem dX0_compare_38 : decode cX0_compare 38 = .ok (.iaload, 1) := by decide +kernel
theorem dX0_compare_39 : decode cX0_compare 39 = .ok (.aload_n 0, 1) := by decide +kernel
theorem dX0_compare_40 : decode cX0_compare 40 = .ok (.getfield 13, 3) := by decide +kernel
theorem dX0_compare_43 : decode cX0_compare 43 = .ok (.iload_n 2, 1) := by decide +kernel
theorem dX0_compare_44 : decode cX0_compare 44 = .ok (.iload 4, 2) := by decide +kernel
theorem dX0_compare_46 : decode cX0_compare 46 = .ok (.iadd, 1) := by decide +kernel
theorem dX0_compare_47 : decode cX0_compare 47 = .ok (.iaload, 1) := by decide +kernel
theorem dX0_compare_48 : decode cX0_compare 48 = .ok (.invokestatic 82, 3) := by decide +kernel
theorem dX0_compare_51 : decode cX0_compare 51 = .ok (.istore 5, 2) := by decide +kernel
theorem dX0_compare_53 : decode cX0_compare 53 = .ok (.iload 5, 2) := by decide +kernel
theorem dX0_compare_55 : decode cX0_compare 55 = .ok (.ifCond .eq 14, 3) := by decide +kernel
theorem dX0_compare_58 : decode cX0_compare 58 = .ok (.iload 5, 2) := by decide +kernel
theorem dX0_compare_60 : decode cX0_compare 60 = .ok (.ifCond .ge 7, 3) := by decide +kernel
theorem dX0_compare_63 : decode cX0_compare 63 = .ok (.iconst (-1), 1) := by decide +kernel
theorem dX0_compare_64 : decode cX0_compare 64 = .ok (.goto 4, 3) := by decide +kernel
theorem dX0_compare_67 : decode cX0_compare 67 = .ok (.iconst 1, 1) := by decide +kernel
theorem dX0_compare_68 : decode cX0_compare 68 = .ok (.ireturn, 1) := by decide +kernel
theorem dX0_compare_69 : decode cX0_compare 69 = .ok (.iinc 4 1, 3) := by decide +kernel
theorem dX0_compare_72 : decode cX0_compare 72 = .ok (.goto (-48), 3) := by decide +kernel
theorem dX0_compare_75 : decode cX0_compare 75 = .ok (.iconst 0, 1) := by decide +kernel
theorem dX0_compare_76 : decode cX0_compare 76 = .ok (.ireturn, 1) := by decide +kernel
set_option maxRecDepth 20000 in
theorem ggX0_bytes_X0_widthOf : GoodIn wsX0_bytes wsX0_widthOf := goodIn_r _ [4, 5, 6, 7, 8] (by decide +kernel) (by decide +kernel)
set_option maxRecDepth 20000 in
theorem gX0_bytes_X0_widthOf : GoodIn wsX0_bytes (va_wsS RX0 41 yX0_widthOf wsX0_widthOf) := goodIn_app (goodIn_of _ (by decide +kernel)) ggX0_bytes_X0_widthOf
set_option maxRecDepth 20000 in
theorem ggX0_bytes_X0_encodedByte : GoodIn wsX0_bytes wsX0_encodedByte := goodIn_r _ [11, 12, 13, 3, 14] (by decide +kernel) (by decide +kernel)
set_option maxRecDepth 20000 in
theorem gX0_bytes_X0_encodedByte : GoodIn wsX0_bytes (va_wsS RX0 45 yX0_encodedByte wsX0_encodedByte) := goodIn_app (goodIn_of _ (by decide +kernel)) ggX0_bytes_X0_encodedByte
theorem dX0_bytes_0 : decode cX0_bytes 0 = .ok (.iload_n 1, 1) := by decide +kernel
theorem dX0_bytes_1 : decode cX0_bytes 1 = .ok (.invokestatic 41, 3) := by decide +kernel
theorem dX0_bytes_4 : decode cX0_bytes 4 = .ok (.istore_n 2, 1) := by decide +kernel
theorem dX0_bytes_5 : decode cX0_bytes 5 = .ok (.iload_n 2, 1) := by decide +kernel
theorem dX0_bytes_6 : decode cX0_bytes 6 = .ok (.i2l, 1) := by decide +kernel
theorem dX0_bytes_7 : decode cX0_bytes 7 = .ok (.bipush 56, 2) := by decide +kernel
theorem dX0_bytes_9 : decode cX0_bytes 9 = .ok (.lshl, 1) := by decide +kernel
theorem dX0_bytes_10 : decode cX0_bytes 10 = .ok (.lstore_n 3, 1) := by decide +kernel
theorem dX0_bytes_11 : decode cX0_bytes 11 = .ok (.iconst 0, 1) := by decide +kernel
theorem dX0_bytes_12 : decode cX0_bytes 12 = .ok (.istore 5, 2) := by decide +kernel
theorem dX0_bytes_14 : decode cX0_bytes 14 = .ok (.iload 5, 2) := by decide +kernel
theorem dX0_bytes_16 : decode cX0_bytes 16 = .ok (.iload_n 2, 1) := by decide +kernel
theorem dX0_bytes_17 : decode cX0_bytes 17 = .ok (.if_icmp .ge 29, 3) := by decide +kernel
theorem dX0_bytes_20 : decode cX0_bytes 20 = .ok (.lload_n 3, 1) := by decide +kernel
theorem dX0_bytes_21 : decode cX0_bytes 21 = .ok (.iload_n 1, 1) := by decide +kernel
theorem dX0_bytes_22 : decode cX0_bytes 22 = .ok (.iload_n 2, 1) := by decide +kernel
theorem dX0_bytes_23 : decode cX0_bytes 23 = .ok (.iload 5, 2) := by decide +kernel
theorem dX0_bytes_25 : decode cX0_bytes 25 = .ok (.invokestatic 45, 3) := by decide +kernel
theorem dX0_bytes_28 : decode cX0_bytes 28 = .ok (.i2l, 1) := by decide +kernel
theorem dX0_bytes_29 : decode cX0_bytes 29 = .ok (.bipush 48, 2) := by decide +kernel
theorem dX0_bytes_31 : decode cX0_bytes 31 = .ok (.bipush 8, 2) := by decide +kernel
theorem dX0_bytes_33 : decode cX0_bytes 33 = .ok (.iload 5, 2) := by decide +kernel
theorem dX0_bytes_35 : decode cX0_bytes 35 = .ok (.imul, 1) := by decide +kernel
theorem dX0_bytes_36 : decode cX0_bytes 36 = .ok (.isub, 1) := by decide +kernel
theorem dX0_bytes_37 : decode cX0_bytes 37 = .ok (.lshl, 1) := by decide +kernel
theorem dX0_bytes_38 : decode cX0_bytes 38 = .ok (.lor, 1) := by decide +kernel
theorem dX0_bytes_39 : decode cX0_bytes 39 = .ok (.lstore_n 3, 1) := by decide +kernel
theorem dX0_bytes_40 : decode cX0_bytes 40 = .ok (.iinc 5 1, 3) := by decide +kernel
theorem dX0_bytes_43 : decode cX0_bytes 43 = .ok (.goto (-29), 3) := by decide +kernel
theorem dX0_bytes_46 : decode cX0_bytes 46 = .ok (.lload_n 3, 1) := by decide +kernel
theorem dX0_bytes_47 : decode cX0_bytes 47 = .ok (.lreturn, 1) := by decide +kernel
theorem dX0_hasRoomFor_0 : decode cX0_hasRoomFor 0 = .ok (.iload_n 1, 1) := by decide +kernel
theorem dX0_hasRoomFor_1 : decode cX0_hasRoomFor 1 = .ok (.sipush 1000, 3) := by decide +kernel
theorem dX0_hasRoomFor_4 : decode cX0_hasRoomFor 4 = .ok (.aload_n 0, 1) := by decide +kernel
theorem dX0_hasRoomFor_5 : decode cX0_hasRoomFor 5 = .ok (.getfield 19, 3) := by decide +kernel
theorem dX0_hasRoomFor_8 : decode cX0_hasRoomFor 8 = .ok (.isub, 1) := by decide +kernel
theorem dX0_hasRoomFor_9 : decode cX0_hasRoomFor 9 = .ok (.if_icmp .gt 7, 3) := by decide +kernel
theorem dX0_hasRoomFor_12 : decode cX0_hasRoomFor 12 = .ok (.iconst 1, 1) := by decide +kernel
theorem dX0_hasRoomFor_13 : decode cX0_hasRoomFor 13 = .ok (.goto 4, 3) := by decide +kernel
theorem dX0_hasRoomFor_16 : decode cX0_hasRoomFor 16 = .ok (.iconst 0, 1) := by decide +kernel
theorem dX0_hasRoomFor_17 : decode cX0_hasRoomFor 17 = .ok (.ireturn, 1) := by decide +kernel
theorem dX0_append_0 : decode cX0_append 0 = .ok (.aload_n 0, 1) := by decide +kernel
theorem dX0_append_1 : decode cX0_append 1 = .ok (.getfield 19, 3) := by decide +kernel
theorem dX0_append_4 : decode cX0_append 4 = .ok (.sipush 1000, 3) := by decide +kernel
theorem dX0_append_7 : decode cX0_append 7 = .ok (.if_icmp .ge 23, 3) := by decide +kernel
theorem dX0_append_10 : decode cX0_append 10 = .ok (.aload_n 0, 1) := by decide +kernel
theorem dX0_append_11 : decode cX0_append 11 = .ok (.getfield 9, 3) := by decide +kernel
theorem dX0_append_14 : decode cX0_append 14 = .ok (.aload_n 0, 1) := by decide +kernel
theorem dX0_append_15 : decode cX0_append 15 = .ok (.getfield 19, 3) := by decide +kernel
theorem dX0_append_18 : decode cX0_append 18 = .ok (.iload_n 1, 1) := by decide +kernel
theorem dX0_append_19 : decode cX0_append 19 = .ok (.iastore, 1) := by decide +kernel
theorem dX0_append_20 : decode cX0_append 20 = .ok (.aload_n 0, 1) := by decide +kernel
theorem dX0_append_21 : decode cX0_append 21 = .ok (.dup, 1) := by decide +kernel
theorem dX0_append_22 : decode cX0_append 22 = .ok (.getfield 19, 3) := by decide +kernel
theorem dX0_append_25 : decode cX0_append 25 = .ok (.iconst 1, 1) := by decide +kernel
theorem dX0_append_26 : decode cX0_append 26 = .ok (.iadd, 1) := by decide +kernel
theorem dX0_append_27 : decode cX0_append 27 = .ok (.putfield 19, 3) := by decide +kernel
theorem dX0_append_30 : decode cX0_append 30 = .ok (.return_, 1) := by decide +kernel
theorem dX0_forgetReading_0 : decode cX0_forgetReading 0 = .ok (.aload_n 0, 1) := by decide +kernel
theorem dX0_forgetReading_1 : decode cX0_forgetReading 1 = .ok (.iconst 0, 1) := by decide +kernel
theorem dX0_forgetReading_2 : decode cX0_forgetReading 2 = .ok (.putfield 23, 3) := by decide +kernel
theorem dX0_forgetReading_5 : decode cX0_forgetReading 5 = .ok (.aload_n 0, 1) := by decide +kernel
theorem dX0_forgetReading_6 : decode cX0_forgetReading 6 = .ok (.iconst 0, 1) := by decide +kernel
theorem dX0_forgetReading_7 : decode cX0_forgetReading 7 = .ok (.putfield 26, 3) := by decide +kernel
theorem dX0_forgetReading_10 : decode cX0_forgetReading 10 = .ok (.aload_n 0, 1) := by decide +kernel
theorem dX0_forgetReading_11 : decode cX0_forgetReading 11 = .ok (.iconst (-1), 1) := by decide +kernel
theorem dX0_forgetReading_12 : decode cX0_forgetReading 12 = .ok (.putfield 30, 3) := by decide +kernel
theorem dX0_forgetReading_15 : decode cX0_forgetReading 15 = .ok (.return_, 1) := by decide +kernel
set_option maxRecDepth 20000 in
theorem ggX0_readText_X0_decodedAt : GoodIn wsX0_readText wsX0_decodedAt := goodIn_r _ [7, 8, 1, 9, 10, 6, 11, 12, 13, 14, 15, 16, 17, 18, 38, 39, 40, 41, 42, 43, 44] (by decide +kernel) (by decide +kernel)
set_option maxRecDepth 20000 in
theorem gX0_readText_X0_decodedAt : GoodIn wsX0_readText (wsV RX0 88 RX0 yX0_decodedAt wsX0_decodedAt) := goodIn_app (goodIn_of _ (by decide +kernel)) ggX0_readText_X0_decodedAt
set_option maxRecDepth 20000 in
theorem ggX0_readText_X0_faultOf : GoodIn wsX0_readText wsX0_faultOf := goodIn_r _ [21, 22, 23, 24, 6, 25] (by decide +kernel) (by decide +kernel)
set_option maxRecDepth 20000 in
theorem gX0_readText_X0_faultOf : GoodIn wsX0_readText (va_wsS RX0 91 yX0_faultOf wsX0_faultOf) := goodIn_app (goodIn_of _ (by decide +kernel)) ggX0_readText_X0_faultOf
set_option maxRecDepth 20000 in
theorem ggX0_readText_X0_isLeftOut : GoodIn wsX0_readText wsX0_isLeftOut := goodIn_r _ [29, 30, 8, 38, 39, 40, 41, 42, 43, 44] (by decide +kernel) (by decide +kernel)
set_option maxRecDepth 20000 in
theorem gX0_readText_X0_isLeftOut : GoodIn wsX0_readText (wsV RX0 94 RX0 yX0_isLeftOut wsX0_isLeftOut) := goodIn_app (goodIn_of _ (by decide +kernel)) ggX0_readText_X0_isLeftOut
set_option maxRecDepth 20000 in
theorem ggX0_readText_X0_keep : GoodIn wsX0_readText wsX0_keep := goodIn_r _ [34, 35, 36, 37, 38, 39, 40, 41, 42, 43, 44] (by decide +kernel) (by decide +kernel)
set_option maxRecDepth 20000 in
theorem gX0_readText_X0_keep : GoodIn wsX0_readText (wsV RX0 97 RX0 yX0_keep wsX0_keep) := goodIn_app (goodIn_of _ (by decide +kernel)) ggX0_readText_X0_keep
set_option maxRecDepth 20000 in
theorem ggX0_readText_X0_widthOf : GoodIn wsX0_readText wsX0_widthOf := goodIn_r _ [14, 15, 16, 17, 18] (by decide +kernel) (by decide +kernel)
set_option maxRecDepth 20000 in
theorem gX0_readText_X0_widthOf : GoodIn wsX0_readText (va_wsS RX0 41 yX0_widthOf wsX0_widthOf) := goodIn_app (goodIn_of _ (by decide +kernel)) ggX0_readText_X0_widthOf
theorem dX0_readText_0 : decode cX0_readText 0 = .ok (.iconst 0, 1) := by decide +kernel
theorem dX0_readText_1 : decode cX0_readText 1 = .ok (.istore_n 1, 1) := by decide +kernel
theorem dX0_readText_2 : decode cX0_readText 2 = .ok (.iconst 0, 1) := by decide +kernel
theorem dX0_readText_3 : decode cX0_readText 3 = .ok (.istore_n 2, 1) := by decide +kernel
theorem dX0_readText_4 : decode cX0_readText 4 = .ok (.iload_n 2, 1) := by decide +kernel
theorem dX0_readText_5 : decode cX0_readText 5 = .ok (.aload_n 0, 1) := by decide +kernel
theorem dX0_readText_6 : decode cX0_readText 6 = .ok (.getfield 19, 3) := by decide +kernel
theorem dX0_readText_9 : decode cX0_readText 9 = .ok (.if_icmp .ge 75, 3) := by decide +kernel
theorem dX0_readText_12 : decode cX0_readText 12 = .ok (.iload_n 2, 1) := by decide +kernel
theorem dX0_readText_13 : decode cX0_readText 13 = .ok (.iload_n 1, 1) := by decide +kernel
end
section
theorem dX0_readText_14 : decode cX0_readText 14 = .ok (.if_icmp .ge 6, 3) := by decide +kernel
theorem dX0_readText_17 : decode cX0_readText 17 = .ok (.goto 61, 3) := by decide +kernel
theorem dX0_readText_20 : decode cX0_readText 20 = .ok (.aload_n 0, 1) := by decide +kernel
theorem dX0_readText_21 : decode cX0_readText 21 = .ok (.iload_n 2, 1) := by decide +kernel
theorem dX0_readText_22 : decode cX0_readText 22 = .ok (.invokevirtual 88, 3) := by decide +kernel
theorem dX0_readText_25 : decode cX0_readText 25 = .ok (.istore_n 3, 1) := by decide +kernel
theorem dX0_readText_26 : decode cX0_readText 26 = .ok (.iload_n 3, 1) := by decide +kernel
theorem dX0_readText_27 : decode cX0_readText 27 = .ok (.invokestatic 91, 3) := by decide +kernel
theorem dX0_readText_30 : decode cX0_readText 30 = .ok (.istore 4, 2) := by decide +kernel
theorem dX0_readText_32 : decode cX0_readText 32 = .ok (.iload 4, 2) := by decide +kernel
theorem dX0_readText_34 : decode cX0_readText 34 = .ok (.ifCond .eq 11, 3) := by decide +kernel
theorem dX0_readText_37 : decode cX0_readText 37 = .ok (.aload_n 0, 1) := by decide +kernel
theorem dX0_readText_38 : decode cX0_readText 38 = .ok (.iload_n 2, 1) := by decide +kernel
theorem dX0_readText_39 : decode cX0_readText 39 = .ok (.putfield 30, 3) := by decide +kernel
theorem dX0_readText_42 : decode cX0_readText 42 = .ok (.iload 4, 2) := by decide +kernel
theorem dX0_readText_44 : decode cX0_readText 44 = .ok (.ireturn, 1) := by decide +kernel
theorem dX0_readText_45 : decode cX0_readText 45 = .ok (.aload_n 0, 1) := by decide +kernel
theorem dX0_readText_46 : decode cX0_readText 46 = .ok (.iload_n 3, 1) := by decide +kernel
theorem dX0_readText_47 : decode cX0_readText 47 = .ok (.iload_n 2, 1) := by decide +kernel
theorem dX0_readText_48 : decode cX0_readText 48 = .ok (.invokevirtual 94, 3) := by decide +kernel
theorem dX0_readText_51 : decode cX0_readText 51 = .ok (.ifCond .ne 20, 3) := by decide +kernel
theorem dX0_readText_54 : decode cX0_readText 54 = .ok (.aload_n 0, 1) := by decide +kernel
theorem dX0_readText_55 : decode cX0_readText 55 = .ok (.iload_n 3, 1) := by decide +kernel
theorem dX0_readText_56 : decode cX0_readText 56 = .ok (.bipush 13, 2) := by decide +kernel
theorem dX0_readText_58 : decode cX0_readText 58 = .ok (.if_icmp .ne 8, 3) := by decide +kernel
theorem dX0_readText_61 : decode cX0_readText 61 = .ok (.bipush 10, 2) := by decide +kernel
theorem dX0_readText_63 : decode cX0_readText 63 = .ok (.goto 4, 3) := by decide +kernel
theorem dX0_readText_66 : decode cX0_readText 66 = .ok (.iload_n 3, 1) := by decide +kernel
theorem dX0_readText_67 : decode cX0_readText 67 = .ok (.iload_n 2, 1) := by decide +kernel
theorem dX0_readText_68 : decode cX0_readText 68 = .ok (.invokevirtual 97, 3) := by decide +kernel
theorem dX0_readText_71 : decode cX0_readText 71 = .ok (.iload_n 2, 1) := by decide +kernel
theorem dX0_readText_72 : decode cX0_readText 72 = .ok (.iload_n 3, 1) := by decide +kernel
theorem dX0_readText_73 : decode cX0_readText 73 = .ok (.invokestatic 41, 3) := by decide +kernel
theorem dX0_readText_76 : decode cX0_readText 76 = .ok (.iadd, 1) := by decide +kernel
theorem dX0_readText_77 : decode cX0_readText 77 = .ok (.istore_n 1, 1) := by decide +kernel
theorem dX0_readText_78 : decode cX0_readText 78 = .ok (.iinc 2 1, 3) := by decide +kernel
theorem dX0_readText_81 : decode cX0_readText 81 = .ok (.goto (-77), 3) := by decide +kernel
theorem dX0_readText_84 : decode cX0_readText 84 = .ok (.iconst 0, 1) := by decide +kernel
theorem dX0_readText_85 : decode cX0_readText 85 = .ok (.ireturn, 1) := by decide +kernel
set_option maxRecDepth 20000 in
theorem ggX0_faultOf_X0_isIn : GoodIn wsX0_faultOf wsX0_isIn := goodIn_r _ [5] (by decide +kernel) (by decide +kernel)
set_option maxRecDepth 20000 in
theorem gX0_faultOf_X0_isIn : GoodIn wsX0_faultOf (va_wsS RX0 62 yX0_isIn wsX0_isIn) := goodIn_app (goodIn_of _ (by decide +kernel)) ggX0_faultOf_X0_isIn
theorem dX0_faultOf_0 : decode cX0_faultOf 0 = .ok (.iload_n 0, 1) := by decide +kernel
theorem dX0_faultOf_1 : decode cX0_faultOf 1 = .ok (.iconst (-1), 1) := by decide +kernel
theorem dX0_faultOf_2 : decode cX0_faultOf 2 = .ok (.if_icmp .ne 5, 3) := by decide +kernel
theorem dX0_faultOf_5 : decode cX0_faultOf 5 = .ok (.iconst 1, 1) := by decide +kernel
theorem dX0_faultOf_6 : decode cX0_faultOf 6 = .ok (.ireturn, 1) := by decide +kernel
theorem dX0_faultOf_7 : decode cX0_faultOf 7 = .ok (.getstatic 59, 3) := by decide +kernel
theorem dX0_faultOf_10 : decode cX0_faultOf 10 = .ok (.iload_n 0, 1) := by decide +kernel
theorem dX0_faultOf_11 : decode cX0_faultOf 11 = .ok (.invokestatic 62, 3) := by decide +kernel
theorem dX0_faultOf_14 : decode cX0_faultOf 14 = .ok (.ifCond .eq 7, 3) := by decide +kernel
theorem dX0_faultOf_17 : decode cX0_faultOf 17 = .ok (.iconst 0, 1) := by decide +kernel
theorem dX0_faultOf_18 : decode cX0_faultOf 18 = .ok (.goto 4, 3) := by decide +kernel
theorem dX0_faultOf_21 : decode cX0_faultOf 21 = .ok (.iconst 2, 1) := by decide +kernel
theorem dX0_faultOf_22 : decode cX0_faultOf 22 = .ok (.ireturn, 1) := by decide +kernel
theorem dX0_isLeftOut_0 : decode cX0_isLeftOut 0 = .ok (.iload_n 2, 1) := by decide +kernel
theorem dX0_isLeftOut_1 : decode cX0_isLeftOut 1 = .ok (.ifCond .ne 15, 3) := by decide +kernel
theorem dX0_isLeftOut_4 : decode cX0_isLeftOut 4 = .ok (.iload_n 1, 1) := by decide +kernel
theorem dX0_isLeftOut_5 : decode cX0_isLeftOut 5 = .ok (.ldc 101, 2) := by decide +kernel
theorem dX0_isLeftOut_7 : decode cX0_isLeftOut 7 = .ok (.if_icmp .ne 7, 3) := by decide +kernel
theorem dX0_isLeftOut_10 : decode cX0_isLeftOut 10 = .ok (.iconst 1, 1) := by decide +kernel
theorem dX0_isLeftOut_11 : decode cX0_isLeftOut 11 = .ok (.goto 4, 3) := by decide +kernel
theorem dX0_isLeftOut_14 : decode cX0_isLeftOut 14 = .ok (.iconst 0, 1) := by decide +kernel
theorem dX0_isLeftOut_15 : decode cX0_isLeftOut 15 = .ok (.ireturn, 1) := by decide +kernel
theorem dX0_isLeftOut_16 : decode cX0_isLeftOut 16 = .ok (.iload_n 1, 1) := by decide +kernel
theorem dX0_isLeftOut_17 : decode cX0_isLeftOut 17 = .ok (.bipush 10, 2) := by decide +kernel
theorem dX0_isLeftOut_19 : decode cX0_isLeftOut 19 = .ok (.if_icmp .ne 20, 3) := by decide +kernel
theorem dX0_isLeftOut_22 : decode cX0_isLeftOut 22 = .ok (.aload_n 0, 1) := by decide +kernel
theorem dX0_isLeftOut_23 : decode cX0_isLeftOut 23 = .ok (.getfield 9, 3) := by decide +kernel
theorem dX0_isLeftOut_26 : decode cX0_isLeftOut 26 = .ok (.iload_n 2, 1) := by decide +kernel
theorem dX0_isLeftOut_27 : decode cX0_isLeftOut 27 = .ok (.iconst 1, 1) := by decide +kernel
theorem dX0_isLeftOut_28 : decode cX0_isLeftOut 28 = .ok (.isub, 1) := by decide +kernel
theorem dX0_isLeftOut_29 : decode cX0_isLeftOut 29 = .ok (.iaload, 1) := by decide +kernel
theorem dX0_isLeftOut_30 : decode cX0_isLeftOut 30 = .ok (.bipush 13, 2) := by decide +kernel
theorem dX0_isLeftOut_32 : decode cX0_isLeftOut 32 = .ok (.if_icmp .ne 7, 3) := by decide +kernel
theorem dX0_isLeftOut_35 : decode cX0_isLeftOut 35 = .ok (.iconst 1, 1) := by decide +kernel
theorem dX0_isLeftOut_36 : decode cX0_isLeftOut 36 = .ok (.goto 4, 3) := by decide +kernel
theorem dX0_isLeftOut_39 : decode cX0_isLeftOut 39 = .ok (.iconst 0, 1) := by decide +kernel
theorem dX0_isLeftOut_40 : decode cX0_isLeftOut 40 = .ok (.ireturn, 1) := by decide +kernel
theorem dX0_keep_0 : decode cX0_keep 0 = .ok (.aload_n 0, 1) := by decide +kernel
theorem dX0_keep_1 : decode cX0_keep 1 = .ok (.getfield 23, 3) := by decide +kernel
theorem dX0_keep_4 : decode cX0_keep 4 = .ok (.sipush 1000, 3) := by decide +kernel
theorem dX0_keep_7 : decode cX0_keep 7 = .ok (.if_icmp .ge 33, 3) := by decide +kernel
theorem dX0_keep_10 : decode cX0_keep 10 = .ok (.aload_n 0, 1) := by decide +kernel
theorem dX0_keep_11 : decode cX0_keep 11 = .ok (.getfield 13, 3) := by decide +kernel
theorem dX0_keep_14 : decode cX0_keep 14 = .ok (.aload_n 0, 1) := by decide +kernel
theorem dX0_keep_15 : decode cX0_keep 15 = .ok (.getfield 23, 3) := by decide +kernel
theorem dX0_keep_18 : decode cX0_keep 18 = .ok (.iload_n 1, 1) := by decide +kernel
theorem dX0_keep_19 : decode cX0_keep 19 = .ok (.iastore, 1) := by decide +kernel
theorem dX0_keep_20 : decode cX0_keep 20 = .ok (.aload_n 0, 1) := by decide +kernel
theorem dX0_keep_21 : decode cX0_keep 21 = .ok (.getfield 16, 3) := by decide +kernel
theorem dX0_keep_24 : decode cX0_keep 24 = .ok (.aload_n 0, 1) := by decide +kernel
theorem dX0_keep_25 : decode cX0_keep 25 = .ok (.getfield 23, 3) := by decide +kernel
theorem dX0_keep_28 : decode cX0_keep 28 = .ok (.iload_n 2, 1) := by decide +kernel
theorem dX0_keep_29 : decode cX0_keep 29 = .ok (.iastore, 1) := by decide +kernel
theorem dX0_keep_30 : decode cX0_keep 30 = .ok (.aload_n 0, 1) := by decide +kernel
theorem dX0_keep_31 : decode cX0_keep 31 = .ok (.dup, 1) := by decide +kernel
theorem dX0_keep_32 : decode cX0_keep 32 = .ok (.getfield 23, 3) := by decide +kernel
theorem dX0_keep_35 : decode cX0_keep 35 = .ok (.iconst 1, 1) := by decide +kernel
theorem dX0_keep_36 : decode cX0_keep 36 = .ok (.iadd, 1) := by decide +kernel
theorem dX0_keep_37 : decode cX0_keep 37 = .ok (.putfield 23, 3) := by decide +kernel
theorem dX0_keep_40 : decode cX0_keep 40 = .ok (.return_, 1) := by decide +kernel
set_option maxRecDepth 20000 in
theorem ggX0_decodedAt_X0_followersOf : GoodIn wsX0_decodedAt wsX0_followersOf := goodIn_r _ [6] (by decide +kernel) (by decide +kernel)
set_option maxRecDepth 20000 in
theorem gX0_decodedAt_X0_followersOf : GoodIn wsX0_decodedAt (va_wsS RX0 102 yX0_followersOf wsX0_followersOf) := goodIn_app (goodIn_of _ (by decide +kernel)) ggX0_decodedAt_X0_followersOf
set_option maxRecDepth 20000 in
theorem ggX0_decodedAt_X0_widthOf : GoodIn wsX0_decodedAt wsX0_widthOf := goodIn_r _ [9, 10, 11, 12, 13] (by decide +kernel) (by decide +kernel)
set_option maxRecDepth 20000 in
theorem gX0_decodedAt_X0_widthOf : GoodIn wsX0_decodedAt (va_wsS RX0 41 yX0_widthOf wsX0_widthOf) := goodIn_app (goodIn_of _ (by decide +kernel)) ggX0_decodedAt_X0_widthOf
theorem dX0_decodedAt_0 : decode cX0_decodedAt 0 = .ok (.aload_n 0, 1) := by decide +kernel
theorem dX0_decodedAt_1 : decode cX0_decodedAt 1 = .ok (.getfield 9, 3) := by decide +kernel
theorem dX0_decodedAt_4 : decode cX0_decodedAt 4 = .ok (.iload_n 1, 1) := by decide +kernel
theorem dX0_decodedAt_5 : decode cX0_decodedAt 5 = .ok (.iaload, 1) := by decide +kernel
theorem dX0_decodedAt_6 : decode cX0_decodedAt 6 = .ok (.istore_n 2, 1) := by decide +kernel
theorem dX0_decodedAt_7 : decode cX0_decodedAt 7 = .ok (.iload_n 2, 1) := by decide +kernel
theorem dX0_decodedAt_8 : decode cX0_decodedAt 8 = .ok (.invokestatic 102, 3) := by decide +kernel
theorem dX0_decodedAt_11 : decode cX0_decodedAt 11 = .ok (.istore_n 3, 1) := by decide +kernel
theorem dX0_decodedAt_12 : decode cX0_decodedAt 12 = .ok (.iload_n 3, 1) := by decide +kernel
theorem dX0_decodedAt_13 : decode cX0_decodedAt 13 = .ok (.ifCond .lt 13, 3) := by decide +kernel
theorem dX0_decodedAt_16 : decode cX0_decodedAt 16 = .ok (.iload_n 1, 1) := by decide +kernel
theorem dX0_decodedAt_17 : decode cX0_decodedAt 17 = .ok (.iload_n 3, 1) := by decide +kernel
theorem dX0_decodedAt_18 : decode cX0_decodedAt 18 = .ok (.iadd, 1) := by decide +kernel
theorem dX0_decodedAt_19 : decode cX0_decodedAt 19 = .ok (.aload_n 0, 1) := by decide +kernel
theorem dX0_decodedAt_20 : decode cX0_decodedAt 20 = .ok (.getfield 19, 3) := by decide +kernel
theorem dX0_decodedAt_23 : decode cX0_decodedAt 23 = .ok (.if_icmp .lt 5, 3) := by decide +kernel
theorem dX0_decodedAt_26 : decode cX0_decodedAt 26 = .ok (.iconst (-1), 1) := by decide +kernel
theorem dX0_decodedAt_27 : decode cX0_decodedAt 27 = .ok (.ireturn, 1) := by decide +kernel
theorem dX0_decodedAt_28 : decode cX0_decodedAt 28 = .ok (.iload_n 3, 1) := by decide +kernel
theorem dX0_decodedAt_29 : decode cX0_decodedAt 29 = .ok (.ifCond .ne 7, 3) := by decide +kernel
theorem dX0_decodedAt_32 : decode cX0_decodedAt 32 = .ok (.iload_n 2, 1) := by decide +kernel
theorem dX0_decodedAt_33 : decode cX0_decodedAt 33 = .ok (.goto 9, 3) := by decide +kernel
theorem dX0_decodedAt_36 : decode cX0_decodedAt 36 = .ok (.iload_n 2, 1) := by decide +kernel
theorem dX0_decodedAt_37 : decode cX0_decodedAt 37 = .ok (.bipush 63, 2) := by decide +kernel
theorem dX0_decodedAt_39 : decode cX0_decodedAt 39 = .ok (.iload_n 3, 1) := by decide +kernel
theorem dX0_decodedAt_40 : decode cX0_decodedAt 40 = .ok (.ishr, 1) := by decide +kernel
theorem dX0_decodedAt_41 : decode cX0_decodedAt 41 = .ok (.iand, 1) := by decide +kernel
theorem dX0_decodedAt_42 : decode cX0_decodedAt 42 = .ok (.istore 4, 2) := by decide +kernel
theorem dX0_decodedAt_44 : decode cX0_decodedAt 44 = .ok (.iconst 1, 1) := by decide +kernel
theorem dX0_decodedAt_45 : decode cX0_decodedAt 45 = .ok (.istore 5, 2) := by decide +kernel
theorem dX0_decodedAt_47 : decode cX0_decodedAt 47 = .ok (.iload 5, 2) := by decide +kernel
theorem dX0_decodedAt_49 : decode cX0_decodedAt 49 = .ok (.iload_n 3, 1) := by decide +kernel
theorem dX0_decodedAt_50 : decode cX0_decodedAt 50 = .ok (.if_icmp .gt 47, 3) := by decide +kernel
theorem dX0_decodedAt_53 : decode cX0_decodedAt 53 = .ok (.aload_n 0, 1) := by decide +kernel
theorem dX0_decodedAt_54 : decode cX0_decodedAt 54 = .ok (.getfield 9, 3) := by decide +kernel
theorem dX0_decodedAt_57 : decode cX0_decodedAt 57 = .ok (.iload_n 1, 1) := by decide +kernel
theorem dX0_decodedAt_58 : decode cX0_decodedAt 58 = .ok (.iload 5, 2) := by decide +kernel
theorem dX0_decodedAt_60 : decode cX0_decodedAt 60 = .ok (.iadd, 1) := by decide +kernel
theorem dX0_decodedAt_61 : decode cX0_decodedAt 61 = .ok (.iaload, 1) := by decide +kernel
theorem dX0_decodedAt_62 : decode cX0_decodedAt 62 = .ok (.istore 6, 2) := by decide +kernel
theorem dX0_decodedAt_64 : decode cX0_decodedAt 64 = .ok (.iload 6, 2) := by decide +kernel
theorem dX0_decodedAt_66 : decode cX0_decodedAt 66 = .ok (.sipush 192, 3) := by decide +kernel
theorem dX0_decodedAt_69 : decode cX0_decodedAt 69 = .ok (.iand, 1) := by decide +kernel
theorem dX0_decodedAt_70 : decode cX0_decodedAt 70 = .ok (.sipush 128, 3) := by decide +kernel
theorem dX0_decodedAt_73 : decode cX0_decodedAt 73 = .ok (.if_icmp .eq 5, 3) := by decide +kernel
theorem dX0_decodedAt_76 : decode cX0_decodedAt 76 = .ok (.iconst (-1), 1) := by decide +kernel
theorem dX0_decodedAt_77 : decode cX0_decodedAt 77 = .ok (.ireturn, 1) := by decide +kernel
theorem dX0_decodedAt_78 : decode cX0_decodedAt 78 = .ok (.iload 4, 2) := by decide +kernel
theorem dX0_decodedAt_80 : decode cX0_decodedAt 80 = .ok (.bipush 6, 2) := by decide +kernel
theorem dX0_decodedAt_82 : decode cX0_decodedAt 82 = .ok (.ishl, 1) := by decide +kernel
theorem dX0_decodedAt_83 : decode cX0_decodedAt 83 = .ok (.iload 6, 2) := by decide +kernel
theorem dX0_decodedAt_85 : decode cX0_decodedAt 85 = .ok (.bipush 63, 2) := by decide +kernel
theorem dX0_decodedAt_87 : decode cX0_decodedAt 87 = .ok (.iand, 1) := by decide +kernel
theorem dX0_decodedAt_88 : decode cX0_decodedAt 88 = .ok (.ior, 1) := by decide +kernel
theorem dX0_decodedAt_89 : decode cX0_decodedAt 89 = .ok (.istore 4, 2) := by decide +kernel
theorem dX0_decodedAt_91 : decode cX0_decodedAt 91 = .ok (.iinc 5 1, 3) := by decide +kernel
theorem dX0_decodedAt_94 : decode cX0_decodedAt 94 = .ok (.goto (-47), 3) := by decide +kernel
theorem dX0_decodedAt_97 : decode cX0_decodedAt 97 = .ok (.iload 4, 2) := by decide +kernel
theorem dX0_decodedAt_99 : decode cX0_decodedAt 99 = .ok (.invokestatic 41, 3) := by decide +kernel
theorem dX0_decodedAt_102 : decode cX0_decodedAt 102 = .ok (.iload_n 3, 1) := by decide +kernel
theorem dX0_decodedAt_103 : decode cX0_decodedAt 103 = .ok (.iconst 1, 1) := by decide +kernel
theorem dX0_decodedAt_104 : decode cX0_decodedAt 104 = .ok (.iadd, 1) := by decide +kernel
theorem dX0_decodedAt_105 : decode cX0_decodedAt 105 = .ok (.if_icmp .ne 8, 3) := by decide +kernel
theorem dX0_decodedAt_108 : decode cX0_decodedAt 108 = .ok (.iload 4, 2) := by decide +kernel
theorem dX0_decodedAt_110 : decode cX0_decodedAt 110 = .ok (.goto 4, 3) := by decide +kernel
theorem dX0_decodedAt_113 : decode cX0_decodedAt 113 = .ok (.iconst (-1), 1) := by decide +kernel
theorem dX0_decodedAt_114 : decode cX0_decodedAt 114 = .ok (.ireturn, 1) := by decide +kernel
theorem dX0_followersOf_0 : decode cX0_followersOf 0 = .ok (.iload_n 0, 1) := by decide +kernel
theorem dX0_followersOf_1 : decode cX0_followersOf 1 = .ok (.sipush 128, 3) := by decide +kernel
theorem dX0_followersOf_4 : decode cX0_followersOf 4 = .ok (.if_icmp .ge 5, 3) := by decide +kernel
theorem dX0_followersOf_7 : decode cX0_followersOf 7 = .ok (.iconst 0, 1) := by decide +kernel
theorem dX0_followersOf_8 : decode cX0_followersOf 8 = .ok (.ireturn, 1) := by decide +kernel
theorem dX0_followersOf_9 : decode cX0_followersOf 9 = .ok (.iload_n 0, 1) := by decide +kernel
theorem dX0_followersOf_10 : decode cX0_followersOf 10 = .ok (.sipush 224, 3) := by decide +kernel
theorem dX0_followersOf_13 : decode cX0_followersOf 13 = .ok (.iand, 1) := by decide +kernel
theorem dX0_followersOf_14 : decode cX0_followersOf 14 = .ok (.sipush 192, 3) := by decide +kernel
theorem dX0_followersOf_17 : decode cX0_followersOf 17 = .ok (.if_icmp .ne 5, 3) := by decide +kernel
theorem dX0_followersOf_20 : decode cX0_followersOf 20 = .ok (.iconst 1, 1) := by decide +kernel
theorem dX0_followersOf_21 : decode cX0_followersOf 21 = .ok (.ireturn, 1) := by decide +kernel
theorem dX0_followersOf_22 : decode cX0_followersOf 22 = .ok (.iload_n 0, 1) := by decide +kernel
theorem dX0_followersOf_23 : decode cX0_followersOf 23 = .ok (.sipush 240, 3) := by decide +kernel
theorem dX0_followersOf_26 : decode cX0_followersOf 26 = .ok (.iand, 1) := by decide +kernel
theorem dX0_followersOf_27 : decode cX0_followersOf 27 = .ok (.sipush 224, 3) := by decide +kernel
theorem dX0_followersOf_30 : decode cX0_followersOf 30 = .ok (.if_icmp .ne 5, 3) := by decide +kernel
theorem dX0_followersOf_33 : decode cX0_followersOf 33 = .ok (.iconst 2, 1) := by decide +kernel
theorem dX0_followersOf_34 : decode cX0_followersOf 34 = .ok (.ireturn, 1) := by decide +kernel
theorem dX0_followersOf_35 : decode cX0_followersOf 35 = .ok (.iload_n 0, 1) := by decide +kernel
theorem dX0_followersOf_36 : decode cX0_followersOf 36 = .ok (.sipush 248, 3) := by decide +kernel
theorem dX0_followersOf_39 : decode cX0_followersOf 39 = .ok (.iand, 1) := by decide +kernel
theorem dX0_followersOf_40 : decode cX0_followersOf 40 = .ok (.sipush 240, 3) := by decide +kernel
theorem dX0_followersOf_43 : decode cX0_followersOf 43 = .ok (.if_icmp .ne 7, 3) := by decide +kernel
theorem dX0_followersOf_46 : decode cX0_followersOf 46 = .ok (.iconst 3, 1) := by decide +kernel
theorem dX0_followersOf_47 : decode cX0_followersOf 47 = .ok (.goto 4, 3) := by decide +kernel
theorem dX0_followersOf_50 : decode cX0_followersOf 50 = .ok (.iconst (-1), 1) := by decide +kernel
theorem dX0_followersOf_51 : decode cX0_followersOf 51 = .ok (.ireturn, 1) := by decide +kernel
theorem dX0_widthOf_0 : decode cX0_widthOf 0 = .ok (.iload_n 0, 1) := by decide +kernel
theorem dX0_widthOf_1 : decode cX0_widthOf 1 = .ok (.ifCond .lt 21, 3) := by decide +kernel
theorem dX0_widthOf_4 : decode cX0_widthOf 4 = .ok (.iload_n 0, 1) := by decide +kernel
theorem dX0_widthOf_5 : decode cX0_widthOf 5 = .ok (.ldc 105, 2) := by decide +kernel
theorem dX0_widthOf_7 : decode cX0_widthOf 7 = .ok (.if_icmp .gt 15, 3) := by decide +kernel
theorem dX0_widthOf_10 : decode cX0_widthOf 10 = .ok (.iload_n 0, 1) := by decide +kernel
theorem dX0_widthOf_11 : decode cX0_widthOf 11 = .ok (.ldc 106, 2) := by decide +kernel
theorem dX0_widthOf_13 : decode cX0_widthOf 13 = .ok (.if_icmp .lt 11, 3) := by decide +kernel
theorem dX0_widthOf_16 : decode cX0_widthOf 16 = .ok (.iload_n 0, 1) := by decide +kernel
theorem dX0_widthOf_17 : decode cX0_widthOf 17 = .ok (.ldc 107, 2) := by decide +kernel
theorem dX0_widthOf_19 : decode cX0_widthOf 19 = .ok (.if_icmp .gt 5, 3) := by decide +kernel
theorem dX0_widthOf_22 : decode cX0_widthOf 22 = .ok (.iconst 0, 1) := by decide +kernel
theorem dX0_widthOf_23 : decode cX0_widthOf 23 = .ok (.ireturn, 1) := by decide +kernel
theorem dX0_widthOf_24 : decode cX0_widthOf 24 = .ok (.iload_n 0, 1) := by decide +kernel
theorem dX0_widthOf_25 : decode cX0_widthOf 25 = .ok (.bipush 127, 2) := by decide +kernel
theorem dX0_widthOf_27 : decode cX0_widthOf 27 = .ok (.if_icmp .gt 5, 3) := by decide +kernel
theorem dX0_widthOf_30 : decode cX0_widthOf 30 = .ok (.iconst 1, 1) := by decide +kernel
theorem dX0_widthOf_31 : decode cX0_widthOf 31 = .ok (.ireturn, 1) := by decide +kernel
theorem dX0_widthOf_32 : decode cX0_widthOf 32 = .ok (.iload_n 0, 1) := by decide +kernel
theorem dX0_widthOf_33 : decode cX0_widthOf 33 = .ok (.sipush 2047, 3) := by decide +kernel
theorem dX0_widthOf_36 : decode cX0_widthOf 36 = .ok (.if_icmp .gt 5, 3) := by decide +kernel
theorem dX0_widthOf_39 : decode cX0_widthOf 39 = .ok (.iconst 2, 1) := by decide +kernel
theorem dX0_widthOf_40 : decode cX0_widthOf 40 = .ok (.ireturn, 1) := by decide +kernel
theorem dX0_widthOf_41 : decode cX0_widthOf 41 = .ok (.iload_n 0, 1) := by decide +kernel
theorem dX0_widthOf_42 : decode cX0_widthOf 42 = .ok (.ldc 108, 2) := by decide +kernel
theorem dX0_widthOf_44 : decode cX0_widthOf 44 = .ok (.if_icmp .gt 7, 3) := by decide +kernel
theorem dX0_widthOf_47 : decode cX0_widthOf 47 = .ok (.iconst 3, 1) := by decide +kernel
theorem dX0_widthOf_48 : decode cX0_widthOf 48 = .ok (.goto 4, 3) := by decide +kernel
theorem dX0_widthOf_51 : decode cX0_widthOf 51 = .ok (.iconst 4, 1) := by decide +kernel
theorem dX0_widthOf_52 : decode cX0_widthOf 52 = .ok (.ireturn, 1) := by decide +kernel
set_option maxRecDepth 20000 in
theorem ggX0_encodedByte_X0_firstByteMark : GoodIn wsX0_encodedByte wsX0_firstByteMark := goodIn_r _ [4] (by decide +kernel) (by decide +kernel)
set_option maxRecDepth 20000 in
theorem gX0_encodedByte_X0_firstByteMark : GoodIn wsX0_encodedByte (va_wsS RX0 109 yX0_firstByteMark wsX0_firstByteMark) := goodIn_app (goodIn_of _ (by decide +kernel)) ggX0_encodedByte_X0_firstByteMark
theorem dX0_encodedByte_0 : decode cX0_encodedByte 0 = .ok (.iload_n 0, 1) := by decide +kernel
theorem dX0_encodedByte_1 : decode cX0_encodedByte 1 = .ok (.bipush 6, 2) := by decide +kernel
theorem dX0_encodedByte_3 : decode cX0_encodedByte 3 = .ok (.iload_n 1, 1) := by decide +kernel
theorem dX0_encodedByte_4 : decode cX0_encodedByte 4 = .ok (.iconst 1, 1) := by decide +kernel
theorem dX0_encodedByte_5 : decode cX0_encodedByte 5 = .ok (.isub, 1) := by decide +kernel
theorem dX0_encodedByte_6 : decode cX0_encodedByte 6 = .ok (.iload_n 2, 1) := by decide +kernel
theorem dX0_encodedByte_7 : decode cX0_encodedByte 7 = .ok (.isub, 1) := by decide +kernel
theorem dX0_encodedByte_8 : decode cX0_encodedByte 8 = .ok (.imul, 1) := by decide +kernel
theorem dX0_encodedByte_9 : decode cX0_encodedByte 9 = .ok (.ishr, 1) := by decide +kernel
theorem dX0_encodedByte_10 : decode cX0_encodedByte 10 = .ok (.istore_n 3, 1) := by decide +kernel
theorem dX0_encodedByte_11 : decode cX0_encodedByte 11 = .ok (.iload_n 2, 1) := by decide +kernel
theorem dX0_encodedByte_12 : decode cX0_encodedByte 12 = .ok (.ifCond .le 12, 3) := by decide +kernel
theorem dX0_encodedByte_15 : decode cX0_encodedByte 15 = .ok (.sipush 128, 3) := by decide +kernel
theorem dX0_encodedByte_18 : decode cX0_encodedByte 18 = .ok (.iload_n 3, 1) := by decide +kernel
theorem dX0_encodedByte_19 : decode cX0_encodedByte 19 = .ok (.bipush 63, 2) := by decide +kernel
theorem dX0_encodedByte_21 : decode cX0_encodedByte 21 = .ok (.iand, 1) := by decide +kernel
theorem dX0_encodedByte_22 : decode cX0_encodedByte 22 = .ok (.ior, 1) := by decide +kernel
theorem dX0_encodedByte_23 : decode cX0_encodedByte 23 = .ok (.ireturn, 1) := by decide +kernel
theorem dX0_encodedByte_24 : decode cX0_encodedByte 24 = .ok (.iload_n 1, 1) := by decide +kernel
theorem dX0_encodedByte_25 : decode cX0_encodedByte 25 = .ok (.invokestatic 109, 3) := by decide +kernel
theorem dX0_encodedByte_28 : decode cX0_encodedByte 28 = .ok (.iload_n 3, 1) := by decide +kernel
theorem dX0_encodedByte_29 : decode cX0_encodedByte 29 = .ok (.ior, 1) := by decide +kernel
theorem dX0_encodedByte_30 : decode cX0_encodedByte 30 = .ok (.ireturn, 1) := by decide +kernel
theorem dX0_firstByteMark_0 : decode cX0_firstByteMark 0 = .ok (.iload_n 0, 1) := by decide +kernel
theorem dX0_firstByteMark_1 : decode cX0_firstByteMark 1 = .ok (.tableswitch 39 2 4 #[27, 31, 35], 27) := by decide +kernel
theorem dX0_firstByteMark_28 : decode cX0_firstByteMark 28 = .ok (.sipush 192, 3) := by decide +kernel
theorem dX0_firstByteMark_31 : decode cX0_firstByteMark 31 = .ok (.ireturn, 1) := by decide +kernel
theorem dX0_firstByteMark_32 : decode cX0_firstByteMark 32 = .ok (.sipush 224, 3) := by decide +kernel
theorem dX0_firstByteMark_35 : decode cX0_firstByteMark 35 = .ok (.ireturn, 1) := by decide +kernel
theorem dX0_firstByteMark_36 : decode cX0_firstByteMark 36 = .ok (.sipush 240, 3) := by decide +kernel
theorem dX0_firstByteMark_39 : decode cX0_firstByteMark 39 = .ok (.ireturn, 1) := by decide +kernel
theorem dX0_firstByteMark_40 : decode cX0_firstByteMark 40 = .ok (.iconst 0, 1) := by decide +kernel
theorem dX0_firstByteMark_41 : decode cX0_firstByteMark 41 = .ok (.ireturn, 1) := by decide +kernel
theorem dX0_hasCharacter_0 : decode cX0_hasCharacter 0 = .ok (.iload_n 1, 1) := by decide +kernel
theorem dX0_hasCharacter_1 : decode cX0_hasCharacter 1 = .ok (.ifCond .lt 15, 3) := by decide +kernel
theorem dX0_hasCharacter_4 : decode cX0_hasCharacter 4 = .ok (.iload_n 1, 1) := by decide +kernel
theorem dX0_hasCharacter_5 : decode cX0_hasCharacter 5 = .ok (.aload_n 0, 1) := by decide +kernel
theorem dX0_hasCharacter_6 : decode cX0_hasCharacter 6 = .ok (.getfield 23, 3) := by decide +kernel
theorem dX0_hasCharacter_9 : decode cX0_hasCharacter 9 = .ok (.if_icmp .ge 7, 3) := by decide +kernel
theorem dX0_hasCharacter_12 : decode cX0_hasCharacter 12 = .ok (.iconst 1, 1) := by decide +kernel
theorem dX0_hasCharacter_13 : decode cX0_hasCharacter 13 = .ok (.goto 4, 3) := by decide +kernel
theorem dX0_hasCharacter_16 : decode cX0_hasCharacter 16 = .ok (.iconst 0, 1) := by decide +kernel
theorem dX0_hasCharacter_17 : decode cX0_hasCharacter 17 = .ok (.ireturn, 1) := by decide +kernel
theorem dX0_hasStretch_0 : decode cX0_hasStretch 0 = .ok (.aload_n 0, 1) := by decide +kernel
theorem dX0_hasStretch_1 : decode cX0_hasStretch 1 = .ok (.getfield 26, 3) := by decide +kernel
theorem dX0_hasStretch_4 : decode cX0_hasStretch 4 = .ok (.ifCond .eq 25, 3) := by decide +kernel
theorem dX0_hasStretch_7 : decode cX0_hasStretch 7 = .ok (.iload_n 2, 1) := by decide +kernel
theorem dX0_hasStretch_8 : decode cX0_hasStretch 8 = .ok (.ifCond .lt 21, 3) := by decide +kernel
theorem dX0_hasStretch_11 : decode cX0_hasStretch 11 = .ok (.iload_n 1, 1) := by decide +kernel
theorem dX0_hasStretch_12 : decode cX0_hasStretch 12 = .ok (.ifCond .lt 17, 3) := by decide +kernel
theorem dX0_hasStretch_15 : decode cX0_hasStretch 15 = .ok (.iload_n 1, 1) := by decide +kernel
theorem dX0_hasStretch_16 : decode cX0_hasStretch 16 = .ok (.aload_n 0, 1) := by decide +kernel
theorem dX0_hasStretch_17 : decode cX0_hasStretch 17 = .ok (.getfield 23, 3) := by decide +kernel
theorem dX0_hasStretch_20 : decode cX0_hasStretch 20 = .ok (.iload_n 2, 1) := by decide +kernel
theorem dX0_hasStretch_21 : decode cX0_hasStretch 21 = .ok (.isub, 1) := by decide +kernel
theorem dX0_hasStretch_22 : decode cX0_hasStretch 22 = .ok (.if_icmp .gt 7, 3) := by decide +kernel
theorem dX0_hasStretch_25 : decode cX0_hasStretch 25 = .ok (.iconst 1, 1) := by decide +kernel
theorem dX0_hasStretch_26 : decode cX0_hasStretch 26 = .ok (.goto 4, 3) := by decide +kernel
theorem dX0_hasStretch_29 : decode cX0_hasStretch 29 = .ok (.iconst 0, 1) := by decide +kernel
theorem dX0_hasStretch_30 : decode cX0_hasStretch 30 = .ok (.ireturn, 1) := by decide +kernel
set_option maxRecDepth 20000 in
theorem ggX0_belongsToRun_X0_isNamePart : GoodIn wsX0_belongsToRun wsX0_isNamePart := goodIn_r _ [5, 6, 7, 8, 9, 4, 10] (by decide +kernel) (by decide +kernel)
set_option maxRecDepth 20000 in
theorem gX0_belongsToRun_X0_isNamePart : GoodIn wsX0_belongsToRun (va_wsS RX0 72 yX0_isNamePart wsX0_isNamePart) := goodIn_app (goodIn_of _ (by decide +kernel)) ggX0_belongsToRun_X0_isNamePart
set_option maxRecDepth 20000 in
theorem ggX0_belongsToRun_X0_isIn : GoodIn wsX0_belongsToRun wsX0_isIn := goodIn_r _ [10] (by decide +kernel) (by decide +kernel)
set_option maxRecDepth 20000 in
theorem gX0_belongsToRun_X0_isIn : GoodIn wsX0_belongsToRun (va_wsS RX0 62 yX0_isIn wsX0_isIn) := goodIn_app (goodIn_of _ (by decide +kernel)) ggX0_belongsToRun_X0_isIn
theorem dX0_belongsToRun_0 : decode cX0_belongsToRun 0 = .ok (.iload_n 0, 1) := by decide +kernel
theorem dX0_belongsToRun_1 : decode cX0_belongsToRun 1 = .ok (.tableswitch 40 0 2 #[27, 27, 32], 27) := by decide +kernel
theorem dX0_belongsToRun_28 : decode cX0_belongsToRun 28 = .ok (.iload_n 1, 1) := by decide +kernel
theorem dX0_belongsToRun_29 : decode cX0_belongsToRun 29 = .ok (.invokestatic 72, 3) := by decide +kernel
theorem dX0_belongsToRun_32 : decode cX0_belongsToRun 32 = .ok (.ireturn, 1) := by decide +kernel
theorem dX0_belongsToRun_33 : decode cX0_belongsToRun 33 = .ok (.getstatic 66, 3) := by decide +kernel
theorem dX0_belongsToRun_36 : decode cX0_belongsToRun 36 = .ok (.iload_n 1, 1) := by decide +kernel
theorem dX0_belongsToRun_37 : decode cX0_belongsToRun 37 = .ok (.invokestatic 62, 3) := by decide +kernel
theorem dX0_belongsToRun_40 : decode cX0_belongsToRun 40 = .ok (.ireturn, 1) := by decide +kernel
theorem dX0_belongsToRun_41 : decode cX0_belongsToRun 41 = .ok (.iconst 0, 1) := by decide +kernel
theorem dX0_belongsToRun_42 : decode cX0_belongsToRun 42 = .ok (.ireturn, 1) := by decide +kernel
set_option maxRecDepth 20000 in
theorem ggX0_isNamePart_X0_isIn : GoodIn wsX0_isNamePart wsX0_isIn := goodIn_r _ [6] (by decide +kernel) (by decide +kernel)
set_option maxRecDepth 20000 in
theorem gX0_isNamePart_X0_isIn : GoodIn wsX0_isNamePart (va_wsS RX0 62 yX0_isIn wsX0_isIn) := goodIn_app (goodIn_of _ (by decide +kernel)) ggX0_isNamePart_X0_isIn
theorem dX0_isNamePart_0 : decode cX0_isNamePart 0 = .ok (.getstatic 69, 3) := by decide +kernel
theorem dX0_isNamePart_3 : decode cX0_isNamePart 3 = .ok (.iload_n 0, 1) := by decide +kernel
theorem dX0_isNamePart_4 : decode cX0_isNamePart 4 = .ok (.invokestatic 62, 3) := by decide +kernel
theorem dX0_isNamePart_7 : decode cX0_isNamePart 7 = .ok (.ifCond .ne 13, 3) := by decide +kernel
theorem dX0_isNamePart_10 : decode cX0_isNamePart 10 = .ok (.getstatic 112, 3) := by decide +kernel
theorem dX0_isNamePart_13 : decode cX0_isNamePart 13 = .ok (.iload_n 0, 1) := by decide +kernel
theorem dX0_isNamePart_14 : decode cX0_isNamePart 14 = .ok (.invokestatic 62, 3) := by decide +kernel
theorem dX0_isNamePart_17 : decode cX0_isNamePart 17 = .ok (.ifCond .eq 7, 3) := by decide +kernel
theorem dX0_isNamePart_20 : decode cX0_isNamePart 20 = .ok (.iconst 1, 1) := by decide +kernel
theorem dX0_isNamePart_21 : decode cX0_isNamePart 21 = .ok (.goto 4, 3) := by decide +kernel
theorem dX0_isNamePart_24 : decode cX0_isNamePart 24 = .ok (.iconst 0, 1) := by decide +kernel
theorem dX0_isNamePart_25 : decode cX0_isNamePart 25 = .ok (.ireturn, 1) := by decide +kernel
theorem dX0_isIn_0 : decode cX0_isIn 0 = .ok (.iconst 0, 1) := by decide +kernel
theorem dX0_isIn_1 : decode cX0_isIn 1 = .ok (.istore_n 2, 1) := by decide +kernel
theorem dX0_isIn_2 : decode cX0_isIn 2 = .ok (.iload_n 2, 1) := by decide +kernel
theorem dX0_isIn_3 : decode cX0_isIn 3 = .ok (.iconst 1, 1) := by decide +kernel
theorem dX0_isIn_4 : decode cX0_isIn 4 = .ok (.iadd, 1) := by decide +kernel
theorem dX0_isIn_5 : decode cX0_isIn 5 = .ok (.aload_n 0, 1) := by decide +kernel
theorem dX0_isIn_6 : decode cX0_isIn 6 = .ok (.arraylength, 1) := by decide +kernel
theorem dX0_isIn_7 : decode cX0_isIn 7 = .ok (.if_icmp .ge 27, 3) := by decide +kernel
theorem dX0_isIn_10 : decode cX0_isIn 10 = .ok (.iload_n 1, 1) := by decide +kernel
theorem dX0_isIn_11 : decode cX0_isIn 11 = .ok (.aload_n 0, 1) := by decide +kernel
theorem dX0_isIn_12 : decode cX0_isIn 12 = .ok (.iload_n 2, 1) := by decide +kernel
theorem dX0_isIn_13 : decode cX0_isIn 13 = .ok (.iaload, 1) := by decide +kernel
theorem dX0_isIn_14 : decode cX0_isIn 14 = .ok (.if_icmp .lt 14, 3) := by decide +kernel
theorem dX0_isIn_17 : decode cX0_isIn 17 = .ok (.iload_n 1, 1) := by decide +kernel
theorem dX0_isIn_18 : decode cX0_isIn 18 = .ok (.aload_n 0, 1) := by decide +kernel
theorem dX0_isIn_19 : decode cX0_isIn 19 = .ok (.iload_n 2, 1) := by decide +kernel
theorem dX0_isIn_20 : decode cX0_isIn 20 = .ok (.iconst 1, 1) := by decide +kernel
theorem dX0_isIn_21 : decode cX0_isIn 21 = .ok (.iadd, 1) := by decide +kernel
theorem dX0_isIn_22 : decode cX0_isIn 22 = .ok (.iaload, 1) := by decide +kernel
theorem dX0_isIn_23 : decode cX0_isIn 23 = .ok (.if_icmp .gt 5, 3) := by decide +kernel
theorem dX0_isIn_26 : decode cX0_isIn 26 = .ok (.iconst 1, 1) := by decide +kernel
theorem dX0_isIn_27 : decode cX0_isIn 27 = .ok (.ireturn, 1) := by decide +kernel
theorem dX0_isIn_28 : decode cX0_isIn 28 = .ok (.iinc 2 2, 3) := by decide +kernel
theorem dX0_isIn_31 : decode cX0_isIn 31 = .ok (.goto (-29), 3) := by decide +kernel
theorem dX0_isIn_34 : decode cX0_isIn 34 = .ok (.iconst 0, 1) := by decide +kernel
theorem dX0_isIn_35 : decode cX0_isIn 35 = .ok (.ireturn, 1) := by decide +kernel
theorem dX1_init_0 : decode cX1_init 0 = .ok (.aload_n 0, 1) := by decide +kernel
theorem dX1_init_1 : decode cX1_init 1 = .ok (.invokespecial 1, 3) := by decide +kernel
theorem dX1_init_4 : decode cX1_init 4 = .ok (.aload_n 0, 1) := by decide +kernel
theorem dX1_init_5 : decode cX1_init 5 = .ok (.sipush 1000, 3) := by decide +kernel
theorem dX1_init_8 : decode cX1_init 8 = .ok (.newarray .int, 2) := by decide +kernel
theorem dX1_init_10 : decode cX1_init 10 = .ok (.putfield 7, 3) := by decide +kernel
theorem dX1_init_13 : decode cX1_init 13 = .ok (.aload_n 0, 1) := by decide +kernel
theorem dX1_init_14 : decode cX1_init 14 = .ok (.sipush 1000, 3) := by decide +kernel
theorem dX1_init_17 : decode cX1_init 17 = .ok (.newarray .int, 2) := by decide +kernel
theorem dX1_init_19 : decode cX1_init 19 = .ok (.putfield 13, 3) := by decide +kernel
theorem dX1_init_22 : decode cX1_init 22 = .ok (.aload_n 0, 1) := by decide +kernel
theorem dX1_init_23 : decode cX1_init 23 = .ok (.iconst (-1), 1) := by decide +kernel
theorem dX1_init_24 : decode cX1_init 24 = .ok (.putfield 16, 3) := by decide +kernel
theorem dX1_init_27 : decode cX1_init 27 = .ok (.return_, 1) := by decide +kernel
theorem dX1_put_0 : decode cX1_put 0 = .ok (.iload_n 3, 1) := by decide +kernel
theorem dX1_put_1 : decode cX1_put 1 = .ok (.iconst 1, 1) := by decide +kernel
theorem dX1_put_2 : decode cX1_put 2 = .ok (.if_icmp .lt 21, 3) := by decide +kernel
theorem dX1_put_5 : decode cX1_put 5 = .ok (.iload_n 3, 1) := by decide +kernel
theorem dX1_put_6 : decode cX1_put 6 = .ok (.bipush 8, 2) := by decide +kernel
theorem dX1_put_8 : decode cX1_put 8 = .ok (.if_icmp .gt 15, 3) := by decide +kernel
theorem dX1_put_11 : decode cX1_put 11 = .ok (.aload_n 0, 1) := by decide +kernel
theorem dX1_put_12 : decode cX1_put 12 = .ok (.getfield 20, 3) := by decide +kernel
theorem dX1_put_15 : decode cX1_put 15 = .ok (.iload_n 3, 1) := by decide +kernel
theorem dX1_put_16 : decode cX1_put 16 = .ok (.iadd, 1) := by decide +kernel
theorem dX1_put_17 : decode cX1_put 17 = .ok (.sipush 1000, 3) := by decide +kernel
theorem dX1_put_20 : decode cX1_put 20 = .ok (.if_icmp .le 5, 3) := by decide +kernel
theorem dX1_put_23 : decode cX1_put 23 = .ok (.iconst 0, 1) := by decide +kernel
theorem dX1_put_24 : decode cX1_put 24 = .ok (.ireturn, 1) := by decide +kernel
theorem dX1_put_25 : decode cX1_put 25 = .ok (.iload_n 3, 1) := by decide +kernel
theorem dX1_put_26 : decode cX1_put 26 = .ok (.iconst 1, 1) := by decide +kernel
theorem dX1_put_27 : decode cX1_put 27 = .ok (.isub, 1) := by decide +kernel
theorem dX1_put_28 : decode cX1_put 28 = .ok (.istore 4, 2) := by decide +kernel
theorem dX1_put_30 : decode cX1_put 30 = .ok (.iload 4, 2) := by decide +kernel
theorem dX1_put_32 : decode cX1_put 32 = .ok (.ifCond .lt 40, 3) := by decide +kernel
theorem dX1_put_35 : decode cX1_put 35 = .ok (.aload_n 0, 1) := by decide +kernel
theorem dX1_put_36 : decode cX1_put 36 = .ok (.getfield 7, 3) := by decide +kernel
theorem dX1_put_39 : decode cX1_put 39 = .ok (.aload_n 0, 1) := by decide +kernel
theorem dX1_put_40 : decode cX1_put 40 = .ok (.getfield 20, 3) := by decide +kernel
theorem dX1_put_43 : decode cX1_put 43 = .ok (.lload_n 1, 1) := by decide +kernel
theorem dX1_put_44 : decode cX1_put 44 = .ok (.bipush 8, 2) := by decide +kernel
theorem dX1_put_46 : decode cX1_put 46 = .ok (.iload 4, 2) := by decide +kernel
theorem dX1_put_48 : decode cX1_put 48 = .ok (.imul, 1) := by decide +kernel
theorem dX1_put_49 : decode cX1_put 49 = .ok (.lshr, 1) := by decide +kernel
theorem dX1_put_50 : decode cX1_put 50 = .ok (.ldc2_w 23, 3) := by decide +kernel
theorem dX1_put_53 : decode cX1_put 53 = .ok (.land, 1) := by decide +kernel
theorem dX1_put_54 : decode cX1_put 54 = .ok (.l2i, 1) := by decide +kernel
theorem dX1_put_55 : decode cX1_put 55 = .ok (.iastore, 1) := by decide +kernel
theorem dX1_put_56 : decode cX1_put 56 = .ok (.aload_n 0, 1) := by decide +kernel
theorem dX1_put_57 : decode cX1_put 57 = .ok (.dup, 1) := by decide +kernel
theorem dX1_put_58 : decode cX1_put 58 = .ok (.getfield 20, 3) := by decide +kernel
theorem dX1_put_61 : decode cX1_put 61 = .ok (.iconst 1, 1) := by decide +kernel
theorem dX1_put_62 : decode cX1_put 62 = .ok (.iadd, 1) := by decide +kernel
theorem dX1_put_63 : decode cX1_put 63 = .ok (.putfield 20, 3) := by decide +kernel
theorem dX1_put_66 : decode cX1_put 66 = .ok (.iinc 4 (-1), 3) := by decide +kernel
theorem dX1_put_69 : decode cX1_put 69 = .ok (.goto (-39), 3) := by decide +kernel
theorem dX1_put_72 : decode cX1_put 72 = .ok (.iconst 1, 1) := by decide +kernel
theorem dX1_put_73 : decode cX1_put 73 = .ok (.ireturn, 1) := by decide +kernel
theorem dX1_has_0 : decode cX1_has 0 = .ok (.iload_n 0, 1) := by decide +kernel
theorem dX1_has_1 : decode cX1_has 1 = .ok (.ifCond .lt 9, 3) := by decide +kernel
end
section
theorem dX1_has_4 : decode cX1_has 4 = .ok (.iload_n 0, 1) := by decide +kernel
theorem dX1_has_5 : decode cX1_has 5 = .ok (.ldc 25, 2) := by decide +kernel
theorem dX1_has_7 : decode cX1_has 7 = .ok (.if_icmp .lt 15, 3) := by decide +kernel
theorem dX1_has_10 : decode cX1_has 10 = .ok (.iload_n 0, 1) := by decide +kernel
theorem dX1_has_11 : decode cX1_has 11 = .ok (.ldc 26, 2) := by decide +kernel
theorem dX1_has_13 : decode cX1_has 13 = .ok (.if_icmp .le 13, 3) := by decide +kernel
theorem dX1_has_16 : decode cX1_has 16 = .ok (.iload_n 0, 1) := by decide +kernel
theorem dX1_has_17 : decode cX1_has 17 = .ok (.ldc 27, 2) := by decide +kernel
theorem dX1_has_19 : decode cX1_has 19 = .ok (.if_icmp .ge 7, 3) := by decide +kernel
theorem dX1_has_22 : decode cX1_has 22 = .ok (.iconst 1, 1) := by decide +kernel
theorem dX1_has_23 : decode cX1_has 23 = .ok (.goto 4, 3) := by decide +kernel
theorem dX1_has_26 : decode cX1_has 26 = .ok (.iconst 0, 1) := by decide +kernel
theorem dX1_has_27 : decode cX1_has 27 = .ok (.ireturn, 1) := by decide +kernel
theorem dX1_sizeOf_0 : decode cX1_sizeOf 0 = .ok (.iconst 1, 1) := by decide +kernel
theorem dX1_sizeOf_1 : decode cX1_sizeOf 1 = .ok (.istore_n 1, 1) := by decide +kernel
theorem dX1_sizeOf_2 : decode cX1_sizeOf 2 = .ok (.iload_n 0, 1) := by decide +kernel
theorem dX1_sizeOf_3 : decode cX1_sizeOf 3 = .ok (.bipush 127, 2) := by decide +kernel
theorem dX1_sizeOf_5 : decode cX1_sizeOf 5 = .ok (.if_icmp .le 7, 3) := by decide +kernel
theorem dX1_sizeOf_8 : decode cX1_sizeOf 8 = .ok (.iconst 2, 1) := by decide +kernel
theorem dX1_sizeOf_9 : decode cX1_sizeOf 9 = .ok (.goto 4, 3) := by decide +kernel
theorem dX1_sizeOf_12 : decode cX1_sizeOf 12 = .ok (.iload_n 1, 1) := by decide +kernel
theorem dX1_sizeOf_13 : decode cX1_sizeOf 13 = .ok (.istore_n 1, 1) := by decide +kernel
theorem dX1_sizeOf_14 : decode cX1_sizeOf 14 = .ok (.iload_n 0, 1) := by decide +kernel
theorem dX1_sizeOf_15 : decode cX1_sizeOf 15 = .ok (.sipush 2047, 3) := by decide +kernel
theorem dX1_sizeOf_18 : decode cX1_sizeOf 18 = .ok (.if_icmp .le 7, 3) := by decide +kernel
theorem dX1_sizeOf_21 : decode cX1_sizeOf 21 = .ok (.iconst 3, 1) := by decide +kernel
theorem dX1_sizeOf_22 : decode cX1_sizeOf 22 = .ok (.goto 4, 3) := by decide +kernel
theorem dX1_sizeOf_25 : decode cX1_sizeOf 25 = .ok (.iload_n 1, 1) := by decide +kernel
theorem dX1_sizeOf_26 : decode cX1_sizeOf 26 = .ok (.istore_n 1, 1) := by decide +kernel
theorem dX1_sizeOf_27 : decode cX1_sizeOf 27 = .ok (.iload_n 0, 1) := by decide +kernel
theorem dX1_sizeOf_28 : decode cX1_sizeOf 28 = .ok (.ldc 28, 2) := by decide +kernel
theorem dX1_sizeOf_30 : decode cX1_sizeOf 30 = .ok (.if_icmp .le 7, 3) := by decide +kernel
theorem dX1_sizeOf_33 : decode cX1_sizeOf 33 = .ok (.iconst 4, 1) := by decide +kernel
theorem dX1_sizeOf_34 : decode cX1_sizeOf 34 = .ok (.goto 4, 3) := by decide +kernel
theorem dX1_sizeOf_37 : decode cX1_sizeOf 37 = .ok (.iload_n 1, 1) := by decide +kernel
theorem dX1_sizeOf_38 : decode cX1_sizeOf 38 = .ok (.ireturn, 1) := by decide +kernel
set_option maxRecDepth 20000 in
theorem ggX1_byteOf_X1_sizeOf : GoodIn wsX1_byteOf wsX1_sizeOf := goodIn_r _ [4, 5] (by decide +kernel) (by decide +kernel)
set_option maxRecDepth 20000 in
theorem gX1_byteOf_X1_sizeOf : GoodIn wsX1_byteOf (va_wsS RX1 29 yX1_sizeOf wsX1_sizeOf) := goodIn_app (goodIn_of _ (by decide +kernel)) ggX1_byteOf_X1_sizeOf
theorem dX1_byteOf_0 : decode cX1_byteOf 0 = .ok (.iload_n 0, 1) := by decide +kernel
theorem dX1_byteOf_1 : decode cX1_byteOf 1 = .ok (.invokestatic 29, 3) := by decide +kernel
theorem dX1_byteOf_4 : decode cX1_byteOf 4 = .ok (.istore_n 2, 1) := by decide +kernel
theorem dX1_byteOf_5 : decode cX1_byteOf 5 = .ok (.iload_n 0, 1) := by decide +kernel
theorem dX1_byteOf_6 : decode cX1_byteOf 6 = .ok (.istore_n 3, 1) := by decide +kernel
theorem dX1_byteOf_7 : decode cX1_byteOf 7 = .ok (.iload_n 2, 1) := by decide +kernel
theorem dX1_byteOf_8 : decode cX1_byteOf 8 = .ok (.iconst 1, 1) := by decide +kernel
theorem dX1_byteOf_9 : decode cX1_byteOf 9 = .ok (.isub, 1) := by decide +kernel
theorem dX1_byteOf_10 : decode cX1_byteOf 10 = .ok (.istore 4, 2) := by decide +kernel
theorem dX1_byteOf_12 : decode cX1_byteOf 12 = .ok (.iload 4, 2) := by decide +kernel
theorem dX1_byteOf_14 : decode cX1_byteOf 14 = .ok (.iload_n 1, 1) := by decide +kernel
theorem dX1_byteOf_15 : decode cX1_byteOf 15 = .ok (.if_icmp .le 14, 3) := by decide +kernel
theorem dX1_byteOf_18 : decode cX1_byteOf 18 = .ok (.iload_n 3, 1) := by decide +kernel
theorem dX1_byteOf_19 : decode cX1_byteOf 19 = .ok (.bipush 64, 2) := by decide +kernel
theorem dX1_byteOf_21 : decode cX1_byteOf 21 = .ok (.idiv, 1) := by decide +kernel
theorem dX1_byteOf_22 : decode cX1_byteOf 22 = .ok (.istore_n 3, 1) := by decide +kernel
theorem dX1_byteOf_23 : decode cX1_byteOf 23 = .ok (.iinc 4 (-1), 3) := by decide +kernel
theorem dX1_byteOf_26 : decode cX1_byteOf 26 = .ok (.goto (-14), 3) := by decide +kernel
theorem dX1_byteOf_29 : decode cX1_byteOf 29 = .ok (.iload_n 1, 1) := by decide +kernel
theorem dX1_byteOf_30 : decode cX1_byteOf 30 = .ok (.ifCond .le 12, 3) := by decide +kernel
theorem dX1_byteOf_33 : decode cX1_byteOf 33 = .ok (.sipush 128, 3) := by decide +kernel
theorem dX1_byteOf_36 : decode cX1_byteOf 36 = .ok (.iload_n 3, 1) := by decide +kernel
theorem dX1_byteOf_37 : decode cX1_byteOf 37 = .ok (.bipush 64, 2) := by decide +kernel
theorem dX1_byteOf_39 : decode cX1_byteOf 39 = .ok (.irem, 1) := by decide +kernel
theorem dX1_byteOf_40 : decode cX1_byteOf 40 = .ok (.iadd, 1) := by decide +kernel
theorem dX1_byteOf_41 : decode cX1_byteOf 41 = .ok (.ireturn, 1) := by decide +kernel
theorem dX1_byteOf_42 : decode cX1_byteOf 42 = .ok (.iload_n 2, 1) := by decide +kernel
theorem dX1_byteOf_43 : decode cX1_byteOf 43 = .ok (.iconst 1, 1) := by decide +kernel
theorem dX1_byteOf_44 : decode cX1_byteOf 44 = .ok (.if_icmp .ne 7, 3) := by decide +kernel
theorem dX1_byteOf_47 : decode cX1_byteOf 47 = .ok (.iload_n 0, 1) := by decide +kernel
theorem dX1_byteOf_48 : decode cX1_byteOf 48 = .ok (.goto 34, 3) := by decide +kernel
theorem dX1_byteOf_51 : decode cX1_byteOf 51 = .ok (.iload_n 2, 1) := by decide +kernel
theorem dX1_byteOf_52 : decode cX1_byteOf 52 = .ok (.iconst 2, 1) := by decide +kernel
theorem dX1_byteOf_53 : decode cX1_byteOf 53 = .ok (.if_icmp .ne 11, 3) := by decide +kernel
theorem dX1_byteOf_56 : decode cX1_byteOf 56 = .ok (.sipush 192, 3) := by decide +kernel
theorem dX1_byteOf_59 : decode cX1_byteOf 59 = .ok (.iload_n 3, 1) := by decide +kernel
theorem dX1_byteOf_60 : decode cX1_byteOf 60 = .ok (.iadd, 1) := by decide +kernel
theorem dX1_byteOf_61 : decode cX1_byteOf 61 = .ok (.goto 21, 3) := by decide +kernel
theorem dX1_byteOf_64 : decode cX1_byteOf 64 = .ok (.iload_n 2, 1) := by decide +kernel
theorem dX1_byteOf_65 : decode cX1_byteOf 65 = .ok (.iconst 3, 1) := by decide +kernel
theorem dX1_byteOf_66 : decode cX1_byteOf 66 = .ok (.if_icmp .ne 11, 3) := by decide +kernel
theorem dX1_byteOf_69 : decode cX1_byteOf 69 = .ok (.sipush 224, 3) := by decide +kernel
theorem dX1_byteOf_72 : decode cX1_byteOf 72 = .ok (.iload_n 3, 1) := by decide +kernel
theorem dX1_byteOf_73 : decode cX1_byteOf 73 = .ok (.iadd, 1) := by decide +kernel
theorem dX1_byteOf_74 : decode cX1_byteOf 74 = .ok (.goto 8, 3) := by decide +kernel
theorem dX1_byteOf_77 : decode cX1_byteOf 77 = .ok (.sipush 240, 3) := by decide +kernel
theorem dX1_byteOf_80 : decode cX1_byteOf 80 = .ok (.iload_n 3, 1) := by decide +kernel
theorem dX1_byteOf_81 : decode cX1_byteOf 81 = .ok (.iadd, 1) := by decide +kernel
theorem dX1_byteOf_82 : decode cX1_byteOf 82 = .ok (.ireturn, 1) := by decide +kernel
set_option maxRecDepth 20000 in
theorem ggX1_character_X1_has : GoodIn wsX1_character wsX1_has := goodIn_r _ [6, 7, 8, 9] (by decide +kernel) (by decide +kernel)
set_option maxRecDepth 20000 in
theorem gX1_character_X1_has : GoodIn wsX1_character (va_wsS RX1 33 yX1_has wsX1_has) := goodIn_app (goodIn_of _ (by decide +kernel)) ggX1_character_X1_has
set_option maxRecDepth 20000 in
theorem ggX1_character_X1_sizeOf : GoodIn wsX1_character wsX1_sizeOf := goodIn_r _ [12, 13] (by decide +kernel) (by decide +kernel)
set_option maxRecDepth 20000 in
theorem gX1_character_X1_sizeOf : GoodIn wsX1_character (va_wsS RX1 29 yX1_sizeOf wsX1_sizeOf) := goodIn_app (goodIn_of _ (by decide +kernel)) ggX1_character_X1_sizeOf
set_option maxRecDepth 20000 in
theorem ggX1_character_X1_byteOf : GoodIn wsX1_character wsX1_byteOf := goodIn_r _ [16, 10, 11, 5, 12, 13] (by decide +kernel) (by decide +kernel)
set_option maxRecDepth 20000 in
theorem gX1_character_X1_byteOf : GoodIn wsX1_character (va_wsS RX1 37 yX1_byteOf wsX1_byteOf) := goodIn_app (goodIn_of _ (by decide +kernel)) ggX1_character_X1_byteOf
theorem dX1_character_0 : decode cX1_character 0 = .ok (.iload_n 1, 1) := by decide +kernel
theorem dX1_character_1 : decode cX1_character 1 = .ok (.invokestatic 33, 3) := by decide +kernel
theorem dX1_character_4 : decode cX1_character 4 = .ok (.ifCond .eq 18, 3) := by decide +kernel
theorem dX1_character_7 : decode cX1_character 7 = .ok (.aload_n 0, 1) := by decide +kernel
theorem dX1_character_8 : decode cX1_character 8 = .ok (.getfield 20, 3) := by decide +kernel
theorem dX1_character_11 : decode cX1_character 11 = .ok (.iload_n 1, 1) := by decide +kernel
theorem dX1_character_12 : decode cX1_character 12 = .ok (.invokestatic 29, 3) := by decide +kernel
theorem dX1_character_15 : decode cX1_character 15 = .ok (.iadd, 1) := by decide +kernel
theorem dX1_character_16 : decode cX1_character 16 = .ok (.sipush 1000, 3) := by decide +kernel
theorem dX1_character_19 : decode cX1_character 19 = .ok (.if_icmp .le 5, 3) := by decide +kernel
theorem dX1_character_22 : decode cX1_character 22 = .ok (.iconst 0, 1) := by decide +kernel
theorem dX1_character_23 : decode cX1_character 23 = .ok (.ireturn, 1) := by decide +kernel
theorem dX1_character_24 : decode cX1_character 24 = .ok (.iload_n 1, 1) := by decide +kernel
theorem dX1_character_25 : decode cX1_character 25 = .ok (.invokestatic 29, 3) := by decide +kernel
theorem dX1_character_28 : decode cX1_character 28 = .ok (.istore_n 2, 1) := by decide +kernel
theorem dX1_character_29 : decode cX1_character 29 = .ok (.iconst 0, 1) := by decide +kernel
theorem dX1_character_30 : decode cX1_character 30 = .ok (.istore_n 3, 1) := by decide +kernel
theorem dX1_character_31 : decode cX1_character 31 = .ok (.iload_n 3, 1) := by decide +kernel
theorem dX1_character_32 : decode cX1_character 32 = .ok (.iload_n 2, 1) := by decide +kernel
theorem dX1_character_33 : decode cX1_character 33 = .ok (.if_icmp .ge 33, 3) := by decide +kernel
theorem dX1_character_36 : decode cX1_character 36 = .ok (.aload_n 0, 1) := by decide +kernel
theorem dX1_character_37 : decode cX1_character 37 = .ok (.getfield 7, 3) := by decide +kernel
theorem dX1_character_40 : decode cX1_character 40 = .ok (.aload_n 0, 1) := by decide +kernel
theorem dX1_character_41 : decode cX1_character 41 = .ok (.getfield 20, 3) := by decide +kernel
theorem dX1_character_44 : decode cX1_character 44 = .ok (.iload_n 1, 1) := by decide +kernel
theorem dX1_character_45 : decode cX1_character 45 = .ok (.iload_n 3, 1) := by decide +kernel
theorem dX1_character_46 : decode cX1_character 46 = .ok (.invokestatic 37, 3) := by decide +kernel
theorem dX1_character_49 : decode cX1_character 49 = .ok (.iastore, 1) := by decide +kernel
theorem dX1_character_50 : decode cX1_character 50 = .ok (.aload_n 0, 1) := by decide +kernel
theorem dX1_character_51 : decode cX1_character 51 = .ok (.dup, 1) := by decide +kernel
theorem dX1_character_52 : decode cX1_character 52 = .ok (.getfield 20, 3) := by decide +kernel
theorem dX1_character_55 : decode cX1_character 55 = .ok (.iconst 1, 1) := by decide +kernel
theorem dX1_character_56 : decode cX1_character 56 = .ok (.iadd, 1) := by decide +kernel
theorem dX1_character_57 : decode cX1_character 57 = .ok (.putfield 20, 3) := by decide +kernel
theorem dX1_character_60 : decode cX1_character 60 = .ok (.iinc 3 1, 3) := by decide +kernel
theorem dX1_character_63 : decode cX1_character 63 = .ok (.goto (-32), 3) := by decide +kernel
theorem dX1_character_66 : decode cX1_character 66 = .ok (.iconst 1, 1) := by decide +kernel
theorem dX1_character_67 : decode cX1_character 67 = .ok (.ireturn, 1) := by decide +kernel
set_option maxRecDepth 20000 in
theorem ggX1_sequence_X1_has : GoodIn wsX1_sequence wsX1_has := goodIn_r _ [7, 8, 9, 10] (by decide +kernel) (by decide +kernel)
set_option maxRecDepth 20000 in
theorem gX1_sequence_X1_has : GoodIn wsX1_sequence (va_wsS RX1 33 yX1_has wsX1_has) := goodIn_app (goodIn_of _ (by decide +kernel)) ggX1_sequence_X1_has
set_option maxRecDepth 20000 in
theorem ggX1_sequence_X1_sizeOf : GoodIn wsX1_sequence wsX1_sizeOf := goodIn_r _ [13, 14] (by decide +kernel) (by decide +kernel)
set_option maxRecDepth 20000 in
theorem gX1_sequence_X1_sizeOf : GoodIn wsX1_sequence (va_wsS RX1 29 yX1_sizeOf wsX1_sizeOf) := goodIn_app (goodIn_of _ (by decide +kernel)) ggX1_sequence_X1_sizeOf
theorem dX1_sequence_0 : decode cX1_sequence 0 = .ok (.aload_n 0, 1) := by decide +kernel
theorem dX1_sequence_1 : decode cX1_sequence 1 = .ok (.getfield 13, 3) := by decide +kernel
theorem dX1_sequence_4 : decode cX1_sequence 4 = .ok (.aload_n 0, 1) := by decide +kernel
theorem dX1_sequence_5 : decode cX1_sequence 5 = .ok (.getfield 41, 3) := by decide +kernel
theorem dX1_sequence_8 : decode cX1_sequence 8 = .ok (.iaload, 1) := by decide +kernel
theorem dX1_sequence_9 : decode cX1_sequence 9 = .ok (.istore_n 1, 1) := by decide +kernel
theorem dX1_sequence_10 : decode cX1_sequence 10 = .ok (.iload_n 1, 1) := by decide +kernel
theorem dX1_sequence_11 : decode cX1_sequence 11 = .ok (.sipush 128, 3) := by decide +kernel
theorem dX1_sequence_14 : decode cX1_sequence 14 = .ok (.if_icmp .ge 7, 3) := by decide +kernel
theorem dX1_sequence_17 : decode cX1_sequence 17 = .ok (.iconst 1, 1) := by decide +kernel
theorem dX1_sequence_18 : decode cX1_sequence 18 = .ok (.goto 48, 3) := by decide +kernel
theorem dX1_sequence_21 : decode cX1_sequence 21 = .ok (.iload_n 1, 1) := by decide +kernel
theorem dX1_sequence_22 : decode cX1_sequence 22 = .ok (.sipush 192, 3) := by decide +kernel
theorem dX1_sequence_25 : decode cX1_sequence 25 = .ok (.if_icmp .ge 7, 3) := by decide +kernel
theorem dX1_sequence_28 : decode cX1_sequence 28 = .ok (.iconst 0, 1) := by decide +kernel
theorem dX1_sequence_29 : decode cX1_sequence 29 = .ok (.goto 37, 3) := by decide +kernel
theorem dX1_sequence_32 : decode cX1_sequence 32 = .ok (.iload_n 1, 1) := by decide +kernel
theorem dX1_sequence_33 : decode cX1_sequence 33 = .ok (.sipush 224, 3) := by decide +kernel
theorem dX1_sequence_36 : decode cX1_sequence 36 = .ok (.if_icmp .ge 7, 3) := by decide +kernel
theorem dX1_sequence_39 : decode cX1_sequence 39 = .ok (.iconst 2, 1) := by decide +kernel
theorem dX1_sequence_40 : decode cX1_sequence 40 = .ok (.goto 26, 3) := by decide +kernel
theorem dX1_sequence_43 : decode cX1_sequence 43 = .ok (.iload_n 1, 1) := by decide +kernel
theorem dX1_sequence_44 : decode cX1_sequence 44 = .ok (.sipush 240, 3) := by decide +kernel
theorem dX1_sequence_47 : decode cX1_sequence 47 = .ok (.if_icmp .ge 7, 3) := by decide +kernel
theorem dX1_sequence_50 : decode cX1_sequence 50 = .ok (.iconst 3, 1) := by decide +kernel
theorem dX1_sequence_51 : decode cX1_sequence 51 = .ok (.goto 15, 3) := by decide +kernel
theorem dX1_sequence_54 : decode cX1_sequence 54 = .ok (.iload_n 1, 1) := by decide +kernel
theorem dX1_sequence_55 : decode cX1_sequence 55 = .ok (.sipush 248, 3) := by decide +kernel
theorem dX1_sequence_58 : decode cX1_sequence 58 = .ok (.if_icmp .ge 7, 3) := by decide +kernel
theorem dX1_sequence_61 : decode cX1_sequence 61 = .ok (.iconst 4, 1) := by decide +kernel
theorem dX1_sequence_62 : decode cX1_sequence 62 = .ok (.goto 4, 3) := by decide +kernel
theorem dX1_sequence_65 : decode cX1_sequence 65 = .ok (.iconst 0, 1) := by decide +kernel
theorem dX1_sequence_66 : decode cX1_sequence 66 = .ok (.istore_n 2, 1) := by decide +kernel
theorem dX1_sequence_67 : decode cX1_sequence 67 = .ok (.iload_n 2, 1) := by decide +kernel
theorem dX1_sequence_68 : decode cX1_sequence 68 = .ok (.ifCond .eq 16, 3) := by decide +kernel
theorem dX1_sequence_71 : decode cX1_sequence 71 = .ok (.aload_n 0, 1) := by decide +kernel
theorem dX1_sequence_72 : decode cX1_sequence 72 = .ok (.getfield 41, 3) := by decide +kernel
theorem dX1_sequence_75 : decode cX1_sequence 75 = .ok (.iload_n 2, 1) := by decide +kernel
theorem dX1_sequence_76 : decode cX1_sequence 76 = .ok (.iadd, 1) := by decide +kernel
theorem dX1_sequence_77 : decode cX1_sequence 77 = .ok (.aload_n 0, 1) := by decide +kernel
theorem dX1_sequence_78 : decode cX1_sequence 78 = .ok (.getfield 44, 3) := by decide +kernel
theorem dX1_sequence_81 : decode cX1_sequence 81 = .ok (.if_icmp .le 5, 3) := by decide +kernel
theorem dX1_sequence_84 : decode cX1_sequence 84 = .ok (.iconst (-1), 1) := by decide +kernel
theorem dX1_sequence_85 : decode cX1_sequence 85 = .ok (.ireturn, 1) := by decide +kernel
theorem dX1_sequence_86 : decode cX1_sequence 86 = .ok (.iload_n 2, 1) := by decide +kernel
theorem dX1_sequence_87 : decode cX1_sequence 87 = .ok (.iconst 1, 1) := by decide +kernel
theorem dX1_sequence_88 : decode cX1_sequence 88 = .ok (.if_icmp .ne 7, 3) := by decide +kernel
theorem dX1_sequence_91 : decode cX1_sequence 91 = .ok (.iload_n 1, 1) := by decide +kernel
theorem dX1_sequence_92 : decode cX1_sequence 92 = .ok (.goto 34, 3) := by decide +kernel
theorem dX1_sequence_95 : decode cX1_sequence 95 = .ok (.iload_n 2, 1) := by decide +kernel
theorem dX1_sequence_96 : decode cX1_sequence 96 = .ok (.iconst 2, 1) := by decide +kernel
theorem dX1_sequence_97 : decode cX1_sequence 97 = .ok (.if_icmp .ne 11, 3) := by decide +kernel
theorem dX1_sequence_100 : decode cX1_sequence 100 = .ok (.iload_n 1, 1) := by decide +kernel
theorem dX1_sequence_101 : decode cX1_sequence 101 = .ok (.sipush 192, 3) := by decide +kernel
theorem dX1_sequence_104 : decode cX1_sequence 104 = .ok (.isub, 1) := by decide +kernel
theorem dX1_sequence_105 : decode cX1_sequence 105 = .ok (.goto 21, 3) := by decide +kernel
theorem dX1_sequence_108 : decode cX1_sequence 108 = .ok (.iload_n 2, 1) := by decide +kernel
theorem dX1_sequence_109 : decode cX1_sequence 109 = .ok (.iconst 3, 1) := by decide +kernel
theorem dX1_sequence_110 : decode cX1_sequence 110 = .ok (.if_icmp .ne 11, 3) := by decide +kernel
theorem dX1_sequence_113 : decode cX1_sequence 113 = .ok (.iload_n 1, 1) := by decide +kernel
theorem dX1_sequence_114 : decode cX1_sequence 114 = .ok (.sipush 224, 3) := by decide +kernel
theorem dX1_sequence_117 : decode cX1_sequence 117 = .ok (.isub, 1) := by decide +kernel
theorem dX1_sequence_118 : decode cX1_sequence 118 = .ok (.goto 8, 3) := by decide +kernel
theorem dX1_sequence_121 : decode cX1_sequence 121 = .ok (.iload_n 1, 1) := by decide +kernel
theorem dX1_sequence_122 : decode cX1_sequence 122 = .ok (.sipush 240, 3) := by decide +kernel
theorem dX1_sequence_125 : decode cX1_sequence 125 = .ok (.isub, 1) := by decide +kernel
theorem dX1_sequence_126 : decode cX1_sequence 126 = .ok (.istore_n 3, 1) := by decide +kernel
theorem dX1_sequence_127 : decode cX1_sequence 127 = .ok (.iconst 1, 1) := by decide +kernel
theorem dX1_sequence_128 : decode cX1_sequence 128 = .ok (.istore 4, 2) := by decide +kernel
theorem dX1_sequence_130 : decode cX1_sequence 130 = .ok (.iload 4, 2) := by decide +kernel
theorem dX1_sequence_132 : decode cX1_sequence 132 = .ok (.iload_n 2, 1) := by decide +kernel
theorem dX1_sequence_133 : decode cX1_sequence 133 = .ok (.if_icmp .ge 53, 3) := by decide +kernel
theorem dX1_sequence_136 : decode cX1_sequence 136 = .ok (.aload_n 0, 1) := by decide +kernel
theorem dX1_sequence_137 : decode cX1_sequence 137 = .ok (.getfield 13, 3) := by decide +kernel
theorem dX1_sequence_140 : decode cX1_sequence 140 = .ok (.aload_n 0, 1) := by decide +kernel
theorem dX1_sequence_141 : decode cX1_sequence 141 = .ok (.getfield 41, 3) := by decide +kernel
theorem dX1_sequence_144 : decode cX1_sequence 144 = .ok (.iload 4, 2) := by decide +kernel
theorem dX1_sequence_146 : decode cX1_sequence 146 = .ok (.iadd, 1) := by decide +kernel
theorem dX1_sequence_147 : decode cX1_sequence 147 = .ok (.iaload, 1) := by decide +kernel
theorem dX1_sequence_148 : decode cX1_sequence 148 = .ok (.istore 5, 2) := by decide +kernel
theorem dX1_sequence_150 : decode cX1_sequence 150 = .ok (.iload 5, 2) := by decide +kernel
theorem dX1_sequence_152 : decode cX1_sequence 152 = .ok (.sipush 128, 3) := by decide +kernel
theorem dX1_sequence_155 : decode cX1_sequence 155 = .ok (.if_icmp .lt 11, 3) := by decide +kernel
theorem dX1_sequence_158 : decode cX1_sequence 158 = .ok (.iload 5, 2) := by decide +kernel
theorem dX1_sequence_160 : decode cX1_sequence 160 = .ok (.sipush 191, 3) := by decide +kernel
theorem dX1_sequence_163 : decode cX1_sequence 163 = .ok (.if_icmp .le 5, 3) := by decide +kernel
theorem dX1_sequence_166 : decode cX1_sequence 166 = .ok (.iconst (-1), 1) := by decide +kernel
theorem dX1_sequence_167 : decode cX1_sequence 167 = .ok (.ireturn, 1) := by decide +kernel
theorem dX1_sequence_168 : decode cX1_sequence 168 = .ok (.bipush 64, 2) := by decide +kernel
theorem dX1_sequence_170 : decode cX1_sequence 170 = .ok (.iload_n 3, 1) := by decide +kernel
theorem dX1_sequence_171 : decode cX1_sequence 171 = .ok (.imul, 1) := by decide +kernel
theorem dX1_sequence_172 : decode cX1_sequence 172 = .ok (.iload 5, 2) := by decide +kernel
theorem dX1_sequence_174 : decode cX1_sequence 174 = .ok (.iadd, 1) := by decide +kernel
theorem dX1_sequence_175 : decode cX1_sequence 175 = .ok (.sipush 128, 3) := by decide +kernel
theorem dX1_sequence_178 : decode cX1_sequence 178 = .ok (.isub, 1) := by decide +kernel
theorem dX1_sequence_179 : decode cX1_sequence 179 = .ok (.istore_n 3, 1) := by decide +kernel
theorem dX1_sequence_180 : decode cX1_sequence 180 = .ok (.iinc 4 1, 3) := by decide +kernel
theorem dX1_sequence_183 : decode cX1_sequence 183 = .ok (.goto (-53), 3) := by decide +kernel
theorem dX1_sequence_186 : decode cX1_sequence 186 = .ok (.iload_n 3, 1) := by decide +kernel
theorem dX1_sequence_187 : decode cX1_sequence 187 = .ok (.invokestatic 33, 3) := by decide +kernel
theorem dX1_sequence_190 : decode cX1_sequence 190 = .ok (.ifCond .eq 11, 3) := by decide +kernel
theorem dX1_sequence_193 : decode cX1_sequence 193 = .ok (.iload_n 3, 1) := by decide +kernel
theorem dX1_sequence_194 : decode cX1_sequence 194 = .ok (.invokestatic 29, 3) := by decide +kernel
theorem dX1_sequence_197 : decode cX1_sequence 197 = .ok (.iload_n 2, 1) := by decide +kernel
theorem dX1_sequence_198 : decode cX1_sequence 198 = .ok (.if_icmp .eq 5, 3) := by decide +kernel
theorem dX1_sequence_201 : decode cX1_sequence 201 = .ok (.iconst (-1), 1) := by decide +kernel
theorem dX1_sequence_202 : decode cX1_sequence 202 = .ok (.ireturn, 1) := by decide +kernel
theorem dX1_sequence_203 : decode cX1_sequence 203 = .ok (.aload_n 0, 1) := by decide +kernel
theorem dX1_sequence_204 : decode cX1_sequence 204 = .ok (.aload_n 0, 1) := by decide +kernel
theorem dX1_sequence_205 : decode cX1_sequence 205 = .ok (.getfield 41, 3) := by decide +kernel
theorem dX1_sequence_208 : decode cX1_sequence 208 = .ok (.iload_n 2, 1) := by decide +kernel
theorem dX1_sequence_209 : decode cX1_sequence 209 = .ok (.iadd, 1) := by decide +kernel
theorem dX1_sequence_210 : decode cX1_sequence 210 = .ok (.putfield 41, 3) := by decide +kernel
theorem dX1_sequence_213 : decode cX1_sequence 213 = .ok (.iload_n 3, 1) := by decide +kernel
theorem dX1_sequence_214 : decode cX1_sequence 214 = .ok (.ireturn, 1) := by decide +kernel
theorem dX1_isAllowed_0 : decode cX1_isAllowed 0 = .ok (.iload_n 0, 1) := by decide +kernel
theorem dX1_isAllowed_1 : decode cX1_isAllowed 1 = .ok (.bipush 9, 2) := by decide +kernel
theorem dX1_isAllowed_3 : decode cX1_isAllowed 3 = .ok (.if_icmp .eq 51, 3) := by decide +kernel
theorem dX1_isAllowed_6 : decode cX1_isAllowed 6 = .ok (.iload_n 0, 1) := by decide +kernel
theorem dX1_isAllowed_7 : decode cX1_isAllowed 7 = .ok (.bipush 10, 2) := by decide +kernel
theorem dX1_isAllowed_9 : decode cX1_isAllowed 9 = .ok (.if_icmp .eq 45, 3) := by decide +kernel
theorem dX1_isAllowed_12 : decode cX1_isAllowed 12 = .ok (.iload_n 0, 1) := by decide +kernel
theorem dX1_isAllowed_13 : decode cX1_isAllowed 13 = .ok (.bipush 13, 2) := by decide +kernel
theorem dX1_isAllowed_15 : decode cX1_isAllowed 15 = .ok (.if_icmp .eq 39, 3) := by decide +kernel
theorem dX1_isAllowed_18 : decode cX1_isAllowed 18 = .ok (.iload_n 0, 1) := by decide +kernel
theorem dX1_isAllowed_19 : decode cX1_isAllowed 19 = .ok (.bipush 32, 2) := by decide +kernel
theorem dX1_isAllowed_21 : decode cX1_isAllowed 21 = .ok (.if_icmp .lt 9, 3) := by decide +kernel
theorem dX1_isAllowed_24 : decode cX1_isAllowed 24 = .ok (.iload_n 0, 1) := by decide +kernel
theorem dX1_isAllowed_25 : decode cX1_isAllowed 25 = .ok (.ldc 25, 2) := by decide +kernel
theorem dX1_isAllowed_27 : decode cX1_isAllowed 27 = .ok (.if_icmp .lt 27, 3) := by decide +kernel
theorem dX1_isAllowed_30 : decode cX1_isAllowed 30 = .ok (.iload_n 0, 1) := by decide +kernel
theorem dX1_isAllowed_31 : decode cX1_isAllowed 31 = .ok (.ldc 47, 2) := by decide +kernel
theorem dX1_isAllowed_33 : decode cX1_isAllowed 33 = .ok (.if_icmp .lt 9, 3) := by decide +kernel
theorem dX1_isAllowed_36 : decode cX1_isAllowed 36 = .ok (.iload_n 0, 1) := by decide +kernel
theorem dX1_isAllowed_37 : decode cX1_isAllowed 37 = .ok (.ldc 48, 2) := by decide +kernel
theorem dX1_isAllowed_39 : decode cX1_isAllowed 39 = .ok (.if_icmp .lt 15, 3) := by decide +kernel
theorem dX1_isAllowed_42 : decode cX1_isAllowed 42 = .ok (.iload_n 0, 1) := by decide +kernel
theorem dX1_isAllowed_43 : decode cX1_isAllowed 43 = .ok (.ldc 49, 2) := by decide +kernel
theorem dX1_isAllowed_45 : decode cX1_isAllowed 45 = .ok (.if_icmp .lt 13, 3) := by decide +kernel
theorem dX1_isAllowed_48 : decode cX1_isAllowed 48 = .ok (.iload_n 0, 1) := by decide +kernel
theorem dX1_isAllowed_49 : decode cX1_isAllowed 49 = .ok (.ldc 27, 2) := by decide +kernel
theorem dX1_isAllowed_51 : decode cX1_isAllowed 51 = .ok (.if_icmp .ge 7, 3) := by decide +kernel
theorem dX1_isAllowed_54 : decode cX1_isAllowed 54 = .ok (.iconst 1, 1) := by decide +kernel
theorem dX1_isAllowed_55 : decode cX1_isAllowed 55 = .ok (.goto 4, 3) := by decide +kernel
theorem dX1_isAllowed_58 : decode cX1_isAllowed 58 = .ok (.iconst 0, 1) := by decide +kernel
theorem dX1_isAllowed_59 : decode cX1_isAllowed 59 = .ok (.ireturn, 1) := by decide +kernel
set_option maxRecDepth 20000 in
theorem ggX1_next_X1_sequence : GoodIn wsX1_next wsX1_sequence := goodIn_r _ [10, 3, 1, 2, 11, 12, 9, 13, 14, 15, 16, 17, 18, 19, 20, 21, 22, 23, 24, 25, 26, 27, 28, 29] (by decide +kernel) (by decide +kernel)
set_option maxRecDepth 20000 in
theorem gX1_next_X1_sequence : GoodIn wsX1_next (wsV RX1 53 RX1 yX1_sequence wsX1_sequence) := goodIn_app (goodIn_of _ (by decide +kernel)) ggX1_next_X1_sequence
theorem dX1_next_0 : decode cX1_next 0 = .ok (.aload_n 0, 1) := by decide +kernel
theorem dX1_next_1 : decode cX1_next 1 = .ok (.getfield 41, 3) := by decide +kernel
theorem dX1_next_4 : decode cX1_next 4 = .ok (.ifCond .ne 52, 3) := by decide +kernel
theorem dX1_next_7 : decode cX1_next 7 = .ok (.aload_n 0, 1) := by decide +kernel
theorem dX1_next_8 : decode cX1_next 8 = .ok (.getfield 44, 3) := by decide +kernel
theorem dX1_next_11 : decode cX1_next 11 = .ok (.iconst 2, 1) := by decide +kernel
theorem dX1_next_12 : decode cX1_next 12 = .ok (.if_icmp .le 44, 3) := by decide +kernel
theorem dX1_next_15 : decode cX1_next 15 = .ok (.aload_n 0, 1) := by decide +kernel
theorem dX1_next_16 : decode cX1_next 16 = .ok (.getfield 13, 3) := by decide +kernel
theorem dX1_next_19 : decode cX1_next 19 = .ok (.iconst 0, 1) := by decide +kernel
theorem dX1_next_20 : decode cX1_next 20 = .ok (.iaload, 1) := by decide +kernel
theorem dX1_next_21 : decode cX1_next 21 = .ok (.sipush 239, 3) := by decide +kernel
theorem dX1_next_24 : decode cX1_next 24 = .ok (.if_icmp .ne 32, 3) := by decide +kernel
theorem dX1_next_27 : decode cX1_next 27 = .ok (.aload_n 0, 1) := by decide +kernel
theorem dX1_next_28 : decode cX1_next 28 = .ok (.getfield 13, 3) := by decide +kernel
theorem dX1_next_31 : decode cX1_next 31 = .ok (.iconst 1, 1) := by decide +kernel
theorem dX1_next_32 : decode cX1_next 32 = .ok (.iaload, 1) := by decide +kernel
theorem dX1_next_33 : decode cX1_next 33 = .ok (.sipush 187, 3) := by decide +kernel
theorem dX1_next_36 : decode cX1_next 36 = .ok (.if_icmp .ne 20, 3) := by decide +kernel
theorem dX1_next_39 : decode cX1_next 39 = .ok (.aload_n 0, 1) := by decide +kernel
theorem dX1_next_40 : decode cX1_next 40 = .ok (.getfield 13, 3) := by decide +kernel
theorem dX1_next_43 : decode cX1_next 43 = .ok (.iconst 2, 1) := by decide +kernel
theorem dX1_next_44 : decode cX1_next 44 = .ok (.iaload, 1) := by decide +kernel
theorem dX1_next_45 : decode cX1_next 45 = .ok (.sipush 191, 3) := by decide +kernel
theorem dX1_next_48 : decode cX1_next 48 = .ok (.if_icmp .ne 8, 3) := by decide +kernel
theorem dX1_next_51 : decode cX1_next 51 = .ok (.aload_n 0, 1) := by decide +kernel
theorem dX1_next_52 : decode cX1_next 52 = .ok (.iconst 3, 1) := by decide +kernel
theorem dX1_next_53 : decode cX1_next 53 = .ok (.putfield 41, 3) := by decide +kernel
theorem dX1_next_56 : decode cX1_next 56 = .ok (.aload_n 0, 1) := by decide +kernel
theorem dX1_next_57 : decode cX1_next 57 = .ok (.getfield 41, 3) := by decide +kernel
theorem dX1_next_60 : decode cX1_next 60 = .ok (.aload_n 0, 1) := by decide +kernel
theorem dX1_next_61 : decode cX1_next 61 = .ok (.getfield 44, 3) := by decide +kernel
theorem dX1_next_64 : decode cX1_next 64 = .ok (.if_icmp .lt 5, 3) := by decide +kernel
theorem dX1_next_67 : decode cX1_next 67 = .ok (.iconst 0, 1) := by decide +kernel
theorem dX1_next_68 : decode cX1_next 68 = .ok (.ireturn, 1) := by decide +kernel
theorem dX1_next_69 : decode cX1_next 69 = .ok (.aload_n 0, 1) := by decide +kernel
theorem dX1_next_70 : decode cX1_next 70 = .ok (.aload_n 0, 1) := by decide +kernel
theorem dX1_next_71 : decode cX1_next 71 = .ok (.getfield 41, 3) := by decide +kernel
theorem dX1_next_74 : decode cX1_next 74 = .ok (.putfield 50, 3) := by decide +kernel
theorem dX1_next_77 : decode cX1_next 77 = .ok (.aload_n 0, 1) := by decide +kernel
theorem dX1_next_78 : decode cX1_next 78 = .ok (.aload_n 0, 1) := by decide +kernel
theorem dX1_next_79 : decode cX1_next 79 = .ok (.invokevirtual 53, 3) := by decide +kernel
theorem dX1_next_82 : decode cX1_next 82 = .ok (.putfield 57, 3) := by decide +kernel
theorem dX1_next_85 : decode cX1_next 85 = .ok (.aload_n 0, 1) := by decide +kernel
theorem dX1_next_86 : decode cX1_next 86 = .ok (.getfield 57, 3) := by decide +kernel
theorem dX1_next_89 : decode cX1_next 89 = .ok (.bipush 13, 2) := by decide +kernel
theorem dX1_next_91 : decode cX1_next 91 = .ok (.if_icmp .ne 51, 3) := by decide +kernel
theorem dX1_next_94 : decode cX1_next 94 = .ok (.aload_n 0, 1) := by decide +kernel
theorem dX1_next_95 : decode cX1_next 95 = .ok (.bipush 10, 2) := by decide +kernel
theorem dX1_next_97 : decode cX1_next 97 = .ok (.putfield 57, 3) := by decide +kernel
theorem dX1_next_100 : decode cX1_next 100 = .ok (.aload_n 0, 1) := by decide +kernel
theorem dX1_next_101 : decode cX1_next 101 = .ok (.aload_n 0, 1) := by decide +kernel
theorem dX1_next_102 : decode cX1_next 102 = .ok (.getfield 41, 3) := by decide +kernel
theorem dX1_next_105 : decode cX1_next 105 = .ok (.aload_n 0, 1) := by decide +kernel
theorem dX1_next_106 : decode cX1_next 106 = .ok (.getfield 44, 3) := by decide +kernel
theorem dX1_next_109 : decode cX1_next 109 = .ok (.if_icmp .ge 26, 3) := by decide +kernel
theorem dX1_next_112 : decode cX1_next 112 = .ok (.aload_n 0, 1) := by decide +kernel
theorem dX1_next_113 : decode cX1_next 113 = .ok (.getfield 13, 3) := by decide +kernel
theorem dX1_next_116 : decode cX1_next 116 = .ok (.aload_n 0, 1) := by decide +kernel
theorem dX1_next_117 : decode cX1_next 117 = .ok (.getfield 41, 3) := by decide +kernel
theorem dX1_next_120 : decode cX1_next 120 = .ok (.iaload, 1) := by decide +kernel
theorem dX1_next_121 : decode cX1_next 121 = .ok (.bipush 10, 2) := by decide +kernel
theorem dX1_next_123 : decode cX1_next 123 = .ok (.if_icmp .ne 12, 3) := by decide +kernel
theorem dX1_next_126 : decode cX1_next 126 = .ok (.aload_n 0, 1) := by decide +kernel
theorem dX1_next_127 : decode cX1_next 127 = .ok (.getfield 41, 3) := by decide +kernel
theorem dX1_next_130 : decode cX1_next 130 = .ok (.iconst 1, 1) := by decide +kernel
theorem dX1_next_131 : decode cX1_next 131 = .ok (.iadd, 1) := by decide +kernel
theorem dX1_next_132 : decode cX1_next 132 = .ok (.goto 7, 3) := by decide +kernel
theorem dX1_next_135 : decode cX1_next 135 = .ok (.aload_n 0, 1) := by decide +kernel
theorem dX1_next_136 : decode cX1_next 136 = .ok (.getfield 41, 3) := by decide +kernel
theorem dX1_next_139 : decode cX1_next 139 = .ok (.putfield 41, 3) := by decide +kernel
theorem dX1_next_142 : decode cX1_next 142 = .ok (.iconst 1, 1) := by decide +kernel
theorem dX1_next_143 : decode cX1_next 143 = .ok (.ireturn, 1) := by decide +kernel
set_option maxRecDepth 20000 in
theorem ggX1_read_X1_sequence : GoodIn wsX1_read wsX1_sequence := goodIn_r _ [12, 4, 6, 2, 13, 14, 11, 15, 16, 17, 18, 19, 20, 21, 22, 35, 36, 37, 38, 39, 40, 41, 42, 43] (by decide +kernel) (by decide +kernel)
set_option maxRecDepth 20000 in
theorem gX1_read_X1_sequence : GoodIn wsX1_read (wsV RX1 53 RX1 yX1_sequence wsX1_sequence) := goodIn_app (goodIn_of _ (by decide +kernel)) ggX1_read_X1_sequence
set_option maxRecDepth 20000 in
theorem ggX1_read_X1_isAllowed : GoodIn wsX1_read wsX1_isAllowed := goodIn_r _ [25, 16, 26, 27, 28, 18] (by decide +kernel) (by decide +kernel)
set_option maxRecDepth 20000 in
theorem gX1_read_X1_isAllowed : GoodIn wsX1_read (va_wsS RX1 64 yX1_isAllowed wsX1_isAllowed) := goodIn_app (goodIn_of _ (by decide +kernel)) ggX1_read_X1_isAllowed
set_option maxRecDepth 20000 in
theorem ggX1_read_X1_next : GoodIn wsX1_read wsX1_next := goodIn_r _ [32, 6, 2, 4, 33, 34, 8, 9, 10, 11, 12, 13, 14, 15, 16, 17, 18, 19, 20, 21, 22, 35, 36, 37, 38, 39, 40, 41, 42, 43] (by decide +kernel) (by decide +kernel)
set_option maxRecDepth 20000 in
theorem gX1_read_X1_next : GoodIn wsX1_read (wsV RX1 67 RX1 yX1_next wsX1_next) := goodIn_app (goodIn_of _ (by decide +kernel)) ggX1_read_X1_next
theorem dX1_read_0 : decode cX1_read 0 = .ok (.aload_n 0, 1) := by decide +kernel
theorem dX1_read_1 : decode cX1_read 1 = .ok (.aload_n 0, 1) := by decide +kernel
theorem dX1_read_2 : decode cX1_read 2 = .ok (.getfield 20, 3) := by decide +kernel
theorem dX1_read_5 : decode cX1_read 5 = .ok (.putfield 44, 3) := by decide +kernel
theorem dX1_read_8 : decode cX1_read 8 = .ok (.aload_n 0, 1) := by decide +kernel
theorem dX1_read_9 : decode cX1_read 9 = .ok (.iconst 0, 1) := by decide +kernel
theorem dX1_read_10 : decode cX1_read 10 = .ok (.putfield 20, 3) := by decide +kernel
theorem dX1_read_13 : decode cX1_read 13 = .ok (.aload_n 0, 1) := by decide +kernel
theorem dX1_read_14 : decode cX1_read 14 = .ok (.iconst 0, 1) := by decide +kernel
theorem dX1_read_15 : decode cX1_read 15 = .ok (.putfield 60, 3) := by decide +kernel
theorem dX1_read_18 : decode cX1_read 18 = .ok (.iconst 0, 1) := by decide +kernel
theorem dX1_read_19 : decode cX1_read 19 = .ok (.istore_n 1, 1) := by decide +kernel
theorem dX1_read_20 : decode cX1_read 20 = .ok (.iload_n 1, 1) := by decide +kernel
theorem dX1_read_21 : decode cX1_read 21 = .ok (.aload_n 0, 1) := by decide +kernel
theorem dX1_read_22 : decode cX1_read 22 = .ok (.getfield 44, 3) := by decide +kernel
theorem dX1_read_25 : decode cX1_read 25 = .ok (.if_icmp .ge 21, 3) := by decide +kernel
theorem dX1_read_28 : decode cX1_read 28 = .ok (.aload_n 0, 1) := by decide +kernel
theorem dX1_read_29 : decode cX1_read 29 = .ok (.getfield 13, 3) := by decide +kernel
theorem dX1_read_32 : decode cX1_read 32 = .ok (.iload_n 1, 1) := by decide +kernel
theorem dX1_read_33 : decode cX1_read 33 = .ok (.aload_n 0, 1) := by decide +kernel
theorem dX1_read_34 : decode cX1_read 34 = .ok (.getfield 7, 3) := by decide +kernel
theorem dX1_read_37 : decode cX1_read 37 = .ok (.iload_n 1, 1) := by decide +kernel
theorem dX1_read_38 : decode cX1_read 38 = .ok (.iaload, 1) := by decide +kernel
theorem dX1_read_39 : decode cX1_read 39 = .ok (.iastore, 1) := by decide +kernel
theorem dX1_read_40 : decode cX1_read 40 = .ok (.iinc 1 1, 3) := by decide +kernel
theorem dX1_read_43 : decode cX1_read 43 = .ok (.goto (-23), 3) := by decide +kernel
theorem dX1_read_46 : decode cX1_read 46 = .ok (.aload_n 0, 1) := by decide +kernel
theorem dX1_read_47 : decode cX1_read 47 = .ok (.iconst 0, 1) := by decide +kernel
theorem dX1_read_48 : decode cX1_read 48 = .ok (.putfield 41, 3) := by decide +kernel
theorem dX1_read_51 : decode cX1_read 51 = .ok (.aload_n 0, 1) := by decide +kernel
theorem dX1_read_52 : decode cX1_read 52 = .ok (.getfield 41, 3) := by decide +kernel
theorem dX1_read_55 : decode cX1_read 55 = .ok (.aload_n 0, 1) := by decide +kernel
theorem dX1_read_56 : decode cX1_read 56 = .ok (.getfield 44, 3) := by decide +kernel
theorem dX1_read_59 : decode cX1_read 59 = .ok (.if_icmp .ge 36, 3) := by decide +kernel
theorem dX1_read_62 : decode cX1_read 62 = .ok (.aload_n 0, 1) := by decide +kernel
theorem dX1_read_63 : decode cX1_read 63 = .ok (.aload_n 0, 1) := by decide +kernel
theorem dX1_read_64 : decode cX1_read 64 = .ok (.getfield 41, 3) := by decide +kernel
theorem dX1_read_67 : decode cX1_read 67 = .ok (.putfield 16, 3) := by decide +kernel
end
section
theorem dX1_read_70 : decode cX1_read 70 = .ok (.aload_n 0, 1) := by decide +kernel
theorem dX1_read_71 : decode cX1_read 71 = .ok (.invokevirtual 53, 3) := by decide +kernel
theorem dX1_read_74 : decode cX1_read 74 = .ok (.istore_n 1, 1) := by decide +kernel
theorem dX1_read_75 : decode cX1_read 75 = .ok (.iload_n 1, 1) := by decide +kernel
theorem dX1_read_76 : decode cX1_read 76 = .ok (.ifCond .ge 6, 3) := by decide +kernel
theorem dX1_read_79 : decode cX1_read 79 = .ok (.bipush (-2), 2) := by decide +kernel
theorem dX1_read_81 : decode cX1_read 81 = .ok (.ireturn, 1) := by decide +kernel
theorem dX1_read_82 : decode cX1_read 82 = .ok (.iload_n 1, 1) := by decide +kernel
theorem dX1_read_83 : decode cX1_read 83 = .ok (.invokestatic 64, 3) := by decide +kernel
theorem dX1_read_86 : decode cX1_read 86 = .ok (.ifCond .ne 6, 3) := by decide +kernel
theorem dX1_read_89 : decode cX1_read 89 = .ok (.bipush (-3), 2) := by decide +kernel
theorem dX1_read_91 : decode cX1_read 91 = .ok (.ireturn, 1) := by decide +kernel
theorem dX1_read_92 : decode cX1_read 92 = .ok (.goto (-41), 3) := by decide +kernel
theorem dX1_read_95 : decode cX1_read 95 = .ok (.aload_n 0, 1) := by decide +kernel
theorem dX1_read_96 : decode cX1_read 96 = .ok (.iconst (-1), 1) := by decide +kernel
theorem dX1_read_97 : decode cX1_read 97 = .ok (.putfield 16, 3) := by decide +kernel
theorem dX1_read_100 : decode cX1_read 100 = .ok (.aload_n 0, 1) := by decide +kernel
theorem dX1_read_101 : decode cX1_read 101 = .ok (.iconst 1, 1) := by decide +kernel
theorem dX1_read_102 : decode cX1_read 102 = .ok (.putfield 60, 3) := by decide +kernel
theorem dX1_read_105 : decode cX1_read 105 = .ok (.iconst 0, 1) := by decide +kernel
theorem dX1_read_106 : decode cX1_read 106 = .ok (.istore_n 1, 1) := by decide +kernel
theorem dX1_read_107 : decode cX1_read 107 = .ok (.aload_n 0, 1) := by decide +kernel
theorem dX1_read_108 : decode cX1_read 108 = .ok (.iconst 0, 1) := by decide +kernel
theorem dX1_read_109 : decode cX1_read 109 = .ok (.putfield 41, 3) := by decide +kernel
theorem dX1_read_112 : decode cX1_read 112 = .ok (.aload_n 0, 1) := by decide +kernel
theorem dX1_read_113 : decode cX1_read 113 = .ok (.invokevirtual 67, 3) := by decide +kernel
theorem dX1_read_116 : decode cX1_read 116 = .ok (.ifCond .eq 9, 3) := by decide +kernel
theorem dX1_read_119 : decode cX1_read 119 = .ok (.iinc 1 1, 3) := by decide +kernel
theorem dX1_read_122 : decode cX1_read 122 = .ok (.goto (-10), 3) := by decide +kernel
theorem dX1_read_125 : decode cX1_read 125 = .ok (.iload_n 1, 1) := by decide +kernel
theorem dX1_read_126 : decode cX1_read 126 = .ok (.ireturn, 1) := by decide +kernel
theorem dX1_place_0 : decode cX1_place 0 = .ok (.aload_n 0, 1) := by decide +kernel
theorem dX1_place_1 : decode cX1_place 1 = .ok (.getfield 16, 3) := by decide +kernel
theorem dX1_place_4 : decode cX1_place 4 = .ok (.ireturn, 1) := by decide +kernel
set_option maxRecDepth 20000 in
theorem ggX1_go_X1_next : GoodIn wsX1_go wsX1_next := goodIn_r _ [7, 1, 8, 9, 10, 11, 12, 13, 14, 6, 15, 16, 17, 18, 19, 20, 21, 22, 23, 24, 25, 26, 27, 28, 29, 30, 31, 32, 33, 34] (by decide +kernel) (by decide +kernel)
set_option maxRecDepth 20000 in
theorem gX1_go_X1_next : GoodIn wsX1_go (wsV RX1 67 RX1 yX1_next wsX1_next) := goodIn_app (goodIn_of _ (by decide +kernel)) ggX1_go_X1_next
theorem dX1_go_0 : decode cX1_go 0 = .ok (.aload_n 0, 1) := by decide +kernel
theorem dX1_go_1 : decode cX1_go 1 = .ok (.iconst 0, 1) := by decide +kernel
theorem dX1_go_2 : decode cX1_go 2 = .ok (.putfield 41, 3) := by decide +kernel
theorem dX1_go_5 : decode cX1_go 5 = .ok (.aload_n 0, 1) := by decide +kernel
theorem dX1_go_6 : decode cX1_go 6 = .ok (.getfield 60, 3) := by decide +kernel
theorem dX1_go_9 : decode cX1_go 9 = .ok (.ifCond .eq 11, 3) := by decide +kernel
theorem dX1_go_12 : decode cX1_go 12 = .ok (.iload_n 1, 1) := by decide +kernel
theorem dX1_go_13 : decode cX1_go 13 = .ok (.ifCond .lt 7, 3) := by decide +kernel
theorem dX1_go_16 : decode cX1_go 16 = .ok (.iconst 1, 1) := by decide +kernel
theorem dX1_go_17 : decode cX1_go 17 = .ok (.goto 4, 3) := by decide +kernel
theorem dX1_go_20 : decode cX1_go 20 = .ok (.iconst 0, 1) := by decide +kernel
theorem dX1_go_21 : decode cX1_go 21 = .ok (.istore_n 2, 1) := by decide +kernel
theorem dX1_go_22 : decode cX1_go 22 = .ok (.iconst 0, 1) := by decide +kernel
theorem dX1_go_23 : decode cX1_go 23 = .ok (.istore_n 3, 1) := by decide +kernel
theorem dX1_go_24 : decode cX1_go 24 = .ok (.iload_n 3, 1) := by decide +kernel
theorem dX1_go_25 : decode cX1_go 25 = .ok (.iload_n 1, 1) := by decide +kernel
theorem dX1_go_26 : decode cX1_go 26 = .ok (.if_icmp .gt 18, 3) := by decide +kernel
theorem dX1_go_29 : decode cX1_go 29 = .ok (.iload_n 2, 1) := by decide +kernel
theorem dX1_go_30 : decode cX1_go 30 = .ok (.ifCond .eq 14, 3) := by decide +kernel
theorem dX1_go_33 : decode cX1_go 33 = .ok (.aload_n 0, 1) := by decide +kernel
theorem dX1_go_34 : decode cX1_go 34 = .ok (.invokevirtual 67, 3) := by decide +kernel
theorem dX1_go_37 : decode cX1_go 37 = .ok (.istore_n 2, 1) := by decide +kernel
theorem dX1_go_38 : decode cX1_go 38 = .ok (.iinc 3 1, 3) := by decide +kernel
theorem dX1_go_41 : decode cX1_go 41 = .ok (.goto (-17), 3) := by decide +kernel
theorem dX1_go_44 : decode cX1_go 44 = .ok (.iload_n 2, 1) := by decide +kernel
theorem dX1_go_45 : decode cX1_go 45 = .ok (.ireturn, 1) := by decide +kernel
set_option maxRecDepth 20000 in
theorem ggX1_at_X1_go : GoodIn wsX1_at wsX1_go := goodIn_r _ [6, 7, 8, 9, 10, 11, 5, 12, 13, 14, 15, 1, 16, 17, 18, 19, 20, 21, 22, 23, 24, 25, 26, 27, 28, 29, 30, 31, 32, 33, 34, 35, 36, 37, 38] (by decide +kernel) (by decide +kernel)
set_option maxRecDepth 20000 in
theorem gX1_at_X1_go : GoodIn wsX1_at (wsV RX1 71 RX1 yX1_go wsX1_go) := goodIn_app (goodIn_of _ (by decide +kernel)) ggX1_at_X1_go
theorem dX1_at_0 : decode cX1_at 0 = .ok (.aload_n 0, 1) := by decide +kernel
theorem dX1_at_1 : decode cX1_at 1 = .ok (.iload_n 1, 1) := by decide +kernel
theorem dX1_at_2 : decode cX1_at 2 = .ok (.invokevirtual 71, 3) := by decide +kernel
theorem dX1_at_5 : decode cX1_at 5 = .ok (.ifCond .eq 10, 3) := by decide +kernel
theorem dX1_at_8 : decode cX1_at 8 = .ok (.aload_n 0, 1) := by decide +kernel
theorem dX1_at_9 : decode cX1_at 9 = .ok (.getfield 57, 3) := by decide +kernel
theorem dX1_at_12 : decode cX1_at 12 = .ok (.goto 4, 3) := by decide +kernel
theorem dX1_at_15 : decode cX1_at 15 = .ok (.iconst (-1), 1) := by decide +kernel
theorem dX1_at_16 : decode cX1_at 16 = .ok (.ireturn, 1) := by decide +kernel
theorem dJ6_compare_7cf53_0 : decode cJ6_compare_7cf53 0 = .ok (.iload_n 0, 1) := by decide +kernel
theorem dJ6_compare_7cf53_1 : decode cJ6_compare_7cf53 1 = .ok (.iload_n 1, 1) := by decide +kernel
theorem dJ6_compare_7cf53_2 : decode cJ6_compare_7cf53 2 = .ok (.if_icmp .ge 7, 3) := by decide +kernel
theorem dJ6_compare_7cf53_5 : decode cJ6_compare_7cf53 5 = .ok (.iconst (-1), 1) := by decide +kernel
theorem dJ6_compare_7cf53_6 : decode cJ6_compare_7cf53 6 = .ok (.goto 13, 3) := by decide +kernel
theorem dJ6_compare_7cf53_9 : decode cJ6_compare_7cf53 9 = .ok (.iload_n 0, 1) := by decide +kernel
theorem dJ6_compare_7cf53_10 : decode cJ6_compare_7cf53 10 = .ok (.iload_n 1, 1) := by decide +kernel
theorem dJ6_compare_7cf53_11 : decode cJ6_compare_7cf53 11 = .ok (.if_icmp .ne 7, 3) := by decide +kernel
theorem dJ6_compare_7cf53_14 : decode cJ6_compare_7cf53 14 = .ok (.iconst 0, 1) := by decide +kernel
theorem dJ6_compare_7cf53_15 : decode cJ6_compare_7cf53 15 = .ok (.goto 4, 3) := by decide +kernel
theorem dJ6_compare_7cf53_18 : decode cJ6_compare_7cf53 18 = .ok (.iconst 1, 1) := by decide +kernel
theorem dJ6_compare_7cf53_19 : decode cJ6_compare_7cf53 19 = .ok (.ireturn, 1) := by decide +kernel
set_option maxRecDepth 20000 in
theorem ggL_law_X0_init : GoodIn wsL_law wsX0_init := goodIn_r _ [8, 9, 10, 11, 12, 13, 14, 15, 16, 17, 18, 19, 198, 199, 200, 201, 202, 203, 204] (by decide +kernel) (by decide +kernel)
set_option maxRecDepth 20000 in
theorem gL_law_X0_init : GoodIn wsL_law (wsX0_init) := ggL_law_X0_init
set_option maxRecDepth 20000 in
theorem ggL_law_X1_init : GoodIn wsL_law wsX1_init := goodIn_r _ [22, 23, 10, 11, 12, 24, 25, 26, 205, 206, 207, 208, 209, 210, 211, 212, 213] (by decide +kernel) (by decide +kernel)
set_option maxRecDepth 20000 in
theorem gL_law_X1_init : GoodIn wsL_law (wsX1_init) := ggL_law_X1_init
set_option maxRecDepth 20000 in
theorem ggL_law_X0_put : GoodIn wsL_law wsX0_put := goodIn_r _ [30, 31, 32, 33, 2, 34, 16, 35, 36, 37, 38, 13, 198, 199, 200, 201, 202, 203, 204] (by decide +kernel) (by decide +kernel)
set_option maxRecDepth 20000 in
theorem gL_law_X0_put : GoodIn wsL_law (wsV RL 15 RX0 yX0_put wsX0_put) := goodIn_app (goodIn_of _ (by decide +kernel)) ggL_law_X0_put
set_option maxRecDepth 20000 in
theorem ggL_law_X1_put : GoodIn wsL_law wsX1_put := goodIn_r _ [42, 43, 24, 44, 205, 206, 207, 208, 209, 210, 211, 212, 213] (by decide +kernel) (by decide +kernel)
set_option maxRecDepth 20000 in
theorem gL_law_X1_put : GoodIn wsL_law (wsV RL 19 RX1 yX1_put wsX1_put) := goodIn_app (goodIn_of _ (by decide +kernel)) ggL_law_X1_put
set_option maxRecDepth 20000 in
theorem ggL_law_X0_character : GoodIn wsL_law wsX0_character := goodIn_r _ [48, 49, 50, 2, 51, 52, 53, 54, 55, 31, 32, 33, 34, 16, 56, 57, 58, 59, 60, 61, 35, 36, 37, 38, 13, 198, 199, 200, 201, 202, 203, 204] (by decide +kernel) (by decide +kernel)
set_option maxRecDepth 20000 in
theorem gL_law_X0_character : GoodIn wsL_law (wsV RL 20 RX0 yX0_character wsX0_character) := goodIn_app (goodIn_of _ (by decide +kernel)) ggL_law_X0_character
set_option maxRecDepth 20000 in
theorem ggL_law_X1_character : GoodIn wsL_law wsX1_character := goodIn_r _ [65, 43, 24, 66, 67, 5, 68, 69, 70, 71, 72, 73, 74, 75, 76, 77, 78, 205, 206, 207, 208, 209, 210, 211, 212, 213] (by decide +kernel) (by decide +kernel)
set_option maxRecDepth 20000 in
theorem gL_law_X1_character : GoodIn wsL_law (wsV RL 24 RX1 yX1_character wsX1_character) := goodIn_app (goodIn_of _ (by decide +kernel)) ggL_law_X1_character
set_option maxRecDepth 20000 in
theorem ggL_law_X0_read : GoodIn wsL_law wsX0_read := goodIn_r _ [82, 15, 17, 16, 18, 83, 84, 85, 2, 86, 19, 87, 88, 89, 90, 91, 92, 93, 94, 13, 95, 96, 97, 49, 50, 51, 52, 53, 54, 55, 98, 99, 100, 101, 102, 103, 104, 105, 106, 107, 108, 109, 110, 111, 112, 113, 14, 198, 199, 200, 201, 202, 203, 204] (by decide +kernel) (by decide +kernel)
set_option maxRecDepth 20000 in
theorem gL_law_X0_read : GoodIn wsL_law (wsV RL 25 RX0 yX0_read wsX0_read) := goodIn_app (goodIn_of _ (by decide +kernel)) ggL_law_X0_read
set_option maxRecDepth 20000 in
theorem ggL_law_X1_read : GoodIn wsL_law wsX1_read := goodIn_r _ [117, 43, 118, 119, 25, 24, 120, 26, 121, 122, 123, 5, 124, 66, 67, 68, 69, 70, 71, 72, 73, 74, 75, 125, 126, 127, 128, 129, 130, 131, 132, 133, 134, 135, 136, 205, 206, 207, 208, 209, 210, 211, 212, 213] (by decide +kernel) (by decide +kernel)
set_option maxRecDepth 20000 in
theorem gL_law_X1_read : GoodIn wsL_law (wsV RL 29 RX1 yX1_read wsX1_read) := goodIn_app (goodIn_of _ (by decide +kernel)) ggL_law_X1_read
set_option maxRecDepth 20000 in
theorem ggL_law_X0_place : GoodIn wsL_law wsX0_place := goodIn_r _ [140, 19, 198, 199, 200, 201, 202, 203, 204] (by decide +kernel) (by decide +kernel)
set_option maxRecDepth 20000 in
theorem gL_law_X0_place : GoodIn wsL_law (wsV RL 30 RX0 yX0_place wsX0_place) := goodIn_app (goodIn_of _ (by decide +kernel)) ggL_law_X0_place
set_option maxRecDepth 20000 in
theorem ggL_law_X1_place : GoodIn wsL_law wsX1_place := goodIn_r _ [144, 26, 205, 206, 207, 208, 209, 210, 211, 212, 213] (by decide +kernel) (by decide +kernel)
set_option maxRecDepth 20000 in
theorem gL_law_X1_place : GoodIn wsL_law (wsV RL 33 RX1 yX1_place wsX1_place) := goodIn_app (goodIn_of _ (by decide +kernel)) ggL_law_X1_place
set_option maxRecDepth 20000 in
theorem ggL_law_X0_at : GoodIn wsL_law wsX0_at := goodIn_r _ [148, 14, 149, 150, 151, 2, 152, 17, 198, 199, 200, 201, 202, 203, 204] (by decide +kernel) (by decide +kernel)
set_option maxRecDepth 20000 in
theorem gL_law_X0_at : GoodIn wsL_law (wsV RL 34 RX0 yX0_at wsX0_at) := goodIn_app (goodIn_of _ (by decide +kernel)) ggL_law_X0_at
set_option maxRecDepth 20000 in
theorem ggL_law_X1_at : GoodIn wsL_law wsX1_at := goodIn_r _ [156, 136, 157, 158, 159, 5, 160, 120, 119, 131, 132, 133, 134, 118, 25, 135, 121, 122, 123, 124, 66, 67, 68, 69, 70, 71, 72, 73, 74, 75, 205, 206, 207, 208, 209, 210, 211, 212, 213] (by decide +kernel) (by decide +kernel)
set_option maxRecDepth 20000 in
theorem gL_law_X1_at : GoodIn wsL_law (wsV RL 38 RX1 yX1_at wsX1_at) := goodIn_app (goodIn_of _ (by decide +kernel)) ggL_law_X1_at
set_option maxRecDepth 20000 in
theorem ggL_law_X0_placeOf : GoodIn wsL_law wsX0_placeOf := goodIn_r _ [164, 18, 17, 15, 198, 199, 200, 201, 202, 203, 204] (by decide +kernel) (by decide +kernel)
set_option maxRecDepth 20000 in
theorem gL_law_X0_placeOf : GoodIn wsL_law (wsV RL 39 RX0 yX0_placeOf wsX0_placeOf) := goodIn_app (goodIn_of _ (by decide +kernel)) ggL_law_X0_placeOf
set_option maxRecDepth 20000 in
theorem ggL_law_X0_kind : GoodIn wsL_law wsX0_kind := goodIn_r _ [168, 101, 169, 170, 102, 103, 2, 104, 171, 172, 173, 174] (by decide +kernel) (by decide +kernel)
set_option maxRecDepth 20000 in
theorem gL_law_X0_kind : GoodIn wsL_law (wsV RL 43 RX0 yX0_kind wsX0_kind) := goodIn_app (goodIn_of _ (by decide +kernel)) ggL_law_X0_kind
set_option maxRecDepth 20000 in
theorem ggL_law_X0_run : GoodIn wsL_law wsX0_run := goodIn_r _ [178, 170, 14, 17, 149, 150, 151, 2, 152, 102, 103, 104, 179, 180, 181, 169, 171, 172, 173, 174, 198, 199, 200, 201, 202, 203, 204] (by decide +kernel) (by decide +kernel)
set_option maxRecDepth 20000 in
theorem gL_law_X0_run : GoodIn wsL_law (wsV RL 47 RX0 yX0_run wsX0_run) := goodIn_app (goodIn_of _ (by decide +kernel)) ggL_law_X0_run
set_option maxRecDepth 20000 in
theorem ggL_law_X0_compare : GoodIn wsL_law wsX0_compare := goodIn_r _ [185, 14, 186, 187, 188, 2, 189, 18, 17, 190, 191, 192, 193, 198, 199, 200, 201, 202, 203, 204] (by decide +kernel) (by decide +kernel)
set_option maxRecDepth 20000 in
theorem gL_law_X0_compare : GoodIn wsL_law (wsV RL 52 RX0 yX0_compare wsX0_compare) := goodIn_app (goodIn_of _ (by decide +kernel)) ggL_law_X0_compare
set_option maxRecDepth 20000 in
theorem ggL_law_X0_bytes : GoodIn wsL_law wsX0_bytes := goodIn_r _ [197, 49, 50, 2, 51, 52, 53, 54, 55, 56, 57, 58, 59, 60, 61] (by decide +kernel) (by decide +kernel)
set_option maxRecDepth 20000 in
theorem gL_law_X0_bytes : GoodIn wsL_law (wsV RL 57 RX0 yX0_bytes wsX0_bytes) := goodIn_app (goodIn_of _ (by decide +kernel)) ggL_law_X0_bytes
theorem dL_law_0 : decode cL_law 0 = .ok (.new 7, 3) := by decide +kernel
theorem dL_law_3 : decode cL_law 3 = .ok (.dup, 1) := by decide +kernel
theorem dL_law_4 : decode cL_law 4 = .ok (.invokespecial 9, 3) := by decide +kernel
theorem dL_law_7 : decode cL_law 7 = .ok (.astore_n 1, 1) := by decide +kernel
theorem dL_law_8 : decode cL_law 8 = .ok (.new 10, 3) := by decide +kernel
theorem dL_law_11 : decode cL_law 11 = .ok (.dup, 1) := by decide +kernel
theorem dL_law_12 : decode cL_law 12 = .ok (.invokespecial 12, 3) := by decide +kernel
theorem dL_law_15 : decode cL_law 15 = .ok (.astore_n 2, 1) := by decide +kernel
theorem dL_law_16 : decode cL_law 16 = .ok (.iconst 0, 1) := by decide +kernel
theorem dL_law_17 : decode cL_law 17 = .ok (.istore_n 3, 1) := by decide +kernel
theorem dL_law_18 : decode cL_law 18 = .ok (.iload_n 3, 1) := by decide +kernel
theorem dL_law_19 : decode cL_law 19 = .ok (.aload_n 0, 1) := by decide +kernel
theorem dL_law_20 : decode cL_law 20 = .ok (.arraylength, 1) := by decide +kernel
theorem dL_law_21 : decode cL_law 21 = .ok (.iconst 4, 1) := by decide +kernel
theorem dL_law_22 : decode cL_law 22 = .ok (.isub, 1) := by decide +kernel
theorem dL_law_23 : decode cL_law 23 = .ok (.if_icmp .gt 352, 3) := by decide +kernel
theorem dL_law_26 : decode cL_law 26 = .ok (.aload_n 0, 1) := by decide +kernel
theorem dL_law_27 : decode cL_law 27 = .ok (.iload_n 3, 1) := by decide +kernel
theorem dL_law_28 : decode cL_law 28 = .ok (.iaload, 1) := by decide +kernel
theorem dL_law_29 : decode cL_law 29 = .ok (.bipush 15, 2) := by decide +kernel
theorem dL_law_31 : decode cL_law 31 = .ok (.iand, 1) := by decide +kernel
theorem dL_law_32 : decode cL_law 32 = .ok (.tableswitch 337 0 9 #[56, 119, 142, 155, 168, 191, 214, 237, 270, 313], 56) := by decide +kernel
theorem dL_law_88 : decode cL_law 88 = .ok (.aload_n 1, 1) := by decide +kernel
theorem dL_law_89 : decode cL_law 89 = .ok (.aload_n 0, 1) := by decide +kernel
theorem dL_law_90 : decode cL_law 90 = .ok (.iload_n 3, 1) := by decide +kernel
theorem dL_law_91 : decode cL_law 91 = .ok (.iconst 1, 1) := by decide +kernel
theorem dL_law_92 : decode cL_law 92 = .ok (.iadd, 1) := by decide +kernel
theorem dL_law_93 : decode cL_law 93 = .ok (.iaload, 1) := by decide +kernel
theorem dL_law_94 : decode cL_law 94 = .ok (.i2l, 1) := by decide +kernel
theorem dL_law_95 : decode cL_law 95 = .ok (.bipush 32, 2) := by decide +kernel
theorem dL_law_97 : decode cL_law 97 = .ok (.lshl, 1) := by decide +kernel
theorem dL_law_98 : decode cL_law 98 = .ok (.aload_n 0, 1) := by decide +kernel
theorem dL_law_99 : decode cL_law 99 = .ok (.iload_n 3, 1) := by decide +kernel
theorem dL_law_100 : decode cL_law 100 = .ok (.iconst 2, 1) := by decide +kernel
theorem dL_law_101 : decode cL_law 101 = .ok (.iadd, 1) := by decide +kernel
theorem dL_law_102 : decode cL_law 102 = .ok (.iaload, 1) := by decide +kernel
theorem dL_law_103 : decode cL_law 103 = .ok (.i2l, 1) := by decide +kernel
theorem dL_law_104 : decode cL_law 104 = .ok (.ldc2_w 13, 3) := by decide +kernel
theorem dL_law_107 : decode cL_law 107 = .ok (.land, 1) := by decide +kernel
theorem dL_law_108 : decode cL_law 108 = .ok (.lor, 1) := by decide +kernel
theorem dL_law_109 : decode cL_law 109 = .ok (.aload_n 0, 1) := by decide +kernel
theorem dL_law_110 : decode cL_law 110 = .ok (.iload_n 3, 1) := by decide +kernel
theorem dL_law_111 : decode cL_law 111 = .ok (.iconst 3, 1) := by decide +kernel
theorem dL_law_112 : decode cL_law 112 = .ok (.iadd, 1) := by decide +kernel
theorem dL_law_113 : decode cL_law 113 = .ok (.iaload, 1) := by decide +kernel
theorem dL_law_114 : decode cL_law 114 = .ok (.invokevirtual 15, 3) := by decide +kernel
theorem dL_law_117 : decode cL_law 117 = .ok (.aload_n 2, 1) := by decide +kernel
theorem dL_law_118 : decode cL_law 118 = .ok (.aload_n 0, 1) := by decide +kernel
theorem dL_law_119 : decode cL_law 119 = .ok (.iload_n 3, 1) := by decide +kernel
theorem dL_law_120 : decode cL_law 120 = .ok (.iconst 1, 1) := by decide +kernel
theorem dL_law_121 : decode cL_law 121 = .ok (.iadd, 1) := by decide +kernel
theorem dL_law_122 : decode cL_law 122 = .ok (.iaload, 1) := by decide +kernel
theorem dL_law_123 : decode cL_law 123 = .ok (.i2l, 1) := by decide +kernel
theorem dL_law_124 : decode cL_law 124 = .ok (.bipush 32, 2) := by decide +kernel
theorem dL_law_126 : decode cL_law 126 = .ok (.lshl, 1) := by decide +kernel
theorem dL_law_127 : decode cL_law 127 = .ok (.aload_n 0, 1) := by decide +kernel
theorem dL_law_128 : decode cL_law 128 = .ok (.iload_n 3, 1) := by decide +kernel
theorem dL_law_129 : decode cL_law 129 = .ok (.iconst 2, 1) := by decide +kernel
theorem dL_law_130 : decode cL_law 130 = .ok (.iadd, 1) := by decide +kernel
theorem dL_law_131 : decode cL_law 131 = .ok (.iaload, 1) := by decide +kernel
theorem dL_law_132 : decode cL_law 132 = .ok (.i2l, 1) := by decide +kernel
theorem dL_law_133 : decode cL_law 133 = .ok (.ldc2_w 13, 3) := by decide +kernel
theorem dL_law_136 : decode cL_law 136 = .ok (.land, 1) := by decide +kernel
theorem dL_law_137 : decode cL_law 137 = .ok (.lor, 1) := by decide +kernel
theorem dL_law_138 : decode cL_law 138 = .ok (.aload_n 0, 1) := by decide +kernel
theorem dL_law_139 : decode cL_law 139 = .ok (.iload_n 3, 1) := by decide +kernel
theorem dL_law_140 : decode cL_law 140 = .ok (.iconst 3, 1) := by decide +kernel
theorem dL_law_141 : decode cL_law 141 = .ok (.iadd, 1) := by decide +kernel
theorem dL_law_142 : decode cL_law 142 = .ok (.iaload, 1) := by decide +kernel
theorem dL_law_143 : decode cL_law 143 = .ok (.invokevirtual 19, 3) := by decide +kernel
theorem dL_law_146 : decode cL_law 146 = .ok (.if_icmp .eq 223, 3) := by decide +kernel
theorem dL_law_149 : decode cL_law 149 = .ok (.iconst 0, 1) := by decide +kernel
theorem dL_law_150 : decode cL_law 150 = .ok (.ireturn, 1) := by decide +kernel
theorem dL_law_151 : decode cL_law 151 = .ok (.aload_n 1, 1) := by decide +kernel
theorem dL_law_152 : decode cL_law 152 = .ok (.aload_n 0, 1) := by decide +kernel
theorem dL_law_153 : decode cL_law 153 = .ok (.iload_n 3, 1) := by decide +kernel
theorem dL_law_154 : decode cL_law 154 = .ok (.iconst 1, 1) := by decide +kernel
theorem dL_law_155 : decode cL_law 155 = .ok (.iadd, 1) := by decide +kernel
theorem dL_law_156 : decode cL_law 156 = .ok (.iaload, 1) := by decide +kernel
theorem dL_law_157 : decode cL_law 157 = .ok (.invokevirtual 20, 3) := by decide +kernel
theorem dL_law_160 : decode cL_law 160 = .ok (.aload_n 2, 1) := by decide +kernel
theorem dL_law_161 : decode cL_law 161 = .ok (.aload_n 0, 1) := by decide +kernel
theorem dL_law_162 : decode cL_law 162 = .ok (.iload_n 3, 1) := by decide +kernel
theorem dL_law_163 : decode cL_law 163 = .ok (.iconst 1, 1) := by decide +kernel
theorem dL_law_164 : decode cL_law 164 = .ok (.iadd, 1) := by decide +kernel
theorem dL_law_165 : decode cL_law 165 = .ok (.iaload, 1) := by decide +kernel
theorem dL_law_166 : decode cL_law 166 = .ok (.invokevirtual 24, 3) := by decide +kernel
theorem dL_law_169 : decode cL_law 169 = .ok (.if_icmp .eq 200, 3) := by decide +kernel
theorem dL_law_172 : decode cL_law 172 = .ok (.iconst 0, 1) := by decide +kernel
theorem dL_law_173 : decode cL_law 173 = .ok (.ireturn, 1) := by decide +kernel
theorem dL_law_174 : decode cL_law 174 = .ok (.aload_n 1, 1) := by decide +kernel
theorem dL_law_175 : decode cL_law 175 = .ok (.invokevirtual 25, 3) := by decide +kernel
theorem dL_law_178 : decode cL_law 178 = .ok (.aload_n 2, 1) := by decide +kernel
theorem dL_law_179 : decode cL_law 179 = .ok (.invokevirtual 29, 3) := by decide +kernel
theorem dL_law_182 : decode cL_law 182 = .ok (.if_icmp .eq 187, 3) := by decide +kernel
theorem dL_law_185 : decode cL_law 185 = .ok (.iconst 0, 1) := by decide +kernel
theorem dL_law_186 : decode cL_law 186 = .ok (.ireturn, 1) := by decide +kernel
theorem dL_law_187 : decode cL_law 187 = .ok (.aload_n 1, 1) := by decide +kernel
theorem dL_law_188 : decode cL_law 188 = .ok (.invokevirtual 30, 3) := by decide +kernel
theorem dL_law_191 : decode cL_law 191 = .ok (.aload_n 2, 1) := by decide +kernel
theorem dL_law_192 : decode cL_law 192 = .ok (.invokevirtual 33, 3) := by decide +kernel
theorem dL_law_195 : decode cL_law 195 = .ok (.if_icmp .eq 174, 3) := by decide +kernel
theorem dL_law_198 : decode cL_law 198 = .ok (.iconst 0, 1) := by decide +kernel
theorem dL_law_199 : decode cL_law 199 = .ok (.ireturn, 1) := by decide +kernel
theorem dL_law_200 : decode cL_law 200 = .ok (.aload_n 1, 1) := by decide +kernel
theorem dL_law_201 : decode cL_law 201 = .ok (.aload_n 0, 1) := by decide +kernel
theorem dL_law_202 : decode cL_law 202 = .ok (.iload_n 3, 1) := by decide +kernel
theorem dL_law_203 : decode cL_law 203 = .ok (.iconst 1, 1) := by decide +kernel
theorem dL_law_204 : decode cL_law 204 = .ok (.iadd, 1) := by decide +kernel
theorem dL_law_205 : decode cL_law 205 = .ok (.iaload, 1) := by decide +kernel
theorem dL_law_206 : decode cL_law 206 = .ok (.invokevirtual 34, 3) := by decide +kernel
theorem dL_law_209 : decode cL_law 209 = .ok (.aload_n 2, 1) := by decide +kernel
theorem dL_law_210 : decode cL_law 210 = .ok (.aload_n 0, 1) := by decide +kernel
theorem dL_law_211 : decode cL_law 211 = .ok (.iload_n 3, 1) := by decide +kernel
theorem dL_law_212 : decode cL_law 212 = .ok (.iconst 1, 1) := by decide +kernel
theorem dL_law_213 : decode cL_law 213 = .ok (.iadd, 1) := by decide +kernel
theorem dL_law_214 : decode cL_law 214 = .ok (.iaload, 1) := by decide +kernel
theorem dL_law_215 : decode cL_law 215 = .ok (.invokevirtual 38, 3) := by decide +kernel
theorem dL_law_218 : decode cL_law 218 = .ok (.if_icmp .eq 151, 3) := by decide +kernel
theorem dL_law_221 : decode cL_law 221 = .ok (.iconst 0, 1) := by decide +kernel
theorem dL_law_222 : decode cL_law 222 = .ok (.ireturn, 1) := by decide +kernel
theorem dL_law_223 : decode cL_law 223 = .ok (.aload_n 1, 1) := by decide +kernel
theorem dL_law_224 : decode cL_law 224 = .ok (.aload_n 0, 1) := by decide +kernel
theorem dL_law_225 : decode cL_law 225 = .ok (.iload_n 3, 1) := by decide +kernel
theorem dL_law_226 : decode cL_law 226 = .ok (.iconst 1, 1) := by decide +kernel
theorem dL_law_227 : decode cL_law 227 = .ok (.iadd, 1) := by decide +kernel
theorem dL_law_228 : decode cL_law 228 = .ok (.iaload, 1) := by decide +kernel
theorem dL_law_229 : decode cL_law 229 = .ok (.invokevirtual 39, 3) := by decide +kernel
theorem dL_law_232 : decode cL_law 232 = .ok (.aload_n 2, 1) := by decide +kernel
theorem dL_law_233 : decode cL_law 233 = .ok (.aload_n 0, 1) := by decide +kernel
theorem dL_law_234 : decode cL_law 234 = .ok (.iload_n 3, 1) := by decide +kernel
theorem dL_law_235 : decode cL_law 235 = .ok (.iconst 1, 1) := by decide +kernel
theorem dL_law_236 : decode cL_law 236 = .ok (.iadd, 1) := by decide +kernel
theorem dL_law_237 : decode cL_law 237 = .ok (.iaload, 1) := by decide +kernel
theorem dL_law_238 : decode cL_law 238 = .ok (.invokevirtual 42, 3) := by decide +kernel
theorem dL_law_241 : decode cL_law 241 = .ok (.if_icmp .eq 128, 3) := by decide +kernel
theorem dL_law_244 : decode cL_law 244 = .ok (.iconst 0, 1) := by decide +kernel
theorem dL_law_245 : decode cL_law 245 = .ok (.ireturn, 1) := by decide +kernel
theorem dL_law_246 : decode cL_law 246 = .ok (.aload_n 1, 1) := by decide +kernel
theorem dL_law_247 : decode cL_law 247 = .ok (.aload_n 0, 1) := by decide +kernel
theorem dL_law_248 : decode cL_law 248 = .ok (.iload_n 3, 1) := by decide +kernel
theorem dL_law_249 : decode cL_law 249 = .ok (.iconst 1, 1) := by decide +kernel
theorem dL_law_250 : decode cL_law 250 = .ok (.iadd, 1) := by decide +kernel
theorem dL_law_251 : decode cL_law 251 = .ok (.iaload, 1) := by decide +kernel
theorem dL_law_252 : decode cL_law 252 = .ok (.invokevirtual 43, 3) := by decide +kernel
theorem dL_law_255 : decode cL_law 255 = .ok (.aload_n 2, 1) := by decide +kernel
theorem dL_law_256 : decode cL_law 256 = .ok (.aload_n 0, 1) := by decide +kernel
theorem dL_law_257 : decode cL_law 257 = .ok (.iload_n 3, 1) := by decide +kernel
theorem dL_law_258 : decode cL_law 258 = .ok (.iconst 1, 1) := by decide +kernel
theorem dL_law_259 : decode cL_law 259 = .ok (.iadd, 1) := by decide +kernel
theorem dL_law_260 : decode cL_law 260 = .ok (.iaload, 1) := by decide +kernel
theorem dL_law_261 : decode cL_law 261 = .ok (.invokevirtual 46, 3) := by decide +kernel
theorem dL_law_264 : decode cL_law 264 = .ok (.if_icmp .eq 105, 3) := by decide +kernel
theorem dL_law_267 : decode cL_law 267 = .ok (.iconst 0, 1) := by decide +kernel
theorem dL_law_268 : decode cL_law 268 = .ok (.ireturn, 1) := by decide +kernel
theorem dL_law_269 : decode cL_law 269 = .ok (.aload_n 1, 1) := by decide +kernel
theorem dL_law_270 : decode cL_law 270 = .ok (.aload_n 0, 1) := by decide +kernel
theorem dL_law_271 : decode cL_law 271 = .ok (.iload_n 3, 1) := by decide +kernel
theorem dL_law_272 : decode cL_law 272 = .ok (.iconst 1, 1) := by decide +kernel
theorem dL_law_273 : decode cL_law 273 = .ok (.iadd, 1) := by decide +kernel
theorem dL_law_274 : decode cL_law 274 = .ok (.iaload, 1) := by decide +kernel
theorem dL_law_275 : decode cL_law 275 = .ok (.aload_n 0, 1) := by decide +kernel
theorem dL_law_276 : decode cL_law 276 = .ok (.iload_n 3, 1) := by decide +kernel
theorem dL_law_277 : decode cL_law 277 = .ok (.iconst 2, 1) := by decide +kernel
theorem dL_law_278 : decode cL_law 278 = .ok (.iadd, 1) := by decide +kernel
theorem dL_law_279 : decode cL_law 279 = .ok (.iaload, 1) := by decide +kernel
theorem dL_law_280 : decode cL_law 280 = .ok (.invokevirtual 47, 3) := by decide +kernel
theorem dL_law_283 : decode cL_law 283 = .ok (.aload_n 2, 1) := by decide +kernel
theorem dL_law_284 : decode cL_law 284 = .ok (.aload_n 0, 1) := by decide +kernel
theorem dL_law_285 : decode cL_law 285 = .ok (.iload_n 3, 1) := by decide +kernel
theorem dL_law_286 : decode cL_law 286 = .ok (.iconst 1, 1) := by decide +kernel
theorem dL_law_287 : decode cL_law 287 = .ok (.iadd, 1) := by decide +kernel
theorem dL_law_288 : decode cL_law 288 = .ok (.iaload, 1) := by decide +kernel
theorem dL_law_289 : decode cL_law 289 = .ok (.aload_n 0, 1) := by decide +kernel
theorem dL_law_290 : decode cL_law 290 = .ok (.iload_n 3, 1) := by decide +kernel
theorem dL_law_291 : decode cL_law 291 = .ok (.iconst 2, 1) := by decide +kernel
theorem dL_law_292 : decode cL_law 292 = .ok (.iadd, 1) := by decide +kernel
theorem dL_law_293 : decode cL_law 293 = .ok (.iaload, 1) := by decide +kernel
theorem dL_law_294 : decode cL_law 294 = .ok (.invokevirtual 51, 3) := by decide +kernel
theorem dL_law_297 : decode cL_law 297 = .ok (.if_icmp .eq 72, 3) := by decide +kernel
theorem dL_law_300 : decode cL_law 300 = .ok (.iconst 0, 1) := by decide +kernel
theorem dL_law_301 : decode cL_law 301 = .ok (.ireturn, 1) := by decide +kernel
theorem dL_law_302 : decode cL_law 302 = .ok (.aload_n 1, 1) := by decide +kernel
theorem dL_law_303 : decode cL_law 303 = .ok (.aload_n 0, 1) := by decide +kernel
theorem dL_law_304 : decode cL_law 304 = .ok (.iload_n 3, 1) := by decide +kernel
theorem dL_law_305 : decode cL_law 305 = .ok (.iconst 1, 1) := by decide +kernel
theorem dL_law_306 : decode cL_law 306 = .ok (.iadd, 1) := by decide +kernel
theorem dL_law_307 : decode cL_law 307 = .ok (.iaload, 1) := by decide +kernel
theorem dL_law_308 : decode cL_law 308 = .ok (.aload_n 0, 1) := by decide +kernel
theorem dL_law_309 : decode cL_law 309 = .ok (.iload_n 3, 1) := by decide +kernel
theorem dL_law_310 : decode cL_law 310 = .ok (.iconst 2, 1) := by decide +kernel
theorem dL_law_311 : decode cL_law 311 = .ok (.iadd, 1) := by decide +kernel
theorem dL_law_312 : decode cL_law 312 = .ok (.iaload, 1) := by decide +kernel
theorem dL_law_313 : decode cL_law 313 = .ok (.aload_n 0, 1) := by decide +kernel
theorem dL_law_314 : decode cL_law 314 = .ok (.iload_n 3, 1) := by decide +kernel
theorem dL_law_315 : decode cL_law 315 = .ok (.iconst 3, 1) := by decide +kernel
theorem dL_law_316 : decode cL_law 316 = .ok (.iadd, 1) := by decide +kernel
theorem dL_law_317 : decode cL_law 317 = .ok (.iaload, 1) := by decide +kernel
theorem dL_law_318 : decode cL_law 318 = .ok (.invokevirtual 52, 3) := by decide +kernel
theorem dL_law_321 : decode cL_law 321 = .ok (.aload_n 2, 1) := by decide +kernel
theorem dL_law_322 : decode cL_law 322 = .ok (.aload_n 0, 1) := by decide +kernel
theorem dL_law_323 : decode cL_law 323 = .ok (.iload_n 3, 1) := by decide +kernel
theorem dL_law_324 : decode cL_law 324 = .ok (.iconst 1, 1) := by decide +kernel
theorem dL_law_325 : decode cL_law 325 = .ok (.iadd, 1) := by decide +kernel
theorem dL_law_326 : decode cL_law 326 = .ok (.iaload, 1) := by decide +kernel
theorem dL_law_327 : decode cL_law 327 = .ok (.aload_n 0, 1) := by decide +kernel
theorem dL_law_328 : decode cL_law 328 = .ok (.iload_n 3, 1) := by decide +kernel
theorem dL_law_329 : decode cL_law 329 = .ok (.iconst 2, 1) := by decide +kernel
theorem dL_law_330 : decode cL_law 330 = .ok (.iadd, 1) := by decide +kernel
theorem dL_law_331 : decode cL_law 331 = .ok (.iaload, 1) := by decide +kernel
theorem dL_law_332 : decode cL_law 332 = .ok (.aload_n 0, 1) := by decide +kernel
theorem dL_law_333 : decode cL_law 333 = .ok (.iload_n 3, 1) := by decide +kernel
theorem dL_law_334 : decode cL_law 334 = .ok (.iconst 3, 1) := by decide +kernel
theorem dL_law_335 : decode cL_law 335 = .ok (.iadd, 1) := by decide +kernel
theorem dL_law_336 : decode cL_law 336 = .ok (.iaload, 1) := by decide +kernel
theorem dL_law_337 : decode cL_law 337 = .ok (.invokevirtual 56, 3) := by decide +kernel
theorem dL_law_340 : decode cL_law 340 = .ok (.if_icmp .eq 29, 3) := by decide +kernel
theorem dL_law_343 : decode cL_law 343 = .ok (.iconst 0, 1) := by decide +kernel
theorem dL_law_344 : decode cL_law 344 = .ok (.ireturn, 1) := by decide +kernel
theorem dL_law_345 : decode cL_law 345 = .ok (.aload_n 1, 1) := by decide +kernel
theorem dL_law_346 : decode cL_law 346 = .ok (.aload_n 0, 1) := by decide +kernel
theorem dL_law_347 : decode cL_law 347 = .ok (.iload_n 3, 1) := by decide +kernel
theorem dL_law_348 : decode cL_law 348 = .ok (.iconst 1, 1) := by decide +kernel
theorem dL_law_349 : decode cL_law 349 = .ok (.iadd, 1) := by decide +kernel
theorem dL_law_350 : decode cL_law 350 = .ok (.iaload, 1) := by decide +kernel
theorem dL_law_351 : decode cL_law 351 = .ok (.invokevirtual 57, 3) := by decide +kernel
theorem dL_law_354 : decode cL_law 354 = .ok (.aload_n 2, 1) := by decide +kernel
theorem dL_law_355 : decode cL_law 355 = .ok (.aload_n 0, 1) := by decide +kernel
theorem dL_law_356 : decode cL_law 356 = .ok (.iload_n 3, 1) := by decide +kernel
theorem dL_law_357 : decode cL_law 357 = .ok (.iconst 1, 1) := by decide +kernel
theorem dL_law_358 : decode cL_law 358 = .ok (.iadd, 1) := by decide +kernel
theorem dL_law_359 : decode cL_law 359 = .ok (.iaload, 1) := by decide +kernel
theorem dL_law_360 : decode cL_law 360 = .ok (.invokevirtual 61, 3) := by decide +kernel
theorem dL_law_363 : decode cL_law 363 = .ok (.lcmp, 1) := by decide +kernel
theorem dL_law_364 : decode cL_law 364 = .ok (.ifCond .eq 5, 3) := by decide +kernel
theorem dL_law_367 : decode cL_law 367 = .ok (.iconst 0, 1) := by decide +kernel
theorem dL_law_368 : decode cL_law 368 = .ok (.ireturn, 1) := by decide +kernel
theorem dL_law_369 : decode cL_law 369 = .ok (.iinc 3 4, 3) := by decide +kernel
theorem dL_law_372 : decode cL_law 372 = .ok (.goto (-354), 3) := by decide +kernel
theorem dL_law_375 : decode cL_law 375 = .ok (.iconst 1, 1) := by decide +kernel
theorem dL_law_376 : decode cL_law 376 = .ok (.ireturn, 1) := by decide +kernel
end
section
/-! What a CharDesk is: its cells, its tables, and the functions that its methods compute (written as the code has them). -/
def bI (b : Bool) : Int32 := if b then 1 else 0
theorem bI_t : bI true = 1 := rfl
theorem bI_f : bI false = 0 := rfl
theorem bI_0 {b : Bool} (h : bI b = 0) : ¬ b = true := by
  cases b with
  | true => exact absurd h (by decide)
  | false => decide
theorem bI_n0 {b : Bool} (h : ¬ bI b = 0) : b = true := by
  cases b with
  | true => rfl
  | false => exact absurd rfl h
theorem bI_nar (b : Bool) : narrow .boolean (.int (bI b)) = .int (bI b) := by cases b <;> rfl
theorem bI_fit (b : Bool) : fits .boolean (.int (bI b)) = true := by cases b <;> rfl
theorem nI_cl3 {fo : Nat} (h : fo ≤ 1000) : (nI fo).toNatClampNeg = fo := nI_clamp (by omega)
theorem tb_T {ty : FieldType} {t N : Nat} {f : Nat → Value} {A : Nat → Prop} {s U : State} {H : Heap} {locs : List Loc} (h : va_T ty t N f A s s.heap) (hS : va_S A s.heap H locs) (hU : U.heap = H) (hW : s.WarmedH U.vm) : va_T ty t N f (fun _ => False) U U.heap := by
  rw [hU]
  exact (va_T.moved hW.alike (h.kept (fun a h1 h2 => hS.2.1 a h1 h2))).narrow (fun _ q => q.elim)
theorem va_cAeq {dC : Nat → ClassId} {dI : Nat → Nat → Nat} {cl : List vw_C} {a b : ClassId} {s : State} (hK : va_K (dC, dI) cl [(a, .int), (b, .int)] s) : a = b := by
  have h0 := (hK.2 0 _ rfl).2
  have h1 := (hK.2 1 _ rfl).2
  exact Option.some.inj (h0.symm.trans h1)
-- the tables
def fAL : Nat → Int32 := fun j => ([9, 10, 13, 13, 32, 55295, 57344, 65533, 65536, 1114111] : List Int32).getD j 0
def fBL : Nat → Int32 := fun j => ([32, 32, 9, 10, 13, 13] : List Int32).getD j 0
def fNB : Nat → Int32 := fun j => ([58, 58, 95, 95, 65, 90, 97, 122, 192, 214, 216, 246, 248, 767, 880, 893, 895, 8191, 8204, 8205, 8304, 8591, 11264, 12271, 12289, 55295, 63744, 64975, 65008, 65533, 65536, 983039] : List Int32).getD j 0
def fFN : Nat → Int32 := fun j => ([45, 46, 48, 57, 183, 183, 768, 879, 8255, 8256] : List Int32).getD j 0
def xtab (t0 t1 t2 t3 : Nat) (A : Nat → Prop) (U : State) (H : Heap) : Prop :=
  va_Z RX0 "ALLOWED" "[I" (.ref t0) A U H ∧ va_T .int t0 10 (fun j => .int (fAL j)) A U H ∧
  va_Z RX0 "BLANKS" "[I" (.ref t1) A U H ∧ va_T .int t1 6 (fun j => .int (fBL j)) A U H ∧
  va_Z RX0 "NAME_BEGINS" "[I" (.ref t2) A U H ∧ va_T .int t2 32 (fun j => .int (fNB j)) A U H ∧
  va_Z RX0 "FURTHER_NAME_PARTS" "[I" (.ref t3) A U H ∧ va_T .int t3 10 (fun j => .int (fFN j)) A U H
theorem xtab_moved {t0 t1 t2 t3 : Nat} {A : Nat → Prop} {u U : State} {H : Heap} (hvm : u.vm.Alike U.vm) (h : xtab t0 t1 t2 t3 A u H) : xtab t0 t1 t2 t3 A U H := by
  obtain ⟨a, b, c, d, e, f, g, i⟩ := h
  exact ⟨a.moved hvm, b.moved hvm, c.moved hvm, d.moved hvm, e.moved hvm, f.moved hvm, g.moved hvm, i.moved hvm⟩
theorem xtab_kept {t0 t1 t2 t3 : Nat} {A : Nat → Prop} {U : State} {H H1 : Heap} (h : xtab t0 t1 t2 t3 A U H) (q : ∀ a : Nat, a < H.size → ¬ A a → H1[a]? = H[a]?) : xtab t0 t1 t2 t3 A U H1 := by
  obtain ⟨a, b, c, d, e, f, g, i⟩ := h
  exact ⟨a.kept q, b.kept q, c.kept q, d.kept q, e.kept q, f.kept q, g.kept q, i.kept q⟩
theorem xtab_narrow {t0 t1 t2 t3 : Nat} {A B : Nat → Prop} {U : State} {H : Heap} (h : xtab t0 t1 t2 t3 A U H) (q : ∀ a, B a → A a) : xtab t0 t1 t2 t3 B U H := by
  obtain ⟨a, b, c, d, e, f, g, i⟩ := h
  exact ⟨a.narrow q, b.narrow q, c.narrow q, d.narrow q, e.narrow q, f.narrow q, g.narrow q, i.narrow q⟩
theorem xtab_call {t0 t1 t2 t3 : Nat} {A A1 : Nat → Prop} {s U : State} {H : Heap} {locs : List Loc} (h : xtab t0 t1 t2 t3 A s s.heap) (hS : va_S A s.heap H locs) (hU : U.heap = H) (hW : s.WarmedH U.vm) (q : ∀ a, A1 a → A a) : xtab t0 t1 t2 t3 A1 U U.heap := by
  rw [hU]
  exact xtab_narrow (xtab_moved hW.alike (xtab_kept h (fun a h1 h2 => hS.2.1 a h1 h2))) q
theorem xtab_blind {t0 t1 t2 t3 : Nat} {A : Nat → Prop} {av : List Value} : FrameBlind (va_Pc av (fun U => xtab t0 t1 t2 t3 A U U.heap)) :=
  fun a U g mk q => ⟨q.1, xtab_moved (u := U) (U := U.calling g mk a) (Vm.Alike.refl U.vm) q.2⟩
-- the object
abbrev XS : Type := (Nat → Int32) × Nat × (Nat → Int32) × (Nat → Int32) × Nat × Bool × Int32
def xw (h0 h1 h2 h3 : Nat) (cA : ClassId) (u : XS) : va_W := [(h0, .inr (0, [.ref h1, .int (nI u.2.1), .ref h2, .ref h3, .int (nI u.2.2.2.2.1), .int (bI u.2.2.2.2.2.1), .int u.2.2.2.2.2.2])), (h1, .inl (cA, 1000, .inl u.1)), (h2, .inl (cA, 1000, .inl u.2.2.1)), (h3, .inl (cA, 1001, .inl u.2.2.2.1))]
def xpre (dC : Nat → ClassId) (dI : Nat → Nat → Nat) (h0 h1 h2 h3 : Nat) (cA : ClassId) (t0 t1 t2 t3 : Nat) (u : XS) (U : State) : Prop :=
  va_P (dC, dI) vwCl (xw h0 h1 h2 h3 cA u) U.heap ∧ va_K (dC, dI) vwCl [(cA, .int)] U ∧ xtab t0 t1 t2 t3 (fun _ => False) U U.heap
theorem xpre_blind {dC : Nat → ClassId} {dI : Nat → Nat → Nat} {h0 h1 h2 h3 : Nat} {cA : ClassId} {t0 t1 t2 t3 : Nat} {u : XS} {av : List Value} : FrameBlind (va_Pc av (fun U => xpre dC dI h0 h1 h2 h3 cA t0 t1 t2 t3 u U)) :=
  fun a U g mk q => ⟨q.1, q.2.1, va_K.moved (u := U) (U := U.calling g mk a) (Vm.Alike.refl U.vm) q.2.2.1, xtab_moved (u := U) (U := U.calling g mk a) (Vm.Alike.refl U.vm) q.2.2.2⟩
theorem xpre_of {dC : Nat → ClassId} {dI : Nat → Nat → Nat} {h0 h1 h2 h3 : Nat} {cA : ClassId} {t0 t1 t2 t3 : Nat} {u : XS} {A : Nat → Prop} {s U : State} {H : Heap} {locs : List Loc} (hP : va_P (dC, dI) vwCl (xw h0 h1 h2 h3 cA u) H) (hK : va_K (dC, dI) vwCl [(cA, .int)] s) (hT : xtab t0 t1 t2 t3 A s s.heap) (hS : va_S A s.heap H locs) (hU : U.heap = H) (hW : s.WarmedH U.vm) : xpre dC dI h0 h1 h2 h3 cA t0 t1 t2 t3 u U :=
  ⟨by rw [hU]; exact hP, va_K.moved hW.alike hK, xtab_call hT hS hU hW (fun _ q => q.elim)⟩
def xmut (dC : Nat → ClassId) (dI : Nat → Nat → Nat) (h0 h1 h2 h3 : Nat) (cA : ClassId) (t0 t1 t2 t3 sz : Nat) (u : XS) (U : State) : Prop :=
  U.heap.size = sz ∧ va_P (dC, dI) vwCl (xw h0 h1 h2 h3 cA u) U.heap ∧ va_K (dC, dI) vwCl [(cA, .int)] U ∧ va_D (fun _ => True) (xw h0 h1 h2 h3 cA u) ∧ xtab t0 t1 t2 t3 (va_A (xw h0 h1 h2 h3 cA u) sz) U U.heap
theorem xmut_blind {dC : Nat → ClassId} {dI : Nat → Nat → Nat} {h0 h1 h2 h3 : Nat} {cA : ClassId} {t0 t1 t2 t3 sz : Nat} {u : XS} {av : List Value} : FrameBlind (va_Pc av (fun U => xmut dC dI h0 h1 h2 h3 cA t0 t1 t2 t3 sz u U)) :=
  fun a U g mk q => ⟨q.1, q.2.1, q.2.2.1, va_K.moved (u := U) (U := U.calling g mk a) (Vm.Alike.refl U.vm) q.2.2.2.1, q.2.2.2.2.1, xtab_moved (u := U) (U := U.calling g mk a) (Vm.Alike.refl U.vm) q.2.2.2.2.2⟩
theorem xmut_of {dC : Nat → ClassId} {dI : Nat → Nat → Nat} {h0 h1 h2 h3 : Nat} {cA : ClassId} {t0 t1 t2 t3 : Nat} {u : XS} {A : Nat → Prop} {s U : State} {H : Heap} {locs : List Loc} (hP : va_P (dC, dI) vwCl (xw h0 h1 h2 h3 cA u) H) (hK : va_K (dC, dI) vwCl [(cA, .int)] s) (hD : va_D A (xw h0 h1 h2 h3 cA u)) (hT : xtab t0 t1 t2 t3 A s s.heap) (hS : va_S A s.heap H locs) (hF : ∀ q, va_A (xw h0 h1 h2 h3 cA u) H.size q → A q) (hU : U.heap = H) (hW : s.WarmedH U.vm) : xmut dC dI h0 h1 h2 h3 cA t0 t1 t2 t3 H.size u U :=
  ⟨by rw [hU], by rw [hU]; exact hP, va_K.moved hW.alike hK, hD.weaken (fun _ _ _ _ => trivial), xtab_call hT hS hU hW hF⟩
def xatt (dC : Nat → ClassId) (dI : Nat → Nat → Nat) (h0 h1 h2 h3 : Nat) (cA : ClassId) (A : Nat → Prop) (u : XS) (t : State) : Prop :=
  va_P (dC, dI) vwCl (xw h0 h1 h2 h3 cA u) t.heap ∧ va_K (dC, dI) vwCl [(cA, .int)] t ∧ va_D A (xw h0 h1 h2 h3 cA u)
def xatt0 (dC : Nat → ClassId) (dI : Nat → Nat → Nat) (h0 : Nat) (A : Nat → Prop) (u : XS) (t : State) : Prop :=
  ∃ (h1 h2 h3 : Nat) (cA : ClassId), xatt dC dI h0 h1 h2 h3 cA A u t
-- the functions
def xW2 (v : Int32) : Int32 := if 127 < v then (if 2047 < v then (if 65535 < v then 4 else 3) else 2) else 1
def xWidth (v : Int32) : Int32 := if v < 0 then 0 else if 1114111 < v then 0 else if v < 55296 then xW2 v else if 57343 < v then xW2 v else 0
def xFol (v : Int32) : Int32 := if 128 ≤ v then (if v &&& 224 = 192 then 1 else if v &&& 240 = 224 then 2 else if v &&& 248 = 240 then 3 else -1) else 0
def xMark (v : Int32) : Int32 := if v = 2 then 192 else if v = 3 then 224 else if v = 4 then 240 else 0
def xEnc (v wd j : Int32) : Int32 := if j ≤ 0 then xMark wd ||| (v >>> ((6 * (wd - 1 - j)) &&& 31)) else 128 ||| ((v >>> ((6 * (wd - 1 - j)) &&& 31)) &&& 63)
def xIn (f : Nat → Int32) (v : Int32) : Nat → Bool
  | 0 => false
  | n + 1 => xIn f v n || (decide (f (2 * n) ≤ v) && decide (v ≤ f (2 * n + 1)))
theorem xIn_lo {f : Nat → Int32} {v : Int32} {j : Nat} (h : xIn f v j = false) (c : v < f (2 * j)) : xIn f v (j + 1) = false := by
  rw [xIn, h, decide_eq_false (Int32.not_le.mpr c)]; rfl
theorem xIn_hi {f : Nat → Int32} {v : Int32} {j : Nat} (h : xIn f v j = false) (c : f (2 * j + 1) < v) : xIn f v (j + 1) = false := by
  rw [xIn, h, decide_eq_false (Int32.not_le.mpr c), Bool.and_false]; rfl
theorem xIn_hit {f : Nat → Int32} {v : Int32} {j M : Nat} (hj : j < M) (c1 : ¬ v < f (2 * j)) (c2 : ¬ f (2 * j + 1) < v) : xIn f v M = true := by
  induction M with
  | zero => omega
  | succ M ih =>
    rw [xIn]
    rcases Nat.lt_or_ge j M with h | h
    · rw [ih h]; rfl
    · obtain rfl : j = M := by omega
      rw [decide_eq_true (Int32.not_lt.mp c1), decide_eq_true (Int32.not_lt.mp c2)]
      simp
def xNP (v : Int32) : Bool := if xIn fNB v 16 then true else if xIn fFN v 5 then true else false
def xBel (kd v : Int32) : Bool := if kd = 0 then xNP v else if kd = 1 then xNP v else if kd = 2 then xIn fBL v 3 else false
def xFault (v : Int32) : Int32 := if v = -1 then 1 else if xIn fAL v 5 then 0 else 2
def xRoom (n : Nat) (i : Int32) : Bool := if 1000 - nI n < i then false else true
def xHas (k : Nat) (i : Int32) : Bool := if i < 0 then false else if nI k ≤ i then false else true
def xStr (rd : Bool) (k : Nat) (i q : Int32) : Bool := if rd then (if q < 0 then false else if i < 0 then false else if nI k - q < i then false else true) else false
def xAt (ch : Nat → Int32) (k : Nat) (i : Int32) : Int32 := if xHas k i then ch i.toNatClampNeg else -1
def xPlc (rd : Bool) (pl : Nat → Int32) (k : Nat) (i : Int32) : Int32 := if rd then (if i < 0 then -1 else if i ≤ nI k then pl i.toNatClampNeg else -1) else -1
def xKind (v : Int32) : Int32 := (if xIn fAL v 5 then 1 else 0) + (if xIn fBL v 3 then 2 else 0) + (if xIn fNB v 16 then 4 else 0) + (if xNP v then 8 else 0)
def xLeft (tx : Nat → Int32) (v : Int32) (fr : Nat) : Bool := if nI fr = 0 then (if v = 65279 then true else false) else (if v = 10 then (if tx (fr - 1) = 13 then true else false) else false)
def xDl (tx : Nat → Int32) (fr : Nat) : Nat → Nat → Int32 → Option Int32
  | 0, _, acc => some acc
  | d + 1, q, acc => if tx (fr + q) &&& 192 = 128 then xDl tx fr d (q + 1) ((acc <<< (6 &&& 31)) ||| (tx (fr + q) &&& 63)) else none
def xDecE (o : Option Int32) (fo : Int32) : Int32 := match o with
  | none => -1
  | some v => if xWidth v = fo + 1 then v else -1
def xDec (tx : Nat → Int32) (n fr : Nat) : Int32 :=
  if xFol (tx fr) < 0 then -1 else if fr + (xFol (tx fr)).toNatClampNeg < n then xDecE (xDl tx fr (xFol (tx fr)).toNatClampNeg 1 (if xFol (tx fr) = 0 then tx fr else tx fr &&& (63 >>> (xFol (tx fr) &&& 31)))) (xFol (tx fr)) else -1
def runEnd (P : Nat → Bool) : Nat → Nat → Nat
  | 0, j => j
  | d + 1, j => if P j then runEnd P d (j + 1) else j
def xRun (ch : Nat → Int32) (k : Nat) (kd i : Int32) : Int32 :=
  if xHas k i then (if kd = 0 then (if xIn fNB (ch i.toNatClampNeg) 16 then nI (runEnd (fun z => xBel kd (ch z)) (k - i.toNatClampNeg) i.toNatClampNeg - i.toNatClampNeg) else 0) else nI (runEnd (fun z => xBel kd (ch z)) (k - i.toNatClampNeg) i.toNatClampNeg - i.toNatClampNeg)) else 0
def xIcmp (a b : Int32) : Int32 := if b ≤ a then (if a = b then 0 else 1) else -1
def cmpAt (f g : Nat → Int32) : Nat → Nat → Int32
  | 0, _ => 0
  | d + 1, z => if f z = g z then cmpAt f g d (z + 1) else if f z < g z then -1 else 1
theorem cmpAt_eq {f g : Nat → Int32} {d z : Nat} (c : xIcmp (f z) (g z) = 0) : cmpAt f g (d + 1) z = cmpAt f g d (z + 1) := by
  unfold xIcmp at c
  split at c
  · split at c
    · rename_i h; rw [cmpAt, if_pos h]
    · exact absurd c (by decide)
  · exact absurd c (by decide)
theorem cmpAt_gt {f g : Nat → Int32} {d z : Nat} (c1 : ¬ xIcmp (f z) (g z) = 0) (c2 : 0 ≤ xIcmp (f z) (g z)) : 1 = cmpAt f g (d + 1) z := by
  by_cases h1 : g z ≤ f z
  · by_cases h2 : f z = g z
    · exact absurd (by rw [xIcmp, if_pos h1, if_pos h2]) c1
    · rw [cmpAt, if_neg h2, if_neg (Int32.not_lt.mpr h1)]
  · rw [xIcmp, if_neg h1] at c2; exact absurd c2 (by decide)
theorem cmpAt_lt {f g : Nat → Int32} {d z : Nat} (c1 : ¬ xIcmp (f z) (g z) = 0) (c2 : ¬ 0 ≤ xIcmp (f z) (g z)) : -1 = cmpAt f g (d + 1) z := by
  by_cases h1 : g z ≤ f z
  · by_cases h2 : f z = g z
    · exact absurd (by rw [xIcmp, if_pos h1, if_pos h2]) c1
    · exact absurd (by rw [xIcmp, if_pos h1, if_neg h2]; decide) c2
  · have h3 : ¬ f z = g z := fun q => h1 (by rw [q]; exact Int32.le_refl _)
    rw [cmpAt, if_neg h3, if_pos (Int32.not_le.mp h1)]
def xCmp (ch : Nat → Int32) (rd : Bool) (k : Nat) (i j q : Int32) : Int32 :=
  if xStr rd k i q then (if xStr rd k j q then cmpAt (fun y => ch (i.toNatClampNeg + y)) (fun y => ch (j.toNatClampNeg + y)) q.toNatClampNeg 0 else -2) else -2
def xPk (v wd : Int32) : Nat → Int64
  | 0 => wd.toInt64 <<< ((56 : Int32).toInt64 &&& 63)
  | j + 1 => xPk v wd j ||| ((xEnc v wd (nI j)).toInt64 <<< ((48 - 8 * nI j : Int32).toInt64 &&& 63))
def xBytes (v : Int32) : Int64 := xPk v (xWidth v) (xWidth v).toNatClampNeg
def xPb (v : Int64) (m : Nat) : Int32 := ((v.toUInt64 >>> ((8 * nI m : Int32).toInt64.toUInt64 &&& Int64.toUInt64 63)).toInt64).toInt32 &&& 255
def putTx (tx : Nat → Int32) (n : Nat) (g : Nat → Int32) : Nat → (Nat → Int32)
  | 0 => tx
  | i + 1 => upd (putTx tx n g i) (n + i) (g i)
def xPutOk (n : Nat) (q : Int32) : Bool := if q < 1 then false else if 8 < q then false else xRoom n q
def xChOk (n : Nat) (v : Int32) : Bool := if xWidth v = 0 then false else xRoom n (xWidth v)
abbrev XR : Type := Int32 × (Nat → Int32) × (Nat → Int32) × Nat × Int32
def xRt (tx : Nat → Int32) (n : Nat) : Nat → Nat → (Nat → Int32) → (Nat → Int32) → Nat → Nat → Int32 → XR
  | 0, _, ch, pl, k, _, fp => (0, ch, pl, k, fp)
  | d + 1, fr, ch, pl, k, nx, fp =>
    if fr < nx then xRt tx n d (fr + 1) ch pl k nx fp
    else if xFault (xDec tx n fr) = 0 then
      (if xLeft tx (xDec tx n fr) fr then xRt tx n d (fr + 1) ch pl k (fr + (xWidth (xDec tx n fr)).toNatClampNeg) fp
       else xRt tx n d (fr + 1) (upd ch k (if xDec tx n fr = 13 then 10 else xDec tx n fr)) (upd pl k (nI fr)) (k + 1) (fr + (xWidth (xDec tx n fr)).toNatClampNeg) fp)
    else (xFault (xDec tx n fr), ch, pl, k, nI fr)
theorem xRt_k (tx : Nat → Int32) (n : Nat) : ∀ (d fr : Nat) (ch pl : Nat → Int32) (k nx : Nat) (fp : Int32), (xRt tx n d fr ch pl k nx fp).2.2.2.1 ≤ k + d := by
  intro d
  induction d with
  | zero => intro fr ch pl k nx fp; exact Nat.le_refl _
  | succ d ih =>
    intro fr ch pl k nx fp
    rw [xRt]
    split
    · exact Nat.le_trans (ih _ _ _ _ _ _) (by omega)
    · split
      · split
        · exact Nat.le_trans (ih _ _ _ _ _ _) (by omega)
        · exact Nat.le_trans (ih _ _ _ _ _ _) (by omega)
      · exact Nat.le_add_right _ _
def xRead (R : XR) : Int32 := if R.1 = 0 then nI R.2.2.2.1 else -1 - R.1
def xReadU (tx : Nat → Int32) (n : Nat) (R : XR) : XS := if R.1 = 0 then (tx, 0, R.2.1, upd R.2.2.1 R.2.2.2.1 (nI n), R.2.2.2.1, true, R.2.2.2.2) else (tx, 0, R.2.1, R.2.2.1, 0, false, R.2.2.2.2)
-- small facts
theorem xHas_of {k : Nat} {i : Int32} (hk : k ≤ 1000) (h : xHas k i = true) : ∃ j, j < k ∧ i = nI j := by
  unfold xHas at h
  split at h
  · exact absurd h (by decide)
  · rename_i h1
    split at h
    · exact absurd h (by decide)
    · rename_i h2
      rcases pk_ix i (n := k) (by omega) with q | q | q
      · exact absurd q h1
      · exact absurd q h2
      · exact q
theorem xHas_in {k N : Nat} {i : Int32} (hk : k ≤ 1000) (h : xHas k i = true) (hN : decide (1000 ≤ N ∧ N ≤ 100000) = true) : vp_in i N := by
  obtain ⟨j, hj, rfl⟩ := xHas_of hk h
  have hN := of_decide_eq_true hN
  exact vp_in_nI (by omega) (by omega)
theorem xPl_in {k : Nat} {i : Int32} (hk : k ≤ 1000) (h1 : ¬ i < 0) (h2 : i ≤ nI k) : vp_in i 1001 := by
  obtain ⟨j, hj, rfl⟩ := nI_of h1
  have := (nI_leI hj (by omega)).mp h2
  exact vp_in_nI (by omega) (by omega)
theorem xWidth_nat (v : Int32) : ∃ wd : Nat, wd ≤ 4 ∧ xWidth v = nI wd := by
  have h2 : ∃ wd : Nat, wd ≤ 4 ∧ xW2 v = nI wd := by
    unfold xW2
    split
    · split
      · split
        · exact ⟨4, by decide, rfl⟩
        · exact ⟨3, by decide, rfl⟩
      · exact ⟨2, by decide, rfl⟩
    · exact ⟨1, by decide, rfl⟩
  unfold xWidth
  split
  · exact ⟨0, by decide, rfl⟩
  · split
    · exact ⟨0, by decide, rfl⟩
    · split
      · exact h2
      · split
        · exact h2
        · exact ⟨0, by decide, rfl⟩
theorem xFol_nat {v : Int32} (h : ¬ xFol v < 0) : ∃ fo : Nat, fo ≤ 3 ∧ xFol v = nI fo := by
  unfold xFol at h ⊢
  split
  · rename_i h1
    rw [if_pos h1] at h
    split
    · exact ⟨1, by decide, rfl⟩
    · rename_i h2
      rw [if_neg h2] at h
      split
      · exact ⟨2, by decide, rfl⟩
      · rename_i h3
        rw [if_neg h3] at h
        split
        · exact ⟨3, by decide, rfl⟩
        · rename_i h4
          rw [if_neg h4] at h
          exact absurd (by decide) h
  · exact ⟨0, by decide, rfl⟩
theorem xRoom_ok {n q : Nat} (h : n + q ≤ 1000) : xRoom n (nI q) = true := by
  have e : (1000 : Int32) - nI n = nI (1000 - n) := pk_sub (a := 1000) (by omega)
  rw [xRoom, e, if_neg (nI_nlt (by omega) (by omega))]
theorem xRoom_no {n : Nat} {q : Nat} (hn : n ≤ 1000) (hq : q ≤ 1000) (h : 1000 < n + q) : xRoom n (nI q) = false := by
  have e : (1000 : Int32) - nI n = nI (1000 - n) := pk_sub (a := 1000) (by omega)
  rw [xRoom, e, if_pos (nI_lt (by omega) (by omega))]
theorem sub_toInt {k q : Nat} (hk : k < 2 ^ 31) (hq : q < 2 ^ 31) : (nI k - nI q).toInt = (k : Int) - q := by
  rw [Int32.toInt_sub, nI_toInt hk, nI_toInt hq]
  exact Int.bmod_eq_of_le (by omega) (by omega)
theorem xStr_of {rd : Bool} {k : Nat} {i q : Int32} (hk : k ≤ 1000) (h : xStr rd k i q = true) : ∃ a q' : Nat, a + q' ≤ k ∧ i = nI a ∧ q = nI q' := by
  unfold xStr at h
  split at h
  · split at h
    · exact absurd h (by decide)
    · rename_i h1
      split at h
      · exact absurd h (by decide)
      · rename_i h2
        split at h
        · exact absurd h (by decide)
        · rename_i h3
          obtain ⟨q', hq', rfl⟩ := nI_of h1
          obtain ⟨a, ha, rfl⟩ := nI_of h2
          rw [Int32.lt_iff_toInt_lt, sub_toInt (by omega) hq', nI_toInt ha] at h3
          exact ⟨a, q', by omega, rfl, rfl⟩
  · exact absurd h (by decide)
end
section
set_option maxHeartbeats 4000000 in
set_option maxRecDepth 100000 in
/-- widthOf -/
theorem c_X0_widthOf (l : Launch) (v : Int32) : Met l yX0_widthOf wsX0_widthOf ({ frames := 0, cells := 0, slots := 0, locals := 0 }) (va_Pc [.int v] (fun U => True)) (vp_Si (fun r => r = xWidth v)) 0 0 (fun _ => False) := by
  refine Met.ofW (cc := cX0_widthOf) (maxL := 1) (ret := (some .int)) (by decide) rfl ?_
  intro p e s m args below meth c s₁ B hml hv
  obtain ⟨rfl, -⟩ := hv
  have hx := B.exec
  have hb := B.bytes
  have hr := B.returns
  have hts := atoms_spec (ws := wsX0_widthOf) B.pre
  have hown : s.vm.findClass RX0 = some m.cls := findClass_of_methodNamed B.named
  have hS : va_S (fun _ => False) s.heap s.heap [] := va_S.rf
  have hl := lv_entry ([.int v]) (n := 1) (Nat.le_of_ble_eq_true rfl)
  rw [lg_entry_eq]
  generalize (lg_sl ([.int v]) ++ List.replicate (1 - (lg_sl ([.int v])).length) Slot.unset).toArray = ls at hl ⊢
  have hl : lv_has ls 1 [(0, .int v)] := hl
  refine lv_iload_n hx hb dX0_widthOf_0 rfl (lv_at hl 0 rfl) ?_
  refine lv_if_lt (tgt := 22) hx hb dX0_widthOf_1 (by decide) (fun c_1 => ?_) (fun c_1 => ?_)
  · refine lv_iconst (v := 0) hx hb dX0_widthOf_22 (by decide) ?_
    exact W.iret (v := 0) hx hb hr (fun t ht hW => ⟨0, rfl, by first | (simp only [xWidth, xW2, if_pos c_1, bI_t, bI_f]; done) | (simp only [xWidth, xW2, if_pos c_1, bI_t, bI_f]; rfl), ht⟩) hS.2.2 dX0_widthOf_23
  · refine lv_iload_n hx hb dX0_widthOf_4 rfl (lv_at hl 0 rfl) ?_
    refine lv_ldc (own := RX0) (v := 1114111) hx hb hown (hts (.constant RX0 105 1114111) (by decide +kernel)) dX0_widthOf_5 ?_
    refine lv_icmp_gt (tgt := 22) hx hb dX0_widthOf_7 (by decide) (fun c_2 => ?_) (fun c_2 => ?_)
    · refine lv_iconst (v := 0) hx hb dX0_widthOf_22 (by decide) ?_
      exact W.iret (v := 0) hx hb hr (fun t ht hW => ⟨0, rfl, by first | (simp only [xWidth, xW2, if_neg c_1, if_pos c_2, bI_t, bI_f]; done) | (simp only [xWidth, xW2, if_neg c_1, if_pos c_2, bI_t, bI_f]; rfl), ht⟩) hS.2.2 dX0_widthOf_23
    · refine lv_iload_n hx hb dX0_widthOf_10 rfl (lv_at hl 0 rfl) ?_
      refine lv_ldc (own := RX0) (v := 55296) hx hb hown (hts (.constant RX0 106 55296) (by decide +kernel)) dX0_widthOf_11 ?_
      refine lv_icmp_lt (tgt := 24) hx hb dX0_widthOf_13 (by decide) (fun c_3 => ?_) (fun c_3 => ?_)
      · refine lv_iload_n hx hb dX0_widthOf_24 rfl (lv_at hl 0 rfl) ?_
        refine lv_bipush (v := 127) hx hb dX0_widthOf_25 (by decide) ?_
        refine lv_icmp_gt (tgt := 32) hx hb dX0_widthOf_27 (by decide) (fun c_4 => ?_) (fun c_4 => ?_)
        · refine lv_iload_n hx hb dX0_widthOf_32 rfl (lv_at hl 0 rfl) ?_
          refine lv_sipush (v := 2047) hx hb dX0_widthOf_33 (by decide) ?_
          refine lv_icmp_gt (tgt := 41) hx hb dX0_widthOf_36 (by decide) (fun c_5 => ?_) (fun c_5 => ?_)
          · refine lv_iload_n hx hb dX0_widthOf_41 rfl (lv_at hl 0 rfl) ?_
            refine lv_ldc (own := RX0) (v := 65535) hx hb hown (hts (.constant RX0 108 65535) (by decide +kernel)) dX0_widthOf_42 ?_
            refine lv_icmp_gt (tgt := 51) hx hb dX0_widthOf_44 (by decide) (fun c_6 => ?_) (fun c_6 => ?_)
            · refine lv_iconst (v := 4) hx hb dX0_widthOf_51 (by decide) ?_
              exact W.iret (v := 4) hx hb hr (fun t ht hW => ⟨4, rfl, by first | (simp only [xWidth, xW2, if_neg c_1, if_neg c_2, if_pos c_3, if_pos c_4, if_pos c_5, if_pos c_6, bI_t, bI_f]; done) | (simp only [xWidth, xW2, if_neg c_1, if_neg c_2, if_pos c_3, if_pos c_4, if_pos c_5, if_pos c_6, bI_t, bI_f]; rfl), ht⟩) hS.2.2 dX0_widthOf_52
            · refine lv_iconst (v := 3) hx hb dX0_widthOf_47 (by decide) ?_
              refine lv_goto (tgt := 52) hx hb dX0_widthOf_48 (by decide) ?_
              exact W.iret (v := 3) hx hb hr (fun t ht hW => ⟨3, rfl, by first | (simp only [xWidth, xW2, if_neg c_1, if_neg c_2, if_pos c_3, if_pos c_4, if_pos c_5, if_neg c_6, bI_t, bI_f]; done) | (simp only [xWidth, xW2, if_neg c_1, if_neg c_2, if_pos c_3, if_pos c_4, if_pos c_5, if_neg c_6, bI_t, bI_f]; rfl), ht⟩) hS.2.2 dX0_widthOf_52
          · refine lv_iconst (v := 2) hx hb dX0_widthOf_39 (by decide) ?_
            exact W.iret (v := 2) hx hb hr (fun t ht hW => ⟨2, rfl, by first | (simp only [xWidth, xW2, if_neg c_1, if_neg c_2, if_pos c_3, if_pos c_4, if_neg c_5, bI_t, bI_f]; done) | (simp only [xWidth, xW2, if_neg c_1, if_neg c_2, if_pos c_3, if_pos c_4, if_neg c_5, bI_t, bI_f]; rfl), ht⟩) hS.2.2 dX0_widthOf_40
        · refine lv_iconst (v := 1) hx hb dX0_widthOf_30 (by decide) ?_
          exact W.iret (v := 1) hx hb hr (fun t ht hW => ⟨1, rfl, by first | (simp only [xWidth, xW2, if_neg c_1, if_neg c_2, if_pos c_3, if_neg c_4, bI_t, bI_f]; done) | (simp only [xWidth, xW2, if_neg c_1, if_neg c_2, if_pos c_3, if_neg c_4, bI_t, bI_f]; rfl), ht⟩) hS.2.2 dX0_widthOf_31
      · refine lv_iload_n hx hb dX0_widthOf_16 rfl (lv_at hl 0 rfl) ?_
        refine lv_ldc (own := RX0) (v := 57343) hx hb hown (hts (.constant RX0 107 57343) (by decide +kernel)) dX0_widthOf_17 ?_
        refine lv_icmp_gt (tgt := 24) hx hb dX0_widthOf_19 (by decide) (fun c_7 => ?_) (fun c_7 => ?_)
        · refine lv_iload_n hx hb dX0_widthOf_24 rfl (lv_at hl 0 rfl) ?_
          refine lv_bipush (v := 127) hx hb dX0_widthOf_25 (by decide) ?_
          refine lv_icmp_gt (tgt := 32) hx hb dX0_widthOf_27 (by decide) (fun c_8 => ?_) (fun c_8 => ?_)
          · refine lv_iload_n hx hb dX0_widthOf_32 rfl (lv_at hl 0 rfl) ?_
            refine lv_sipush (v := 2047) hx hb dX0_widthOf_33 (by decide) ?_
            refine lv_icmp_gt (tgt := 41) hx hb dX0_widthOf_36 (by decide) (fun c_9 => ?_) (fun c_9 => ?_)
            · refine lv_iload_n hx hb dX0_widthOf_41 rfl (lv_at hl 0 rfl) ?_
              refine lv_ldc (own := RX0) (v := 65535) hx hb hown (hts (.constant RX0 108 65535) (by decide +kernel)) dX0_widthOf_42 ?_
              refine lv_icmp_gt (tgt := 51) hx hb dX0_widthOf_44 (by decide) (fun c_10 => ?_) (fun c_10 => ?_)
              · refine lv_iconst (v := 4) hx hb dX0_widthOf_51 (by decide) ?_
                exact W.iret (v := 4) hx hb hr (fun t ht hW => ⟨4, rfl, by first | (simp only [xWidth, xW2, if_neg c_1, if_neg c_2, if_neg c_3, if_pos c_7, if_pos c_8, if_pos c_9, if_pos c_10, bI_t, bI_f]; done) | (simp only [xWidth, xW2, if_neg c_1, if_neg c_2, if_neg c_3, if_pos c_7, if_pos c_8, if_pos c_9, if_pos c_10, bI_t, bI_f]; rfl), ht⟩) hS.2.2 dX0_widthOf_52
              · refine lv_iconst (v := 3) hx hb dX0_widthOf_47 (by decide) ?_
                refine lv_goto (tgt := 52) hx hb dX0_widthOf_48 (by decide) ?_
                exact W.iret (v := 3) hx hb hr (fun t ht hW => ⟨3, rfl, by first | (simp only [xWidth, xW2, if_neg c_1, if_neg c_2, if_neg c_3, if_pos c_7, if_pos c_8, if_pos c_9, if_neg c_10, bI_t, bI_f]; done) | (simp only [xWidth, xW2, if_neg c_1, if_neg c_2, if_neg c_3, if_pos c_7, if_pos c_8, if_pos c_9, if_neg c_10, bI_t, bI_f]; rfl), ht⟩) hS.2.2 dX0_widthOf_52
            · refine lv_iconst (v := 2) hx hb dX0_widthOf_39 (by decide) ?_
              exact W.iret (v := 2) hx hb hr (fun t ht hW => ⟨2, rfl, by first | (simp only [xWidth, xW2, if_neg c_1, if_neg c_2, if_neg c_3, if_pos c_7, if_pos c_8, if_neg c_9, bI_t, bI_f]; done) | (simp only [xWidth, xW2, if_neg c_1, if_neg c_2, if_neg c_3, if_pos c_7, if_pos c_8, if_neg c_9, bI_t, bI_f]; rfl), ht⟩) hS.2.2 dX0_widthOf_40
          · refine lv_iconst (v := 1) hx hb dX0_widthOf_30 (by decide) ?_
            exact W.iret (v := 1) hx hb hr (fun t ht hW => ⟨1, rfl, by first | (simp only [xWidth, xW2, if_neg c_1, if_neg c_2, if_neg c_3, if_pos c_7, if_neg c_8, bI_t, bI_f]; done) | (simp only [xWidth, xW2, if_neg c_1, if_neg c_2, if_neg c_3, if_pos c_7, if_neg c_8, bI_t, bI_f]; rfl), ht⟩) hS.2.2 dX0_widthOf_31
        · refine lv_iconst (v := 0) hx hb dX0_widthOf_22 (by decide) ?_
          exact W.iret (v := 0) hx hb hr (fun t ht hW => ⟨0, rfl, by first | (simp only [xWidth, xW2, if_neg c_1, if_neg c_2, if_neg c_3, if_neg c_7, bI_t, bI_f]; done) | (simp only [xWidth, xW2, if_neg c_1, if_neg c_2, if_neg c_3, if_neg c_7, bI_t, bI_f]; rfl), ht⟩) hS.2.2 dX0_widthOf_23
set_option maxHeartbeats 4000000 in
set_option maxRecDepth 100000 in
/-- followersOf -/
theorem c_X0_followersOf (l : Launch) (v : Int32) : Met l yX0_followersOf wsX0_followersOf ({ frames := 0, cells := 0, slots := 0, locals := 0 }) (va_Pc [.int v] (fun U => True)) (vp_Si (fun r => r = xFol v)) 0 0 (fun _ => False) := by
  refine Met.ofW (cc := cX0_followersOf) (maxL := 1) (ret := (some .int)) (by decide) rfl ?_
  intro p e s m args below meth c s₁ B hml hv
  obtain ⟨rfl, -⟩ := hv
  have hx := B.exec
  have hb := B.bytes
  have hr := B.returns
  have hts := atoms_spec (ws := wsX0_followersOf) B.pre
  have hown : s.vm.findClass RX0 = some m.cls := findClass_of_methodNamed B.named
  have hS : va_S (fun _ => False) s.heap s.heap [] := va_S.rf
  have hl := lv_entry ([.int v]) (n := 1) (Nat.le_of_ble_eq_true rfl)
  rw [lg_entry_eq]
  generalize (lg_sl ([.int v]) ++ List.replicate (1 - (lg_sl ([.int v])).length) Slot.unset).toArray = ls at hl ⊢
  have hl : lv_has ls 1 [(0, .int v)] := hl
  refine lv_iload_n hx hb dX0_followersOf_0 rfl (lv_at hl 0 rfl) ?_
  refine lv_sipush (v := 128) hx hb dX0_followersOf_1 (by decide) ?_
  refine lv_icmp_ge (tgt := 9) hx hb dX0_followersOf_4 (by decide) (fun c_1 => ?_) (fun c_1 => ?_)
  · refine lv_iload_n hx hb dX0_followersOf_9 rfl (lv_at hl 0 rfl) ?_
    refine lv_sipush (v := 224) hx hb dX0_followersOf_10 (by decide) ?_
    refine lv_iand hx hb dX0_followersOf_13 ?_
    refine lv_sipush (v := 192) hx hb dX0_followersOf_14 (by decide) ?_
    refine lv_icmp_ne (tgt := 22) hx hb dX0_followersOf_17 (by decide) (fun c_2 => ?_) (fun c_2 => ?_)
    · refine lv_iload_n hx hb dX0_followersOf_22 rfl (lv_at hl 0 rfl) ?_
      refine lv_sipush (v := 240) hx hb dX0_followersOf_23 (by decide) ?_
      refine lv_iand hx hb dX0_followersOf_26 ?_
      refine lv_sipush (v := 224) hx hb dX0_followersOf_27 (by decide) ?_
      refine lv_icmp_ne (tgt := 35) hx hb dX0_followersOf_30 (by decide) (fun c_3 => ?_) (fun c_3 => ?_)
      · refine lv_iload_n hx hb dX0_followersOf_35 rfl (lv_at hl 0 rfl) ?_
        refine lv_sipush (v := 248) hx hb dX0_followersOf_36 (by decide) ?_
        refine lv_iand hx hb dX0_followersOf_39 ?_
        refine lv_sipush (v := 240) hx hb dX0_followersOf_40 (by decide) ?_
        refine lv_icmp_ne (tgt := 50) hx hb dX0_followersOf_43 (by decide) (fun c_4 => ?_) (fun c_4 => ?_)
        · refine lv_iconst (v := -1) hx hb dX0_followersOf_50 (by decide) ?_
          exact W.iret (v := (-1)) hx hb hr (fun t ht hW => ⟨(-1), rfl, by first | (simp only [xFol, if_pos c_1, if_neg c_2, if_neg c_3, if_neg c_4, bI_t, bI_f]; done) | (simp only [xFol, if_pos c_1, if_neg c_2, if_neg c_3, if_neg c_4, bI_t, bI_f]; rfl), ht⟩) hS.2.2 dX0_followersOf_51
        · refine lv_iconst (v := 3) hx hb dX0_followersOf_46 (by decide) ?_
          refine lv_goto (tgt := 51) hx hb dX0_followersOf_47 (by decide) ?_
          exact W.iret (v := 3) hx hb hr (fun t ht hW => ⟨3, rfl, by first | (simp only [xFol, if_pos c_1, if_neg c_2, if_neg c_3, if_pos c_4, bI_t, bI_f]; done) | (simp only [xFol, if_pos c_1, if_neg c_2, if_neg c_3, if_pos c_4, bI_t, bI_f]; rfl), ht⟩) hS.2.2 dX0_followersOf_51
      · refine lv_iconst (v := 2) hx hb dX0_followersOf_33 (by decide) ?_
        exact W.iret (v := 2) hx hb hr (fun t ht hW => ⟨2, rfl, by first | (simp only [xFol, if_pos c_1, if_neg c_2, if_pos c_3, bI_t, bI_f]; done) | (simp only [xFol, if_pos c_1, if_neg c_2, if_pos c_3, bI_t, bI_f]; rfl), ht⟩) hS.2.2 dX0_followersOf_34
    · refine lv_iconst (v := 1) hx hb dX0_followersOf_20 (by decide) ?_
      exact W.iret (v := 1) hx hb hr (fun t ht hW => ⟨1, rfl, by first | (simp only [xFol, if_pos c_1, if_pos c_2, bI_t, bI_f]; done) | (simp only [xFol, if_pos c_1, if_pos c_2, bI_t, bI_f]; rfl), ht⟩) hS.2.2 dX0_followersOf_21
  · refine lv_iconst (v := 0) hx hb dX0_followersOf_7 (by decide) ?_
    exact W.iret (v := 0) hx hb hr (fun t ht hW => ⟨0, rfl, by first | (simp only [xFol, if_neg c_1, bI_t, bI_f]; done) | (simp only [xFol, if_neg c_1, bI_t, bI_f]; rfl), ht⟩) hS.2.2 dX0_followersOf_8
set_option maxHeartbeats 4000000 in
set_option maxRecDepth 100000 in
/-- firstByteMark -/
theorem c_X0_firstByteMark (l : Launch) (v : Int32) : Met l yX0_firstByteMark wsX0_firstByteMark ({ frames := 0, cells := 0, slots := 0, locals := 0 }) (va_Pc [.int v] (fun U => True)) (vp_Si (fun r => r = xMark v)) 0 0 (fun _ => False) := by
  refine Met.ofW (cc := cX0_firstByteMark) (maxL := 1) (ret := (some .int)) (by decide) rfl ?_
  intro p e s m args below meth c s₁ B hml hv
  obtain ⟨rfl, -⟩ := hv
  have hx := B.exec
  have hb := B.bytes
  have hr := B.returns
  have hts := atoms_spec (ws := wsX0_firstByteMark) B.pre
  have hown : s.vm.findClass RX0 = some m.cls := findClass_of_methodNamed B.named
  have hS : va_S (fun _ => False) s.heap s.heap [] := va_S.rf
  have hl := lv_entry ([.int v]) (n := 1) (Nat.le_of_ble_eq_true rfl)
  rw [lg_entry_eq]
  generalize (lg_sl ([.int v]) ++ List.replicate (1 - (lg_sl ([.int v])).length) Slot.unset).toArray = ls at hl ⊢
  have hl : lv_has ls 1 [(0, .int v)] := hl
  refine lv_iload_n hx hb dX0_firstByteMark_0 rfl (lv_at hl 0 rfl) ?_
  by_cases c_1 : v = 2
  · refine lv_tableIn (tgt := 28) hx hb dX0_firstByteMark_1 (by rw [c_1]; decide) (by rw [c_1]; decide) (by rw [c_1]; rfl) (by decide) ?_
    refine lv_sipush (v := 192) hx hb dX0_firstByteMark_28 (by decide) ?_
    exact W.iret (v := 192) hx hb hr (fun t ht hW => ⟨192, rfl, by first | (simp only [xMark, if_pos c_1, bI_t, bI_f]; done) | (simp only [xMark, if_pos c_1, bI_t, bI_f]; rfl), ht⟩) hS.2.2 dX0_firstByteMark_31
  by_cases c_2 : v = 3
  · refine lv_tableIn (tgt := 32) hx hb dX0_firstByteMark_1 (by rw [c_2]; decide) (by rw [c_2]; decide) (by rw [c_2]; rfl) (by decide) ?_
    refine lv_sipush (v := 224) hx hb dX0_firstByteMark_32 (by decide) ?_
    exact W.iret (v := 224) hx hb hr (fun t ht hW => ⟨224, rfl, by first | (simp only [xMark, if_neg c_1, if_pos c_2, bI_t, bI_f]; done) | (simp only [xMark, if_neg c_1, if_pos c_2, bI_t, bI_f]; rfl), ht⟩) hS.2.2 dX0_firstByteMark_35
  by_cases c_3 : v = 4
  · refine lv_tableIn (tgt := 36) hx hb dX0_firstByteMark_1 (by rw [c_3]; decide) (by rw [c_3]; decide) (by rw [c_3]; rfl) (by decide) ?_
    refine lv_sipush (v := 240) hx hb dX0_firstByteMark_36 (by decide) ?_
    exact W.iret (v := 240) hx hb hr (fun t ht hW => ⟨240, rfl, by first | (simp only [xMark, if_neg c_1, if_neg c_2, if_pos c_3, bI_t, bI_f]; done) | (simp only [xMark, if_neg c_1, if_neg c_2, if_pos c_3, bI_t, bI_f]; rfl), ht⟩) hS.2.2 dX0_firstByteMark_39
  refine lv_tableOut (tgt := 40) hx hb dX0_firstByteMark_1 (by have q0 := lv_neT (a := 2) c_1 (by decide); have q1 := lv_neT (a := 3) c_2 (by decide); have q2 := lv_neT (a := 4) c_3 (by decide); omega) (by decide) ?_
  refine lv_iconst (v := 0) hx hb dX0_firstByteMark_40 (by decide) ?_
  exact W.iret (v := 0) hx hb hr (fun t ht hW => ⟨0, rfl, by first | (simp only [xMark, if_neg c_1, if_neg c_2, if_neg c_3, bI_t, bI_f]; done) | (simp only [xMark, if_neg c_1, if_neg c_2, if_neg c_3, bI_t, bI_f]; rfl), ht⟩) hS.2.2 dX0_firstByteMark_41
set_option maxHeartbeats 4000000 in
set_option maxRecDepth 100000 in
/-- encodedByte -/
theorem c_X0_encodedByte (l : Launch) (v wd j : Int32) : Met l yX0_encodedByte wsX0_encodedByte ({ frames := 1, cells := 0, slots := 0, locals := 20 }) (va_Pc [.int v, .int wd, .int j] (fun U => True)) (vp_Si (fun r => r = xEnc v wd j)) 0 0 (fun _ => False) := by
  refine Met.ofW (cc := cX0_encodedByte) (maxL := 4) (ret := (some .int)) (by decide) rfl ?_
  intro p e s m args below meth c s₁ B hml hv
  obtain ⟨rfl, -⟩ := hv
  have hx := B.exec
  have hb := B.bytes
  have hr := B.returns
  have hts := atoms_spec (ws := wsX0_encodedByte) B.pre
  have hown : s.vm.findClass RX0 = some m.cls := findClass_of_methodNamed B.named
  have hS : va_S (fun _ => False) s.heap s.heap [] := va_S.rf
  have hl := lv_entry ([.int v, .int wd, .int j]) (n := 4) (Nat.le_of_ble_eq_true rfl)
  rw [lg_entry_eq]
  generalize (lg_sl ([.int v, .int wd, .int j]) ++ List.replicate (4 - (lg_sl ([.int v, .int wd, .int j])).length) Slot.unset).toArray = ls at hl ⊢
  have hl : lv_has ls 4 [(0, .int v), (1, .int wd), (2, .int j)] := hl
  refine lv_iload_n hx hb dX0_encodedByte_0 rfl (lv_at hl 0 rfl) ?_
  refine lv_bipush (v := 6) hx hb dX0_encodedByte_1 (by decide) ?_
  refine lv_iload_n hx hb dX0_encodedByte_3 rfl (lv_at hl 1 rfl) ?_
  refine lv_iconst (v := 1) hx hb dX0_encodedByte_4 (by decide) ?_
  refine lv_isub hx hb dX0_encodedByte_5 ?_
  refine lv_iload_n hx hb dX0_encodedByte_6 rfl (lv_at hl 2 rfl) ?_
  refine lv_isub hx hb dX0_encodedByte_7 ?_
  refine lv_imul hx hb dX0_encodedByte_8 ?_
  refine lv_ishr hx hb dX0_encodedByte_9 ?_
  refine lv_topi (fun x_1 ex_1 => ?_)
  refine lv_istore_n (lv' := [(3, .int x_1), (0, .int v), (1, .int wd), (2, .int j)]) hx hb dX0_encodedByte_10 rfl hl (by decide) rfl (fun ls hl => ?_)
  refine lv_iload_n hx hb dX0_encodedByte_11 rfl (lv_at hl 3 rfl) ?_
  refine lv_if_le (tgt := 24) hx hb dX0_encodedByte_12 (by decide) (fun c_2 => ?_) (fun c_2 => ?_)
  · refine lv_iload_n hx hb dX0_encodedByte_24 rfl (lv_at hl 2 rfl) ?_
    refine vp_callSi (W.runS (As := [.int wd]) (rest := []) ⟨hx, hb, hml, hown, hts⟩ (c_X0_firstByteMark l wd) (va_cwS 1 hts gX0_encodedByte_X0_firstByteMark rfl rfl rfl (by decide +kernel) ⟨Nat.le_of_ble_eq_true rfl, Nat.le_of_ble_eq_true rfl⟩) ⟨fun _ _ _ _ q => q, fun U hU hW => ⟨rfl, trivial⟩⟩ rfl rfl hl.1 rfl (lv_room (Nat.le_of_ble_eq_true rfl)) dX0_encodedByte_25 ⟨Nat.le_of_ble_eq_true rfl, Nat.le_of_ble_eq_true rfl⟩) (fun r_3 er_3 => ?_)
    obtain rfl : r_3 = xMark wd := er_3
    refine lv_iload_n hx hb dX0_encodedByte_28 rfl (lv_at hl 0 rfl) ?_
    refine lv_ior hx hb dX0_encodedByte_29 ?_
    exact W.iret (v := (xMark wd) ||| x_1) hx hb hr (fun t ht hW => ⟨(xMark wd) ||| x_1, rfl, by simp only [xEnc, if_pos c_2, ex_1], ht⟩) hS.2.2 dX0_encodedByte_30
  · refine lv_sipush (v := 128) hx hb dX0_encodedByte_15 (by decide) ?_
    refine lv_iload_n hx hb dX0_encodedByte_18 rfl (lv_at hl 0 rfl) ?_
    refine lv_bipush (v := 63) hx hb dX0_encodedByte_19 (by decide) ?_
    refine lv_iand hx hb dX0_encodedByte_21 ?_
    refine lv_ior hx hb dX0_encodedByte_22 ?_
    exact W.iret (v := 128 ||| (x_1 &&& 63)) hx hb hr (fun t ht hW => ⟨128 ||| (x_1 &&& 63), rfl, by simp only [xEnc, if_neg c_2, ex_1], ht⟩) hS.2.2 dX0_encodedByte_23
set_option maxHeartbeats 4000000 in
set_option maxRecDepth 100000 in
/-- isIn: is v in one of the M ranges -/
theorem c_X0_isIn (l : Launch) (t M : Nat) (f : Nat → Int32) (v : Int32) (hM : M ≤ 1000) : Met l yX0_isIn wsX0_isIn ({ frames := 0, cells := 0, slots := 0, locals := 0 }) (va_Pc [.ref t, .int v] (fun U => va_T .int t (2 * M) (fun j => .int (f j)) (fun _ => False) U U.heap)) (vp_Si (fun r => r = bI (xIn f v M))) 0 0 (fun _ => False) := by
  refine Met.ofW (cc := cX0_isIn) (maxL := 3) (ret := (some .boolean)) (by decide) rfl ?_
  intro p e s m args below meth c s₁ B hml hv
  obtain ⟨rfl, hT0⟩ := hv
  have hx := B.exec
  have hb := B.bytes
  have hr := B.returns
  have hts := atoms_spec (ws := wsX0_isIn) B.pre
  have hown : s.vm.findClass RX0 = some m.cls := findClass_of_methodNamed B.named
  have hS : va_S (fun _ => False) s.heap s.heap [] := va_S.rf
  have hl := lv_entry ([.ref t, .int v]) (n := 3) (Nat.le_of_ble_eq_true rfl)
  rw [lg_entry_eq]
  generalize (lg_sl ([.ref t, .int v]) ++ List.replicate (3 - (lg_sl ([.ref t, .int v])).length) Slot.unset).toArray = ls at hl ⊢
  have hl : lv_has ls 3 [(0, .ref t), (1, .int v)] := hl
  have loop : ∀ (d j : Nat) (ls : Array Slot), j + d = M → xIn f v j = false → lv_has ls 3 [(2, .int (nI (2 * j))), (0, .ref t), (1, .int v)] → W p l e (headSpec wsX0_isIn ({ frames := 0, cells := 0, slots := 0, locals := 0 })).room s m ([.ref t, .int v] : List Value).toArray below meth c s.heap [] 0 0 (MQ below (vp_Si (fun r => r = bI (xIn f v M))) ([.ref t, .int v] : List Value).toArray s 0 0 (fun _ => False)) (F0 m 2 ls []) := by
    intro d
    induction d with
    | zero =>
      intro j ls hj hnone hl
      refine lv_iload_n hx hb dX0_isIn_2 rfl (lv_at hl 0 rfl) ?_
      refine lv_iconst (v := 1) hx hb dX0_isIn_3 (by decide) ?_
      refine lv_iadd hx hb dX0_isIn_4 ?_
      refine lv_topi (fun x_1 ex_1 => ?_)
      obtain rfl : x_1 = nI (2 * j + 1) := ex_1.trans (nI_1 _)
      refine lv_aload_n hx hb dX0_isIn_5 rfl (lv_at hl 1 rfl) ?_
      refine va_tlen (v := nI (2 * M)) hx hb hT0 hS rfl dX0_isIn_6 ?_
      refine lv_icmp_ge (tgt := 34) hx hb dX0_isIn_7 (by decide) (fun c_2 => ?_) (fun c_2 => ?_)
      · refine lv_iconst (v := 0) hx hb dX0_isIn_34 (by decide) ?_
        exact W.zret (v := 0) (ty := .boolean) hx hb hr (rfl) (fun t ht hW => ⟨0, rfl, (by rw [show M = j by omega, hnone]; rfl), ht⟩) hS.2.2 dX0_isIn_35
      · exact absurd (nI_le (by omega) (by omega)) c_2
    | succ d ih =>
      intro j ls hj hnone hl
      refine lv_iload_n hx hb dX0_isIn_2 rfl (lv_at hl 0 rfl) ?_
      refine lv_iconst (v := 1) hx hb dX0_isIn_3 (by decide) ?_
      refine lv_iadd hx hb dX0_isIn_4 ?_
      refine lv_topi (fun x_3 ex_3 => ?_)
      obtain rfl : x_3 = nI (2 * j + 1) := ex_3.trans (nI_1 _)
      refine lv_aload_n hx hb dX0_isIn_5 rfl (lv_at hl 1 rfl) ?_
      refine va_tlen (v := nI (2 * M)) hx hb hT0 hS rfl dX0_isIn_6 ?_
      refine lv_icmp_ge (tgt := 34) hx hb dX0_isIn_7 (by decide) (fun c_4 => ?_) (fun c_4 => ?_)
      · exact absurd c_4 (nI_ge (by omega) (by omega))
      · refine lv_iload_n hx hb dX0_isIn_10 rfl (lv_at hl 2 rfl) ?_
        refine lv_aload_n hx hb dX0_isIn_11 rfl (lv_at hl 1 rfl) ?_
        refine lv_iload_n hx hb dX0_isIn_12 rfl (lv_at hl 0 rfl) ?_
        refine va_ti (v := .int (f (2 * j))) hx hb hT0 hS (vp_in_nI (by omega) (by omega)) (by rw [nI_clamp (by omega)]) dX0_isIn_13 ?_
        refine lv_icmp_lt (tgt := 28) hx hb dX0_isIn_14 (by decide) (fun c_5 => ?_) (fun c_5 => ?_)
        · refine lv_iinc (v := nI (2 * (j + 1))) (lv' := [(2, .int (nI (2 * (j + 1)))), (0, .ref t), (1, .int v)]) hx hb dX0_isIn_28 hl (k := 0) rfl (by rw [show (2 * (j + 1)) = 2 * j + 2 by omega]; exact nI_add _ 2) (by decide) rfl (fun ls hl => ?_)
          refine lv_goto (tgt := 2) hx hb dX0_isIn_31 (by decide) ?_
          exact ih (j + 1) ls (by omega) (xIn_lo hnone c_5) (lv_sub hl [0, 1, 2] rfl)
        · refine lv_iload_n hx hb dX0_isIn_17 rfl (lv_at hl 2 rfl) ?_
          refine lv_aload_n hx hb dX0_isIn_18 rfl (lv_at hl 1 rfl) ?_
          refine lv_iload_n hx hb dX0_isIn_19 rfl (lv_at hl 0 rfl) ?_
          refine lv_iconst (v := 1) hx hb dX0_isIn_20 (by decide) ?_
          refine lv_iadd hx hb dX0_isIn_21 ?_
          refine lv_topi (fun x_6 ex_6 => ?_)
          obtain rfl : x_6 = nI (2 * j + 1) := ex_6.trans (nI_1 _)
          refine va_ti (v := .int (f (2 * j + 1))) hx hb hT0 hS (vp_in_nI (by omega) (by omega)) (by rw [nI_clamp (by omega)]) dX0_isIn_22 ?_
          refine lv_icmp_gt (tgt := 28) hx hb dX0_isIn_23 (by decide) (fun c_7 => ?_) (fun c_7 => ?_)
          · refine lv_iinc (v := nI (2 * (j + 1))) (lv' := [(2, .int (nI (2 * (j + 1)))), (0, .ref t), (1, .int v)]) hx hb dX0_isIn_28 hl (k := 0) rfl (by rw [show (2 * (j + 1)) = 2 * j + 2 by omega]; exact nI_add _ 2) (by decide) rfl (fun ls hl => ?_)
            refine lv_goto (tgt := 2) hx hb dX0_isIn_31 (by decide) ?_
            exact ih (j + 1) ls (by omega) (xIn_hi hnone c_7) (lv_sub hl [0, 1, 2] rfl)
          · refine lv_iconst (v := 1) hx hb dX0_isIn_26 (by decide) ?_
            exact W.zret (v := 1) (ty := .boolean) hx hb hr (rfl) (fun t ht hW => ⟨1, rfl, (by rw [xIn_hit (j := j) (by omega) c_5 c_7]; rfl), ht⟩) hS.2.2 dX0_isIn_27
  refine lv_iconst (v := 0) hx hb dX0_isIn_0 (by decide) ?_
  refine lv_istore_n (lv' := [(2, .int 0), (0, .ref t), (1, .int v)]) hx hb dX0_isIn_1 rfl hl (by decide) rfl (fun ls hl => ?_)
  exact loop M 0 ls (by omega) rfl hl
set_option maxHeartbeats 4000000 in
set_option maxRecDepth 100000 in
/-- isNamePart -/
theorem c_X0_isNamePart (l : Launch) (t0 t1 t2 t3 : Nat) (v : Int32) : Met l yX0_isNamePart wsX0_isNamePart ({ frames := 1, cells := 0, slots := 0, locals := 22 }) (va_Pc [.int v] (fun U => xtab t0 t1 t2 t3 (fun _ => False) U U.heap)) (vp_Si (fun r => r = bI (xNP v))) 0 0 (fun _ => False) := by
  refine Met.ofW (cc := cX0_isNamePart) (maxL := 1) (ret := (some .boolean)) (by decide) rfl ?_
  intro p e s m args below meth c s₁ B hml hv
  obtain ⟨rfl, hT⟩ := hv
  have hx := B.exec
  have hb := B.bytes
  have hr := B.returns
  have hts := atoms_spec (ws := wsX0_isNamePart) B.pre
  have hown : s.vm.findClass RX0 = some m.cls := findClass_of_methodNamed B.named
  have hS : va_S (fun _ => False) s.heap s.heap [] := va_S.rf
  obtain ⟨hz0, ht0, hz1, ht1, hz2, ht2, hz3, ht3⟩ := id hT
  have hl := lv_entry ([.int v]) (n := 1) (Nat.le_of_ble_eq_true rfl)
  rw [lg_entry_eq]
  generalize (lg_sl ([.int v]) ++ List.replicate (1 - (lg_sl ([.int v])).length) Slot.unset).toArray = ls at hl ⊢
  have hl : lv_has ls 1 [(0, .int v)] := hl
  refine va_gets hx hb hz2 hS hown (hts (.fieldLink RX0 69 RX0 "NAME_BEGINS" "[I") (by decide +kernel)) (fun _ h9 => h9) dX0_isNamePart_0 ?_
  refine lv_iload_n hx hb dX0_isNamePart_3 rfl (lv_at hl 0 rfl) ?_
  refine vp_callSi (W.runS (As := [.ref t2, .int v]) (rest := []) ⟨hx, hb, hml, hown, hts⟩ (c_X0_isIn l t2 16 fNB v (by decide)) (va_cwS 2 hts gX0_isNamePart_X0_isIn rfl rfl rfl (by decide +kernel) ⟨Nat.le_of_ble_eq_true rfl, Nat.le_of_ble_eq_true rfl⟩) ⟨fun _ U g mk q => ⟨q.1, va_T.moved (u := U) (U := U.calling g mk _) (Vm.Alike.refl U.vm) q.2⟩, fun U hU hW => ⟨rfl, tb_T ht2 hS hU hW⟩⟩ rfl rfl hl.1 rfl (lv_room (Nat.le_of_ble_eq_true rfl)) dX0_isNamePart_4 ⟨Nat.le_of_ble_eq_true rfl, Nat.le_of_ble_eq_true rfl⟩) (fun r_1 er_1 => ?_)
  obtain rfl : r_1 = bI (xIn fNB v 16) := er_1
  refine lv_if_ne (tgt := 20) hx hb dX0_isNamePart_7 (by decide) (fun c_2 => ?_) (fun c_2 => ?_)
  · have c_2 := bI_n0 c_2
    refine lv_iconst (v := 1) hx hb dX0_isNamePart_20 (by decide) ?_
    refine lv_goto (tgt := 25) hx hb dX0_isNamePart_21 (by decide) ?_
    exact W.zret (v := 1) (ty := .boolean) hx hb hr (rfl) (fun t ht hW => ⟨1, rfl, by first | (simp only [xNP, if_pos c_2, bI_t, bI_f]; done) | (simp only [xNP, if_pos c_2, bI_t, bI_f]; rfl), ht⟩) hS.2.2 dX0_isNamePart_25
  · have c_2 := bI_0 c_2
    refine va_gets hx hb hz3 hS hown (hts (.fieldLink RX0 112 RX0 "FURTHER_NAME_PARTS" "[I") (by decide +kernel)) (fun _ h9 => h9) dX0_isNamePart_10 ?_
    refine lv_iload_n hx hb dX0_isNamePart_13 rfl (lv_at hl 0 rfl) ?_
    refine vp_callSi (W.runS (As := [.ref t3, .int v]) (rest := []) ⟨hx, hb, hml, hown, hts⟩ (c_X0_isIn l t3 5 fFN v (by decide)) (va_cwS 2 hts gX0_isNamePart_X0_isIn rfl rfl rfl (by decide +kernel) ⟨Nat.le_of_ble_eq_true rfl, Nat.le_of_ble_eq_true rfl⟩) ⟨fun _ U g mk q => ⟨q.1, va_T.moved (u := U) (U := U.calling g mk _) (Vm.Alike.refl U.vm) q.2⟩, fun U hU hW => ⟨rfl, tb_T ht3 hS hU hW⟩⟩ rfl rfl hl.1 rfl (lv_room (Nat.le_of_ble_eq_true rfl)) dX0_isNamePart_14 ⟨Nat.le_of_ble_eq_true rfl, Nat.le_of_ble_eq_true rfl⟩) (fun r_3 er_3 => ?_)
    obtain rfl : r_3 = bI (xIn fFN v 5) := er_3
    refine lv_if_eq (tgt := 24) hx hb dX0_isNamePart_17 (by decide) (fun c_4 => ?_) (fun c_4 => ?_)
    · have c_4 := bI_0 c_4
      refine lv_iconst (v := 0) hx hb dX0_isNamePart_24 (by decide) ?_
      exact W.zret (v := 0) (ty := .boolean) hx hb hr (rfl) (fun t ht hW => ⟨0, rfl, by first | (simp only [xNP, if_neg c_2, if_neg c_4, bI_t, bI_f]; done) | (simp only [xNP, if_neg c_2, if_neg c_4, bI_t, bI_f]; rfl), ht⟩) hS.2.2 dX0_isNamePart_25
    · have c_4 := bI_n0 c_4
      refine lv_iconst (v := 1) hx hb dX0_isNamePart_20 (by decide) ?_
      refine lv_goto (tgt := 25) hx hb dX0_isNamePart_21 (by decide) ?_
      exact W.zret (v := 1) (ty := .boolean) hx hb hr (rfl) (fun t ht hW => ⟨1, rfl, by first | (simp only [xNP, if_neg c_2, if_pos c_4, bI_t, bI_f]; done) | (simp only [xNP, if_neg c_2, if_pos c_4, bI_t, bI_f]; rfl), ht⟩) hS.2.2 dX0_isNamePart_25
set_option maxHeartbeats 4000000 in
set_option maxRecDepth 100000 in
/-- belongsToRun -/
theorem c_X0_belongsToRun (l : Launch) (t0 t1 t2 t3 : Nat) (kd v : Int32) : Met l yX0_belongsToRun wsX0_belongsToRun ({ frames := 2, cells := 0, slots := 0, locals := 42 }) (va_Pc [.int kd, .int v] (fun U => xtab t0 t1 t2 t3 (fun _ => False) U U.heap)) (vp_Si (fun r => r = bI (xBel kd v))) 0 0 (fun _ => False) := by
  refine Met.ofW (cc := cX0_belongsToRun) (maxL := 2) (ret := (some .boolean)) (by decide) rfl ?_
  intro p e s m args below meth c s₁ B hml hv
  obtain ⟨rfl, hT⟩ := hv
  have hx := B.exec
  have hb := B.bytes
  have hr := B.returns
  have hts := atoms_spec (ws := wsX0_belongsToRun) B.pre
  have hown : s.vm.findClass RX0 = some m.cls := findClass_of_methodNamed B.named
  have hS : va_S (fun _ => False) s.heap s.heap [] := va_S.rf
  obtain ⟨hz0, ht0, hz1, ht1, hz2, ht2, hz3, ht3⟩ := id hT
  have hl := lv_entry ([.int kd, .int v]) (n := 2) (Nat.le_of_ble_eq_true rfl)
  rw [lg_entry_eq]
  generalize (lg_sl ([.int kd, .int v]) ++ List.replicate (2 - (lg_sl ([.int kd, .int v])).length) Slot.unset).toArray = ls at hl ⊢
  have hl : lv_has ls 2 [(0, .int kd), (1, .int v)] := hl
  refine lv_iload_n hx hb dX0_belongsToRun_0 rfl (lv_at hl 0 rfl) ?_
  by_cases c_1 : kd = 0
  · refine lv_tableIn (tgt := 28) hx hb dX0_belongsToRun_1 (by rw [c_1]; decide) (by rw [c_1]; decide) (by rw [c_1]; rfl) (by decide) ?_
    refine lv_iload_n hx hb dX0_belongsToRun_28 rfl (lv_at hl 1 rfl) ?_
    refine vp_callSi (W.runS (As := [.int v]) (rest := []) ⟨hx, hb, hml, hown, hts⟩ (c_X0_isNamePart l t0 t1 t2 t3 v) (va_cwS 1 hts gX0_belongsToRun_X0_isNamePart rfl rfl rfl (by decide +kernel) ⟨Nat.le_of_ble_eq_true rfl, Nat.le_of_ble_eq_true rfl⟩) ⟨xtab_blind, fun U hU hW => ⟨rfl, xtab_call hT hS hU hW (fun _ q => q.elim)⟩⟩ rfl rfl hl.1 rfl (lv_room (Nat.le_of_ble_eq_true rfl)) dX0_belongsToRun_29 ⟨Nat.le_of_ble_eq_true rfl, Nat.le_of_ble_eq_true rfl⟩) (fun r_2 er_2 => ?_)
    obtain rfl : r_2 = bI (xNP v) := er_2
    exact W.zret (v := bI (xNP v)) (ty := .boolean) hx hb hr (bI_nar _) (fun t ht hW => ⟨bI (xNP v), rfl, by first | (simp only [xBel, if_pos c_1, bI_t, bI_f]; done) | (simp only [xBel, if_pos c_1, bI_t, bI_f]; rfl), ht⟩) hS.2.2 dX0_belongsToRun_32
  by_cases c_3 : kd = 1
  · refine lv_tableIn (tgt := 28) hx hb dX0_belongsToRun_1 (by rw [c_3]; decide) (by rw [c_3]; decide) (by rw [c_3]; rfl) (by decide) ?_
    refine lv_iload_n hx hb dX0_belongsToRun_28 rfl (lv_at hl 1 rfl) ?_
    refine vp_callSi (W.runS (As := [.int v]) (rest := []) ⟨hx, hb, hml, hown, hts⟩ (c_X0_isNamePart l t0 t1 t2 t3 v) (va_cwS 1 hts gX0_belongsToRun_X0_isNamePart rfl rfl rfl (by decide +kernel) ⟨Nat.le_of_ble_eq_true rfl, Nat.le_of_ble_eq_true rfl⟩) ⟨xtab_blind, fun U hU hW => ⟨rfl, xtab_call hT hS hU hW (fun _ q => q.elim)⟩⟩ rfl rfl hl.1 rfl (lv_room (Nat.le_of_ble_eq_true rfl)) dX0_belongsToRun_29 ⟨Nat.le_of_ble_eq_true rfl, Nat.le_of_ble_eq_true rfl⟩) (fun r_4 er_4 => ?_)
    obtain rfl : r_4 = bI (xNP v) := er_4
    exact W.zret (v := bI (xNP v)) (ty := .boolean) hx hb hr (bI_nar _) (fun t ht hW => ⟨bI (xNP v), rfl, by first | (simp only [xBel, if_neg c_1, if_pos c_3, bI_t, bI_f]; done) | (simp only [xBel, if_neg c_1, if_pos c_3, bI_t, bI_f]; rfl), ht⟩) hS.2.2 dX0_belongsToRun_32
  by_cases c_5 : kd = 2
  · refine lv_tableIn (tgt := 33) hx hb dX0_belongsToRun_1 (by rw [c_5]; decide) (by rw [c_5]; decide) (by rw [c_5]; rfl) (by decide) ?_
    refine va_gets hx hb hz1 hS hown (hts (.fieldLink RX0 66 RX0 "BLANKS" "[I") (by decide +kernel)) (fun _ h9 => h9) dX0_belongsToRun_33 ?_
    refine lv_iload_n hx hb dX0_belongsToRun_36 rfl (lv_at hl 1 rfl) ?_
    refine vp_callSi (W.runS (As := [.ref t1, .int v]) (rest := []) ⟨hx, hb, hml, hown, hts⟩ (c_X0_isIn l t1 3 fBL v (by decide)) (va_cwS 2 hts gX0_belongsToRun_X0_isIn rfl rfl rfl (by decide +kernel) ⟨Nat.le_of_ble_eq_true rfl, Nat.le_of_ble_eq_true rfl⟩) ⟨fun _ U g mk q => ⟨q.1, va_T.moved (u := U) (U := U.calling g mk _) (Vm.Alike.refl U.vm) q.2⟩, fun U hU hW => ⟨rfl, tb_T ht1 hS hU hW⟩⟩ rfl rfl hl.1 rfl (lv_room (Nat.le_of_ble_eq_true rfl)) dX0_belongsToRun_37 ⟨Nat.le_of_ble_eq_true rfl, Nat.le_of_ble_eq_true rfl⟩) (fun r_6 er_6 => ?_)
    obtain rfl : r_6 = bI (xIn fBL v 3) := er_6
    exact W.zret (v := bI (xIn fBL v 3)) (ty := .boolean) hx hb hr (bI_nar _) (fun t ht hW => ⟨bI (xIn fBL v 3), rfl, by first | (simp only [xBel, if_neg c_1, if_neg c_3, if_pos c_5, bI_t, bI_f]; done) | (simp only [xBel, if_neg c_1, if_neg c_3, if_pos c_5, bI_t, bI_f]; rfl), ht⟩) hS.2.2 dX0_belongsToRun_40
  refine lv_tableOut (tgt := 41) hx hb dX0_belongsToRun_1 (by have q0 := lv_neT (a := 0) c_1 (by decide); have q1 := lv_neT (a := 1) c_3 (by decide); have q2 := lv_neT (a := 2) c_5 (by decide); omega) (by decide) ?_
  refine lv_iconst (v := 0) hx hb dX0_belongsToRun_41 (by decide) ?_
  exact W.zret (v := 0) (ty := .boolean) hx hb hr (rfl) (fun t ht hW => ⟨0, rfl, by first | (simp only [xBel, if_neg c_1, if_neg c_3, if_neg c_5, bI_t, bI_f]; done) | (simp only [xBel, if_neg c_1, if_neg c_3, if_neg c_5, bI_t, bI_f]; rfl), ht⟩) hS.2.2 dX0_belongsToRun_42
set_option maxHeartbeats 4000000 in
set_option maxRecDepth 100000 in
/-- faultOf -/
theorem c_X0_faultOf (l : Launch) (t0 t1 t2 t3 : Nat) (v : Int32) : Met l yX0_faultOf wsX0_faultOf ({ frames := 1, cells := 0, slots := 0, locals := 22 }) (va_Pc [.int v] (fun U => xtab t0 t1 t2 t3 (fun _ => False) U U.heap)) (vp_Si (fun r => r = xFault v)) 0 0 (fun _ => False) := by
  refine Met.ofW (cc := cX0_faultOf) (maxL := 1) (ret := (some .int)) (by decide) rfl ?_
  intro p e s m args below meth c s₁ B hml hv
  obtain ⟨rfl, hT⟩ := hv
  have hx := B.exec
  have hb := B.bytes
  have hr := B.returns
  have hts := atoms_spec (ws := wsX0_faultOf) B.pre
  have hown : s.vm.findClass RX0 = some m.cls := findClass_of_methodNamed B.named
  have hS : va_S (fun _ => False) s.heap s.heap [] := va_S.rf
  obtain ⟨hz0, ht0, hz1, ht1, hz2, ht2, hz3, ht3⟩ := id hT
  have hl := lv_entry ([.int v]) (n := 1) (Nat.le_of_ble_eq_true rfl)
  rw [lg_entry_eq]
  generalize (lg_sl ([.int v]) ++ List.replicate (1 - (lg_sl ([.int v])).length) Slot.unset).toArray = ls at hl ⊢
  have hl : lv_has ls 1 [(0, .int v)] := hl
  refine lv_iload_n hx hb dX0_faultOf_0 rfl (lv_at hl 0 rfl) ?_
  refine lv_iconst (v := -1) hx hb dX0_faultOf_1 (by decide) ?_
  refine lv_icmp_ne (tgt := 7) hx hb dX0_faultOf_2 (by decide) (fun c_1 => ?_) (fun c_1 => ?_)
  · refine va_gets hx hb hz0 hS hown (hts (.fieldLink RX0 59 RX0 "ALLOWED" "[I") (by decide +kernel)) (fun _ h9 => h9) dX0_faultOf_7 ?_
    refine lv_iload_n hx hb dX0_faultOf_10 rfl (lv_at hl 0 rfl) ?_
    refine vp_callSi (W.runS (As := [.ref t0, .int v]) (rest := []) ⟨hx, hb, hml, hown, hts⟩ (c_X0_isIn l t0 5 fAL v (by decide)) (va_cwS 2 hts gX0_faultOf_X0_isIn rfl rfl rfl (by decide +kernel) ⟨Nat.le_of_ble_eq_true rfl, Nat.le_of_ble_eq_true rfl⟩) ⟨fun _ U g mk q => ⟨q.1, va_T.moved (u := U) (U := U.calling g mk _) (Vm.Alike.refl U.vm) q.2⟩, fun U hU hW => ⟨rfl, tb_T ht0 hS hU hW⟩⟩ rfl rfl hl.1 rfl (lv_room (Nat.le_of_ble_eq_true rfl)) dX0_faultOf_11 ⟨Nat.le_of_ble_eq_true rfl, Nat.le_of_ble_eq_true rfl⟩) (fun r_2 er_2 => ?_)
    obtain rfl : r_2 = bI (xIn fAL v 5) := er_2
    refine lv_if_eq (tgt := 21) hx hb dX0_faultOf_14 (by decide) (fun c_3 => ?_) (fun c_3 => ?_)
    · have c_3 := bI_0 c_3
      refine lv_iconst (v := 2) hx hb dX0_faultOf_21 (by decide) ?_
      exact W.iret (v := 2) hx hb hr (fun t ht hW => ⟨2, rfl, by first | (simp only [xFault, if_neg c_1, if_neg c_3, bI_t, bI_f]; done) | (simp only [xFault, if_neg c_1, if_neg c_3, bI_t, bI_f]; rfl), ht⟩) hS.2.2 dX0_faultOf_22
    · have c_3 := bI_n0 c_3
      refine lv_iconst (v := 0) hx hb dX0_faultOf_17 (by decide) ?_
      refine lv_goto (tgt := 22) hx hb dX0_faultOf_18 (by decide) ?_
      exact W.iret (v := 0) hx hb hr (fun t ht hW => ⟨0, rfl, by first | (simp only [xFault, if_neg c_1, if_pos c_3, bI_t, bI_f]; done) | (simp only [xFault, if_neg c_1, if_pos c_3, bI_t, bI_f]; rfl), ht⟩) hS.2.2 dX0_faultOf_22
  · refine lv_iconst (v := 1) hx hb dX0_faultOf_5 (by decide) ?_
    exact W.iret (v := 1) hx hb hr (fun t ht hW => ⟨1, rfl, by first | (simp only [xFault, if_pos c_1, bI_t, bI_f]; done) | (simp only [xFault, if_pos c_1, bI_t, bI_f]; rfl), ht⟩) hS.2.2 dX0_faultOf_6
end
section
set_option maxHeartbeats 4000000 in
set_option maxRecDepth 100000 in
theorem c_X0_hasRoomFor (l : Launch) (dC : Nat → ClassId) (dI : Nat → Nat → Nat) (h0 h1 h2 h3 : Nat) (cA : ClassId) (t0 t1 t2 t3 : Nat) (tx : Nat → Int32) (n : Nat) (ch pl : Nat → Int32) (k : Nat) (rd : Bool) (fp : Int32) (i : Int32) : Met l yX0_hasRoomFor wsX0_hasRoomFor ({ frames := 0, cells := 0, slots := 0, locals := 0 }) (va_Pc [.ref h0, .int i] (fun U => xpre dC dI h0 h1 h2 h3 cA t0 t1 t2 t3 (tx, n, ch, pl, k, rd, fp) U)) (vp_Si (fun r => r = bI (xRoom n i))) 0 0 (fun _ => False) := by
  refine Met.ofW (cc := cX0_hasRoomFor) (maxL := 2) (ret := (some .boolean)) (by decide) rfl ?_
  intro p e s m args below meth c s₁ B hml hv
  obtain ⟨rfl, hP, hK, hT⟩ := hv
  have hx := B.exec
  have hb := B.bytes
  have hr := B.returns
  have hts := atoms_spec (ws := wsX0_hasRoomFor) B.pre
  have hown : s.vm.findClass RX0 = some m.cls := findClass_of_methodNamed B.named
  have hS : va_S (fun _ => False) s.heap s.heap [] := va_S.rf
  have hP : va_P (dC, dI) vwCl [(h0, .inr (0, [.ref h1, .int (nI n), .ref h2, .ref h3, .int (nI k), .int (bI rd), .int fp])), (h1, .inl (cA, 1000, .inl tx)), (h2, .inl (cA, 1000, .inl ch)), (h3, .inl (cA, 1001, .inl pl))] s.heap := hP
  have hIn : ∀ w ∈ wsX00, w ∈ wsX0_hasRoomFor := by decide +kernel
  obtain ⟨hz0, ht0, hz1, ht1, hz2, ht2, hz3, ht3⟩ := id hT
  have hl := lv_entry ([.ref h0, .int i]) (n := 2) (Nat.le_of_ble_eq_true rfl)
  rw [lg_entry_eq]
  generalize (lg_sl ([.ref h0, .int i]) ++ List.replicate (2 - (lg_sl ([.ref h0, .int i])).length) Slot.unset).toArray = ls at hl ⊢
  have hl : lv_has ls 2 [(0, .ref h0), (1, .int i)] := hl
  refine lv_iload_n hx hb dX0_hasRoomFor_0 rfl (lv_at hl 1 rfl) ?_
  refine lv_sipush (v := 1000) hx hb dX0_hasRoomFor_1 (by decide) ?_
  refine lv_aload_n hx hb dX0_hasRoomFor_4 rfl (lv_at hl 0 rfl) ?_
  refine va_get (D := (dC, dI)) (ci := 0) (v := .int (nI n)) (C := RX0) (T := TX0) (N := 7) hx hb hts hIn hown hK hP 0 rfl rfl 1 (by decide) (hts (.fieldLink RX0 19 RX0 "textLength" "I") (by decide +kernel)) (fun _ h9 => h9) rfl dX0_hasRoomFor_5 ?_
  refine lv_isub hx hb dX0_hasRoomFor_8 ?_
  refine lv_icmp_gt (tgt := 16) hx hb dX0_hasRoomFor_9 (by decide) (fun c_1 => ?_) (fun c_1 => ?_)
  · refine lv_iconst (v := 0) hx hb dX0_hasRoomFor_16 (by decide) ?_
    exact W.zret (v := 0) (ty := .boolean) hx hb hr (rfl) (fun t ht hW => ⟨0, rfl, by first | (simp only [xRoom, if_pos c_1, bI_t, bI_f]; done) | (simp only [xRoom, if_pos c_1, bI_t, bI_f]; rfl), ht⟩) hS.2.2 dX0_hasRoomFor_17
  · refine lv_iconst (v := 1) hx hb dX0_hasRoomFor_12 (by decide) ?_
    refine lv_goto (tgt := 17) hx hb dX0_hasRoomFor_13 (by decide) ?_
    exact W.zret (v := 1) (ty := .boolean) hx hb hr (rfl) (fun t ht hW => ⟨1, rfl, by first | (simp only [xRoom, if_neg c_1, bI_t, bI_f]; done) | (simp only [xRoom, if_neg c_1, bI_t, bI_f]; rfl), ht⟩) hS.2.2 dX0_hasRoomFor_17
set_option maxHeartbeats 4000000 in
set_option maxRecDepth 100000 in
theorem c_X0_hasCharacter (l : Launch) (dC : Nat → ClassId) (dI : Nat → Nat → Nat) (h0 h1 h2 h3 : Nat) (cA : ClassId) (t0 t1 t2 t3 : Nat) (tx : Nat → Int32) (n : Nat) (ch pl : Nat → Int32) (k : Nat) (rd : Bool) (fp : Int32) (i : Int32) : Met l yX0_hasCharacter wsX0_hasCharacter ({ frames := 0, cells := 0, slots := 0, locals := 0 }) (va_Pc [.ref h0, .int i] (fun U => xpre dC dI h0 h1 h2 h3 cA t0 t1 t2 t3 (tx, n, ch, pl, k, rd, fp) U)) (vp_Si (fun r => r = bI (xHas k i))) 0 0 (fun _ => False) := by
  refine Met.ofW (cc := cX0_hasCharacter) (maxL := 2) (ret := (some .boolean)) (by decide) rfl ?_
  intro p e s m args below meth c s₁ B hml hv
  obtain ⟨rfl, hP, hK, hT⟩ := hv
  have hx := B.exec
  have hb := B.bytes
  have hr := B.returns
  have hts := atoms_spec (ws := wsX0_hasCharacter) B.pre
  have hown : s.vm.findClass RX0 = some m.cls := findClass_of_methodNamed B.named
  have hS : va_S (fun _ => False) s.heap s.heap [] := va_S.rf
  have hP : va_P (dC, dI) vwCl [(h0, .inr (0, [.ref h1, .int (nI n), .ref h2, .ref h3, .int (nI k), .int (bI rd), .int fp])), (h1, .inl (cA, 1000, .inl tx)), (h2, .inl (cA, 1000, .inl ch)), (h3, .inl (cA, 1001, .inl pl))] s.heap := hP
  have hIn : ∀ w ∈ wsX00, w ∈ wsX0_hasCharacter := by decide +kernel
  obtain ⟨hz0, ht0, hz1, ht1, hz2, ht2, hz3, ht3⟩ := id hT
  have hl := lv_entry ([.ref h0, .int i]) (n := 2) (Nat.le_of_ble_eq_true rfl)
  rw [lg_entry_eq]
  generalize (lg_sl ([.ref h0, .int i]) ++ List.replicate (2 - (lg_sl ([.ref h0, .int i])).length) Slot.unset).toArray = ls at hl ⊢
  have hl : lv_has ls 2 [(0, .ref h0), (1, .int i)] := hl
  refine lv_iload_n hx hb dX0_hasCharacter_0 rfl (lv_at hl 1 rfl) ?_
  refine lv_if_lt (tgt := 16) hx hb dX0_hasCharacter_1 (by decide) (fun c_1 => ?_) (fun c_1 => ?_)
  · refine lv_iconst (v := 0) hx hb dX0_hasCharacter_16 (by decide) ?_
    exact W.zret (v := 0) (ty := .boolean) hx hb hr (rfl) (fun t ht hW => ⟨0, rfl, by first | (simp only [xHas, if_pos c_1, bI_t, bI_f]; done) | (simp only [xHas, if_pos c_1, bI_t, bI_f]; rfl), ht⟩) hS.2.2 dX0_hasCharacter_17
  · refine lv_iload_n hx hb dX0_hasCharacter_4 rfl (lv_at hl 1 rfl) ?_
    refine lv_aload_n hx hb dX0_hasCharacter_5 rfl (lv_at hl 0 rfl) ?_
    refine va_get (D := (dC, dI)) (ci := 0) (v := .int (nI k)) (C := RX0) (T := TX0) (N := 7) hx hb hts hIn hown hK hP 0 rfl rfl 4 (by decide) (hts (.fieldLink RX0 23 RX0 "count" "I") (by decide +kernel)) (fun _ h9 => h9) rfl dX0_hasCharacter_6 ?_
    refine lv_icmp_ge (tgt := 16) hx hb dX0_hasCharacter_9 (by decide) (fun c_2 => ?_) (fun c_2 => ?_)
    · refine lv_iconst (v := 0) hx hb dX0_hasCharacter_16 (by decide) ?_
      exact W.zret (v := 0) (ty := .boolean) hx hb hr (rfl) (fun t ht hW => ⟨0, rfl, by first | (simp only [xHas, if_neg c_1, if_pos c_2, bI_t, bI_f]; done) | (simp only [xHas, if_neg c_1, if_pos c_2, bI_t, bI_f]; rfl), ht⟩) hS.2.2 dX0_hasCharacter_17
    · refine lv_iconst (v := 1) hx hb dX0_hasCharacter_12 (by decide) ?_
      refine lv_goto (tgt := 17) hx hb dX0_hasCharacter_13 (by decide) ?_
      exact W.zret (v := 1) (ty := .boolean) hx hb hr (rfl) (fun t ht hW => ⟨1, rfl, by first | (simp only [xHas, if_neg c_1, if_neg c_2, bI_t, bI_f]; done) | (simp only [xHas, if_neg c_1, if_neg c_2, bI_t, bI_f]; rfl), ht⟩) hS.2.2 dX0_hasCharacter_17
set_option maxHeartbeats 4000000 in
set_option maxRecDepth 100000 in
theorem c_X0_hasStretch (l : Launch) (dC : Nat → ClassId) (dI : Nat → Nat → Nat) (h0 h1 h2 h3 : Nat) (cA : ClassId) (t0 t1 t2 t3 : Nat) (tx : Nat → Int32) (n : Nat) (ch pl : Nat → Int32) (k : Nat) (rd : Bool) (fp : Int32) (i q : Int32) : Met l yX0_hasStretch wsX0_hasStretch ({ frames := 0, cells := 0, slots := 0, locals := 0 }) (va_Pc [.ref h0, .int i, .int q] (fun U => xpre dC dI h0 h1 h2 h3 cA t0 t1 t2 t3 (tx, n, ch, pl, k, rd, fp) U)) (vp_Si (fun r => r = bI (xStr rd k i q))) 0 0 (fun _ => False) := by
  refine Met.ofW (cc := cX0_hasStretch) (maxL := 3) (ret := (some .boolean)) (by decide) rfl ?_
  intro p e s m args below meth c s₁ B hml hv
  obtain ⟨rfl, hP, hK, hT⟩ := hv
  have hx := B.exec
  have hb := B.bytes
  have hr := B.returns
  have hts := atoms_spec (ws := wsX0_hasStretch) B.pre
  have hown : s.vm.findClass RX0 = some m.cls := findClass_of_methodNamed B.named
  have hS : va_S (fun _ => False) s.heap s.heap [] := va_S.rf
  have hP : va_P (dC, dI) vwCl [(h0, .inr (0, [.ref h1, .int (nI n), .ref h2, .ref h3, .int (nI k), .int (bI rd), .int fp])), (h1, .inl (cA, 1000, .inl tx)), (h2, .inl (cA, 1000, .inl ch)), (h3, .inl (cA, 1001, .inl pl))] s.heap := hP
  have hIn : ∀ w ∈ wsX00, w ∈ wsX0_hasStretch := by decide +kernel
  obtain ⟨hz0, ht0, hz1, ht1, hz2, ht2, hz3, ht3⟩ := id hT
  have hl := lv_entry ([.ref h0, .int i, .int q]) (n := 3) (Nat.le_of_ble_eq_true rfl)
  rw [lg_entry_eq]
  generalize (lg_sl ([.ref h0, .int i, .int q]) ++ List.replicate (3 - (lg_sl ([.ref h0, .int i, .int q])).length) Slot.unset).toArray = ls at hl ⊢
  have hl : lv_has ls 3 [(0, .ref h0), (1, .int i), (2, .int q)] := hl
  refine lv_aload_n hx hb dX0_hasStretch_0 rfl (lv_at hl 0 rfl) ?_
  refine va_get (D := (dC, dI)) (ci := 0) (v := .int (bI rd)) (C := RX0) (T := TX0) (N := 7) hx hb hts hIn hown hK hP 0 rfl rfl 5 (by decide) (hts (.fieldLink RX0 26 RX0 "hasReading" "Z") (by decide +kernel)) (fun _ h9 => h9) rfl dX0_hasStretch_1 ?_
  refine lv_if_eq (tgt := 29) hx hb dX0_hasStretch_4 (by decide) (fun c_1 => ?_) (fun c_1 => ?_)
  · have c_1 := bI_0 c_1
    refine lv_iconst (v := 0) hx hb dX0_hasStretch_29 (by decide) ?_
    exact W.zret (v := 0) (ty := .boolean) hx hb hr (rfl) (fun t ht hW => ⟨0, rfl, by first | (simp only [xStr, if_neg c_1, bI_t, bI_f]; done) | (simp only [xStr, if_neg c_1, bI_t, bI_f]; rfl), ht⟩) hS.2.2 dX0_hasStretch_30
  · have c_1 := bI_n0 c_1
    refine lv_iload_n hx hb dX0_hasStretch_7 rfl (lv_at hl 2 rfl) ?_
    refine lv_if_lt (tgt := 29) hx hb dX0_hasStretch_8 (by decide) (fun c_2 => ?_) (fun c_2 => ?_)
    · refine lv_iconst (v := 0) hx hb dX0_hasStretch_29 (by decide) ?_
      exact W.zret (v := 0) (ty := .boolean) hx hb hr (rfl) (fun t ht hW => ⟨0, rfl, by first | (simp only [xStr, if_pos c_1, if_pos c_2, bI_t, bI_f]; done) | (simp only [xStr, if_pos c_1, if_pos c_2, bI_t, bI_f]; rfl), ht⟩) hS.2.2 dX0_hasStretch_30
    · refine lv_iload_n hx hb dX0_hasStretch_11 rfl (lv_at hl 1 rfl) ?_
      refine lv_if_lt (tgt := 29) hx hb dX0_hasStretch_12 (by decide) (fun c_3 => ?_) (fun c_3 => ?_)
      · refine lv_iconst (v := 0) hx hb dX0_hasStretch_29 (by decide) ?_
        exact W.zret (v := 0) (ty := .boolean) hx hb hr (rfl) (fun t ht hW => ⟨0, rfl, by first | (simp only [xStr, if_pos c_1, if_neg c_2, if_pos c_3, bI_t, bI_f]; done) | (simp only [xStr, if_pos c_1, if_neg c_2, if_pos c_3, bI_t, bI_f]; rfl), ht⟩) hS.2.2 dX0_hasStretch_30
      · refine lv_iload_n hx hb dX0_hasStretch_15 rfl (lv_at hl 1 rfl) ?_
        refine lv_aload_n hx hb dX0_hasStretch_16 rfl (lv_at hl 0 rfl) ?_
        refine va_get (D := (dC, dI)) (ci := 0) (v := .int (nI k)) (C := RX0) (T := TX0) (N := 7) hx hb hts hIn hown hK hP 0 rfl rfl 4 (by decide) (hts (.fieldLink RX0 23 RX0 "count" "I") (by decide +kernel)) (fun _ h9 => h9) rfl dX0_hasStretch_17 ?_
        refine lv_iload_n hx hb dX0_hasStretch_20 rfl (lv_at hl 2 rfl) ?_
        refine lv_isub hx hb dX0_hasStretch_21 ?_
        refine lv_icmp_gt (tgt := 29) hx hb dX0_hasStretch_22 (by decide) (fun c_4 => ?_) (fun c_4 => ?_)
        · refine lv_iconst (v := 0) hx hb dX0_hasStretch_29 (by decide) ?_
          exact W.zret (v := 0) (ty := .boolean) hx hb hr (rfl) (fun t ht hW => ⟨0, rfl, by first | (simp only [xStr, if_pos c_1, if_neg c_2, if_neg c_3, if_pos c_4, bI_t, bI_f]; done) | (simp only [xStr, if_pos c_1, if_neg c_2, if_neg c_3, if_pos c_4, bI_t, bI_f]; rfl), ht⟩) hS.2.2 dX0_hasStretch_30
        · refine lv_iconst (v := 1) hx hb dX0_hasStretch_25 (by decide) ?_
          refine lv_goto (tgt := 30) hx hb dX0_hasStretch_26 (by decide) ?_
          exact W.zret (v := 1) (ty := .boolean) hx hb hr (rfl) (fun t ht hW => ⟨1, rfl, by first | (simp only [xStr, if_pos c_1, if_neg c_2, if_neg c_3, if_neg c_4, bI_t, bI_f]; done) | (simp only [xStr, if_pos c_1, if_neg c_2, if_neg c_3, if_neg c_4, bI_t, bI_f]; rfl), ht⟩) hS.2.2 dX0_hasStretch_30
set_option maxHeartbeats 4000000 in
set_option maxRecDepth 100000 in
theorem c_X0_place (l : Launch) (dC : Nat → ClassId) (dI : Nat → Nat → Nat) (h0 h1 h2 h3 : Nat) (cA : ClassId) (t0 t1 t2 t3 : Nat) (tx : Nat → Int32) (n : Nat) (ch pl : Nat → Int32) (k : Nat) (rd : Bool) (fp : Int32)  : Met l yX0_place wsX0_place ({ frames := 0, cells := 0, slots := 0, locals := 0 }) (va_Pc [.ref h0] (fun U => xpre dC dI h0 h1 h2 h3 cA t0 t1 t2 t3 (tx, n, ch, pl, k, rd, fp) U)) (vp_Si (fun r => r = fp)) 0 0 (fun _ => False) := by
  refine Met.ofW (cc := cX0_place) (maxL := 1) (ret := (some .int)) (by decide) rfl ?_
  intro p e s m args below meth c s₁ B hml hv
  obtain ⟨rfl, hP, hK, hT⟩ := hv
  have hx := B.exec
  have hb := B.bytes
  have hr := B.returns
  have hts := atoms_spec (ws := wsX0_place) B.pre
  have hown : s.vm.findClass RX0 = some m.cls := findClass_of_methodNamed B.named
  have hS : va_S (fun _ => False) s.heap s.heap [] := va_S.rf
  have hP : va_P (dC, dI) vwCl [(h0, .inr (0, [.ref h1, .int (nI n), .ref h2, .ref h3, .int (nI k), .int (bI rd), .int fp])), (h1, .inl (cA, 1000, .inl tx)), (h2, .inl (cA, 1000, .inl ch)), (h3, .inl (cA, 1001, .inl pl))] s.heap := hP
  have hIn : ∀ w ∈ wsX00, w ∈ wsX0_place := by decide +kernel
  obtain ⟨hz0, ht0, hz1, ht1, hz2, ht2, hz3, ht3⟩ := id hT
  have hl := lv_entry ([.ref h0]) (n := 1) (Nat.le_of_ble_eq_true rfl)
  rw [lg_entry_eq]
  generalize (lg_sl ([.ref h0]) ++ List.replicate (1 - (lg_sl ([.ref h0])).length) Slot.unset).toArray = ls at hl ⊢
  have hl : lv_has ls 1 [(0, .ref h0)] := hl
  refine lv_aload_n hx hb dX0_place_0 rfl (lv_at hl 0 rfl) ?_
  refine va_get (D := (dC, dI)) (ci := 0) (v := .int fp) (C := RX0) (T := TX0) (N := 7) hx hb hts hIn hown hK hP 0 rfl rfl 6 (by decide) (hts (.fieldLink RX0 30 RX0 "faultPlace" "I") (by decide +kernel)) (fun _ h9 => h9) rfl dX0_place_1 ?_
  exact W.iret (v := fp) hx hb hr (fun t ht hW => ⟨fp, rfl, rfl, ht⟩) hS.2.2 dX0_place_4
set_option maxHeartbeats 4000000 in
set_option maxRecDepth 100000 in
theorem c_X0_at (l : Launch) (dC : Nat → ClassId) (dI : Nat → Nat → Nat) (h0 h1 h2 h3 : Nat) (cA : ClassId) (t0 t1 t2 t3 : Nat) (tx : Nat → Int32) (n : Nat) (ch pl : Nat → Int32) (k : Nat) (rd : Bool) (fp : Int32) (i : Int32) (hk : k ≤ 1000) : Met l yX0_at wsX0_at ({ frames := 1, cells := 0, slots := 0, locals := 21 }) (va_Pc [.ref h0, .int i] (fun U => xpre dC dI h0 h1 h2 h3 cA t0 t1 t2 t3 (tx, n, ch, pl, k, rd, fp) U)) (vp_Si (fun r => r = xAt ch k i)) 0 0 (fun _ => False) := by
  refine Met.ofW (cc := cX0_at) (maxL := 2) (ret := (some .int)) (by decide) rfl ?_
  intro p e s m args below meth c s₁ B hml hv
  obtain ⟨rfl, hP, hK, hT⟩ := hv
  have hx := B.exec
  have hb := B.bytes
  have hr := B.returns
  have hts := atoms_spec (ws := wsX0_at) B.pre
  have hown : s.vm.findClass RX0 = some m.cls := findClass_of_methodNamed B.named
  have hS : va_S (fun _ => False) s.heap s.heap [] := va_S.rf
  have hP : va_P (dC, dI) vwCl [(h0, .inr (0, [.ref h1, .int (nI n), .ref h2, .ref h3, .int (nI k), .int (bI rd), .int fp])), (h1, .inl (cA, 1000, .inl tx)), (h2, .inl (cA, 1000, .inl ch)), (h3, .inl (cA, 1001, .inl pl))] s.heap := hP
  have hIn : ∀ w ∈ wsX00, w ∈ wsX0_at := by decide +kernel
  obtain ⟨hz0, ht0, hz1, ht1, hz2, ht2, hz3, ht3⟩ := id hT
  have hl := lv_entry ([.ref h0, .int i]) (n := 2) (Nat.le_of_ble_eq_true rfl)
  rw [lg_entry_eq]
  generalize (lg_sl ([.ref h0, .int i]) ++ List.replicate (2 - (lg_sl ([.ref h0, .int i])).length) Slot.unset).toArray = ls at hl ⊢
  have hl : lv_has ls 2 [(0, .ref h0), (1, .int i)] := hl
  refine lv_aload_n hx hb dX0_at_0 rfl (lv_at hl 0 rfl) ?_
  refine lv_iload_n hx hb dX0_at_1 rfl (lv_at hl 1 rfl) ?_
  refine vp_callSi (W.runV (As := [.int i]) (rest := []) ⟨hx, hb, hml, hown, hts⟩ (c_X0_hasCharacter l dC dI h0 h1 h2 h3 cA t0 t1 t2 t3 tx n ch pl k rd fp i) (cwV 1 hts gX0_at_X0_hasCharacter rfl rfl rfl (by decide +kernel) ⟨Nat.le_of_ble_eq_true rfl, Nat.le_of_ble_eq_true rfl⟩) ⟨xpre_blind, va_recv hK hP (ci := 0) (q0 := 0) rfl rfl, fun U hU hW => ⟨rfl, xpre_of hP hK hT hS hU hW⟩⟩ rfl rfl hl.1 rfl (lv_room (Nat.le_of_ble_eq_true rfl)) dX0_at_2 ⟨Nat.le_of_ble_eq_true rfl, Nat.le_of_ble_eq_true rfl⟩) (fun r_1 er_1 => ?_)
  obtain rfl : r_1 = bI (xHas k i) := er_1
  refine lv_if_eq (tgt := 17) hx hb dX0_at_5 (by decide) (fun c_2 => ?_) (fun c_2 => ?_)
  · have c_2 := bI_0 c_2
    refine lv_iconst (v := -1) hx hb dX0_at_17 (by decide) ?_
    exact W.iret (v := (-1)) hx hb hr (fun t ht hW => ⟨(-1), rfl, by first | (simp only [xAt, if_neg c_2, bI_t, bI_f]; done) | (simp only [xAt, if_neg c_2, bI_t, bI_f]; rfl), ht⟩) hS.2.2 dX0_at_18
  · have c_2 := bI_n0 c_2
    refine lv_aload_n hx hb dX0_at_8 rfl (lv_at hl 0 rfl) ?_
    refine va_get (D := (dC, dI)) (ci := 0) (v := .ref h2) (C := RX0) (T := TX0) (N := 7) hx hb hts hIn hown hK hP 0 rfl rfl 2 (by decide) (hts (.fieldLink RX0 13 RX0 "characters" "[I") (by decide +kernel)) (fun _ h9 => h9) rfl dX0_at_9 ?_
    refine lv_iload_n hx hb dX0_at_12 rfl (lv_at hl 1 rfl) ?_
    refine va_iald hx hb hK hP 2 0 rfl rfl (xHas_in hk c_2 (by decide)) dX0_at_13 ?_
    refine lv_goto (tgt := 18) hx hb dX0_at_14 (by decide) ?_
    exact W.iret (v := ch i.toNatClampNeg) hx hb hr (fun t ht hW => ⟨ch i.toNatClampNeg, rfl, by first | (simp only [xAt, if_pos c_2, bI_t, bI_f]; done) | (simp only [xAt, if_pos c_2, bI_t, bI_f]; rfl), ht⟩) hS.2.2 dX0_at_18
set_option maxHeartbeats 4000000 in
set_option maxRecDepth 100000 in
theorem c_X0_placeOf (l : Launch) (dC : Nat → ClassId) (dI : Nat → Nat → Nat) (h0 h1 h2 h3 : Nat) (cA : ClassId) (t0 t1 t2 t3 : Nat) (tx : Nat → Int32) (n : Nat) (ch pl : Nat → Int32) (k : Nat) (rd : Bool) (fp : Int32) (i : Int32) (hk : k ≤ 1000) : Met l yX0_placeOf wsX0_placeOf ({ frames := 0, cells := 0, slots := 0, locals := 0 }) (va_Pc [.ref h0, .int i] (fun U => xpre dC dI h0 h1 h2 h3 cA t0 t1 t2 t3 (tx, n, ch, pl, k, rd, fp) U)) (vp_Si (fun r => r = xPlc rd pl k i)) 0 0 (fun _ => False) := by
  refine Met.ofW (cc := cX0_placeOf) (maxL := 2) (ret := (some .int)) (by decide) rfl ?_
  intro p e s m args below meth c s₁ B hml hv
  obtain ⟨rfl, hP, hK, hT⟩ := hv
  have hx := B.exec
  have hb := B.bytes
  have hr := B.returns
  have hts := atoms_spec (ws := wsX0_placeOf) B.pre
  have hown : s.vm.findClass RX0 = some m.cls := findClass_of_methodNamed B.named
  have hS : va_S (fun _ => False) s.heap s.heap [] := va_S.rf
  have hP : va_P (dC, dI) vwCl [(h0, .inr (0, [.ref h1, .int (nI n), .ref h2, .ref h3, .int (nI k), .int (bI rd), .int fp])), (h1, .inl (cA, 1000, .inl tx)), (h2, .inl (cA, 1000, .inl ch)), (h3, .inl (cA, 1001, .inl pl))] s.heap := hP
  have hIn : ∀ w ∈ wsX00, w ∈ wsX0_placeOf := by decide +kernel
  obtain ⟨hz0, ht0, hz1, ht1, hz2, ht2, hz3, ht3⟩ := id hT
  have hl := lv_entry ([.ref h0, .int i]) (n := 2) (Nat.le_of_ble_eq_true rfl)
  rw [lg_entry_eq]
  generalize (lg_sl ([.ref h0, .int i]) ++ List.replicate (2 - (lg_sl ([.ref h0, .int i])).length) Slot.unset).toArray = ls at hl ⊢
  have hl : lv_has ls 2 [(0, .ref h0), (1, .int i)] := hl
  refine lv_aload_n hx hb dX0_placeOf_0 rfl (lv_at hl 0 rfl) ?_
  refine va_get (D := (dC, dI)) (ci := 0) (v := .int (bI rd)) (C := RX0) (T := TX0) (N := 7) hx hb hts hIn hown hK hP 0 rfl rfl 5 (by decide) (hts (.fieldLink RX0 26 RX0 "hasReading" "Z") (by decide +kernel)) (fun _ h9 => h9) rfl dX0_placeOf_1 ?_
  refine lv_if_eq (tgt := 19) hx hb dX0_placeOf_4 (by decide) (fun c_1 => ?_) (fun c_1 => ?_)
  · have c_1 := bI_0 c_1
    refine lv_iconst (v := -1) hx hb dX0_placeOf_19 (by decide) ?_
    exact W.iret (v := (-1)) hx hb hr (fun t ht hW => ⟨(-1), rfl, by first | (simp only [xPlc, if_neg c_1, bI_t, bI_f]; done) | (simp only [xPlc, if_neg c_1, bI_t, bI_f]; rfl), ht⟩) hS.2.2 dX0_placeOf_20
  · have c_1 := bI_n0 c_1
    refine lv_iload_n hx hb dX0_placeOf_7 rfl (lv_at hl 1 rfl) ?_
    refine lv_if_lt (tgt := 19) hx hb dX0_placeOf_8 (by decide) (fun c_2 => ?_) (fun c_2 => ?_)
    · refine lv_iconst (v := -1) hx hb dX0_placeOf_19 (by decide) ?_
      exact W.iret (v := (-1)) hx hb hr (fun t ht hW => ⟨(-1), rfl, by first | (simp only [xPlc, if_pos c_1, if_pos c_2, bI_t, bI_f]; done) | (simp only [xPlc, if_pos c_1, if_pos c_2, bI_t, bI_f]; rfl), ht⟩) hS.2.2 dX0_placeOf_20
    · refine lv_iload_n hx hb dX0_placeOf_11 rfl (lv_at hl 1 rfl) ?_
      refine lv_aload_n hx hb dX0_placeOf_12 rfl (lv_at hl 0 rfl) ?_
      refine va_get (D := (dC, dI)) (ci := 0) (v := .int (nI k)) (C := RX0) (T := TX0) (N := 7) hx hb hts hIn hown hK hP 0 rfl rfl 4 (by decide) (hts (.fieldLink RX0 23 RX0 "count" "I") (by decide +kernel)) (fun _ h9 => h9) rfl dX0_placeOf_13 ?_
      refine lv_icmp_le (tgt := 21) hx hb dX0_placeOf_16 (by decide) (fun c_3 => ?_) (fun c_3 => ?_)
      · refine lv_aload_n hx hb dX0_placeOf_21 rfl (lv_at hl 0 rfl) ?_
        refine va_get (D := (dC, dI)) (ci := 0) (v := .ref h3) (C := RX0) (T := TX0) (N := 7) hx hb hts hIn hown hK hP 0 rfl rfl 3 (by decide) (hts (.fieldLink RX0 16 RX0 "places" "[I") (by decide +kernel)) (fun _ h9 => h9) rfl dX0_placeOf_22 ?_
        refine lv_iload_n hx hb dX0_placeOf_25 rfl (lv_at hl 1 rfl) ?_
        refine va_iald hx hb hK hP 3 0 rfl rfl (xPl_in hk c_2 c_3) dX0_placeOf_26 ?_
        exact W.iret (v := pl i.toNatClampNeg) hx hb hr (fun t ht hW => ⟨pl i.toNatClampNeg, rfl, by first | (simp only [xPlc, if_pos c_1, if_neg c_2, if_pos c_3, bI_t, bI_f]; done) | (simp only [xPlc, if_pos c_1, if_neg c_2, if_pos c_3, bI_t, bI_f]; rfl), ht⟩) hS.2.2 dX0_placeOf_27
      · refine lv_iconst (v := -1) hx hb dX0_placeOf_19 (by decide) ?_
        exact W.iret (v := (-1)) hx hb hr (fun t ht hW => ⟨(-1), rfl, by first | (simp only [xPlc, if_pos c_1, if_neg c_2, if_neg c_3, bI_t, bI_f]; done) | (simp only [xPlc, if_pos c_1, if_neg c_2, if_neg c_3, bI_t, bI_f]; rfl), ht⟩) hS.2.2 dX0_placeOf_20
set_option maxHeartbeats 4000000 in
set_option maxRecDepth 100000 in
theorem c_X0_kind (l : Launch) (dC : Nat → ClassId) (dI : Nat → Nat → Nat) (h0 h1 h2 h3 : Nat) (cA : ClassId) (t0 t1 t2 t3 : Nat) (tx : Nat → Int32) (n : Nat) (ch pl : Nat → Int32) (k : Nat) (rd : Bool) (fp : Int32) (v : Int32) : Met l yX0_kind wsX0_kind ({ frames := 2, cells := 0, slots := 0, locals := 42 }) (va_Pc [.ref h0, .int v] (fun U => xpre dC dI h0 h1 h2 h3 cA t0 t1 t2 t3 (tx, n, ch, pl, k, rd, fp) U)) (vp_Si (fun r => r = xKind v)) 0 0 (fun _ => False) := by
  refine Met.ofW (cc := cX0_kind) (maxL := 3) (ret := (some .int)) (by decide) rfl ?_
  intro p e s m args below meth c s₁ B hml hv
  obtain ⟨rfl, hP, hK, hT⟩ := hv
  have hx := B.exec
  have hb := B.bytes
  have hr := B.returns
  have hts := atoms_spec (ws := wsX0_kind) B.pre
  have hown : s.vm.findClass RX0 = some m.cls := findClass_of_methodNamed B.named
  have hS : va_S (fun _ => False) s.heap s.heap [] := va_S.rf
  have hP : va_P (dC, dI) vwCl [(h0, .inr (0, [.ref h1, .int (nI n), .ref h2, .ref h3, .int (nI k), .int (bI rd), .int fp])), (h1, .inl (cA, 1000, .inl tx)), (h2, .inl (cA, 1000, .inl ch)), (h3, .inl (cA, 1001, .inl pl))] s.heap := hP
  obtain ⟨hz0, ht0, hz1, ht1, hz2, ht2, hz3, ht3⟩ := id hT
  have hl := lv_entry ([.ref h0, .int v]) (n := 3) (Nat.le_of_ble_eq_true rfl)
  rw [lg_entry_eq]
  generalize (lg_sl ([.ref h0, .int v]) ++ List.replicate (3 - (lg_sl ([.ref h0, .int v])).length) Slot.unset).toArray = ls at hl ⊢
  have hl : lv_has ls 3 [(0, .ref h0), (1, .int v)] := hl
  refine lv_iconst (v := 0) hx hb dX0_kind_0 (by decide) ?_
  refine lv_istore_n (lv' := [(2, .int 0), (0, .ref h0), (1, .int v)]) hx hb dX0_kind_1 rfl hl (by decide) rfl (fun ls hl => ?_)
  refine va_gets hx hb hz0 hS hown (hts (.fieldLink RX0 59 RX0 "ALLOWED" "[I") (by decide +kernel)) (fun _ h9 => h9) dX0_kind_2 ?_
  refine lv_iload_n hx hb dX0_kind_5 rfl (lv_at hl 2 rfl) ?_
  refine vp_callSi (W.runS (As := [.ref t0, .int v]) (rest := []) ⟨hx, hb, hml, hown, hts⟩ (c_X0_isIn l t0 5 fAL v (by decide)) (va_cwS 2 hts gX0_kind_X0_isIn rfl rfl rfl (by decide +kernel) ⟨Nat.le_of_ble_eq_true rfl, Nat.le_of_ble_eq_true rfl⟩) ⟨fun _ U g mk q => ⟨q.1, va_T.moved (u := U) (U := U.calling g mk _) (Vm.Alike.refl U.vm) q.2⟩, fun U hU hW => ⟨rfl, tb_T ht0 hS hU hW⟩⟩ rfl rfl hl.1 rfl (lv_room (Nat.le_of_ble_eq_true rfl)) dX0_kind_6 ⟨Nat.le_of_ble_eq_true rfl, Nat.le_of_ble_eq_true rfl⟩) (fun r_1 er_1 => ?_)
  obtain rfl : r_1 = bI (xIn fAL v 5) := er_1
  refine lv_if_eq (tgt := 15) hx hb dX0_kind_9 (by decide) (fun c_2 => ?_) (fun c_2 => ?_)
  · have c_2 := bI_0 c_2
    refine va_gets hx hb hz1 hS hown (hts (.fieldLink RX0 66 RX0 "BLANKS" "[I") (by decide +kernel)) (fun _ h9 => h9) dX0_kind_15 ?_
    refine lv_iload_n hx hb dX0_kind_18 rfl (lv_at hl 2 rfl) ?_
    refine vp_callSi (W.runS (As := [.ref t1, .int v]) (rest := []) ⟨hx, hb, hml, hown, hts⟩ (c_X0_isIn l t1 3 fBL v (by decide)) (va_cwS 2 hts gX0_kind_X0_isIn rfl rfl rfl (by decide +kernel) ⟨Nat.le_of_ble_eq_true rfl, Nat.le_of_ble_eq_true rfl⟩) ⟨fun _ U g mk q => ⟨q.1, va_T.moved (u := U) (U := U.calling g mk _) (Vm.Alike.refl U.vm) q.2⟩, fun U hU hW => ⟨rfl, tb_T ht1 hS hU hW⟩⟩ rfl rfl hl.1 rfl (lv_room (Nat.le_of_ble_eq_true rfl)) dX0_kind_19 ⟨Nat.le_of_ble_eq_true rfl, Nat.le_of_ble_eq_true rfl⟩) (fun r_3 er_3 => ?_)
    obtain rfl : r_3 = bI (xIn fBL v 3) := er_3
    refine lv_if_eq (tgt := 28) hx hb dX0_kind_22 (by decide) (fun c_4 => ?_) (fun c_4 => ?_)
    · have c_4 := bI_0 c_4
      refine va_gets hx hb hz2 hS hown (hts (.fieldLink RX0 69 RX0 "NAME_BEGINS" "[I") (by decide +kernel)) (fun _ h9 => h9) dX0_kind_28 ?_
      refine lv_iload_n hx hb dX0_kind_31 rfl (lv_at hl 2 rfl) ?_
      refine vp_callSi (W.runS (As := [.ref t2, .int v]) (rest := []) ⟨hx, hb, hml, hown, hts⟩ (c_X0_isIn l t2 16 fNB v (by decide)) (va_cwS 2 hts gX0_kind_X0_isIn rfl rfl rfl (by decide +kernel) ⟨Nat.le_of_ble_eq_true rfl, Nat.le_of_ble_eq_true rfl⟩) ⟨fun _ U g mk q => ⟨q.1, va_T.moved (u := U) (U := U.calling g mk _) (Vm.Alike.refl U.vm) q.2⟩, fun U hU hW => ⟨rfl, tb_T ht2 hS hU hW⟩⟩ rfl rfl hl.1 rfl (lv_room (Nat.le_of_ble_eq_true rfl)) dX0_kind_32 ⟨Nat.le_of_ble_eq_true rfl, Nat.le_of_ble_eq_true rfl⟩) (fun r_5 er_5 => ?_)
      obtain rfl : r_5 = bI (xIn fNB v 16) := er_5
      refine lv_if_eq (tgt := 41) hx hb dX0_kind_35 (by decide) (fun c_6 => ?_) (fun c_6 => ?_)
      · have c_6 := bI_0 c_6
        refine lv_iload_n hx hb dX0_kind_41 rfl (lv_at hl 2 rfl) ?_
        refine vp_callSi (W.runS (As := [.int v]) (rest := []) ⟨hx, hb, hml, hown, hts⟩ (c_X0_isNamePart l t0 t1 t2 t3 v) (va_cwS 1 hts gX0_kind_X0_isNamePart rfl rfl rfl (by decide +kernel) ⟨Nat.le_of_ble_eq_true rfl, Nat.le_of_ble_eq_true rfl⟩) ⟨xtab_blind, fun U hU hW => ⟨rfl, xtab_call hT hS hU hW (fun _ q => q.elim)⟩⟩ rfl rfl hl.1 rfl (lv_room (Nat.le_of_ble_eq_true rfl)) dX0_kind_42 ⟨Nat.le_of_ble_eq_true rfl, Nat.le_of_ble_eq_true rfl⟩) (fun r_7 er_7 => ?_)
        obtain rfl : r_7 = bI (xNP v) := er_7
        refine lv_if_eq (tgt := 51) hx hb dX0_kind_45 (by decide) (fun c_8 => ?_) (fun c_8 => ?_)
        · have c_8 := bI_0 c_8
          refine lv_iload_n hx hb dX0_kind_51 rfl (lv_at hl 0 rfl) ?_
          exact W.iret (v := 0) hx hb hr (fun t ht hW => ⟨0, rfl, by first | (simp only [xKind, if_neg c_2, if_neg c_4, if_neg c_6, if_neg c_8, bI_t, bI_f]; done) | (simp only [xKind, if_neg c_2, if_neg c_4, if_neg c_6, if_neg c_8, bI_t, bI_f]; rfl), ht⟩) hS.2.2 dX0_kind_52
        · have c_8 := bI_n0 c_8
          refine lv_iinc (v := 8) (lv' := [(2, .int 8), (0, .ref h0), (1, .int v)]) hx hb dX0_kind_48 hl (k := 0) rfl (by decide) (by decide) rfl (fun ls hl => ?_)
          refine lv_iload_n hx hb dX0_kind_51 rfl (lv_at hl 0 rfl) ?_
          exact W.iret (v := 8) hx hb hr (fun t ht hW => ⟨8, rfl, by first | (simp only [xKind, if_neg c_2, if_neg c_4, if_neg c_6, if_pos c_8, bI_t, bI_f]; done) | (simp only [xKind, if_neg c_2, if_neg c_4, if_neg c_6, if_pos c_8, bI_t, bI_f]; rfl), ht⟩) hS.2.2 dX0_kind_52
      · have c_6 := bI_n0 c_6
        refine lv_iinc (v := 4) (lv' := [(2, .int 4), (0, .ref h0), (1, .int v)]) hx hb dX0_kind_38 hl (k := 0) rfl (by decide) (by decide) rfl (fun ls hl => ?_)
        refine lv_iload_n hx hb dX0_kind_41 rfl (lv_at hl 2 rfl) ?_
        refine vp_callSi (W.runS (As := [.int v]) (rest := []) ⟨hx, hb, hml, hown, hts⟩ (c_X0_isNamePart l t0 t1 t2 t3 v) (va_cwS 1 hts gX0_kind_X0_isNamePart rfl rfl rfl (by decide +kernel) ⟨Nat.le_of_ble_eq_true rfl, Nat.le_of_ble_eq_true rfl⟩) ⟨xtab_blind, fun U hU hW => ⟨rfl, xtab_call hT hS hU hW (fun _ q => q.elim)⟩⟩ rfl rfl hl.1 rfl (lv_room (Nat.le_of_ble_eq_true rfl)) dX0_kind_42 ⟨Nat.le_of_ble_eq_true rfl, Nat.le_of_ble_eq_true rfl⟩) (fun r_9 er_9 => ?_)
        obtain rfl : r_9 = bI (xNP v) := er_9
        refine lv_if_eq (tgt := 51) hx hb dX0_kind_45 (by decide) (fun c_10 => ?_) (fun c_10 => ?_)
        · have c_10 := bI_0 c_10
          refine lv_iload_n hx hb dX0_kind_51 rfl (lv_at hl 0 rfl) ?_
          exact W.iret (v := 4) hx hb hr (fun t ht hW => ⟨4, rfl, by first | (simp only [xKind, if_neg c_2, if_neg c_4, if_pos c_6, if_neg c_10, bI_t, bI_f]; done) | (simp only [xKind, if_neg c_2, if_neg c_4, if_pos c_6, if_neg c_10, bI_t, bI_f]; rfl), ht⟩) hS.2.2 dX0_kind_52
        · have c_10 := bI_n0 c_10
          refine lv_iinc (v := 12) (lv' := [(2, .int 12), (0, .ref h0), (1, .int v)]) hx hb dX0_kind_48 hl (k := 0) rfl (by decide) (by decide) rfl (fun ls hl => ?_)
          refine lv_iload_n hx hb dX0_kind_51 rfl (lv_at hl 0 rfl) ?_
          exact W.iret (v := 12) hx hb hr (fun t ht hW => ⟨12, rfl, by first | (simp only [xKind, if_neg c_2, if_neg c_4, if_pos c_6, if_pos c_10, bI_t, bI_f]; done) | (simp only [xKind, if_neg c_2, if_neg c_4, if_pos c_6, if_pos c_10, bI_t, bI_f]; rfl), ht⟩) hS.2.2 dX0_kind_52
    · have c_4 := bI_n0 c_4
      refine lv_iinc (v := 2) (lv' := [(2, .int 2), (0, .ref h0), (1, .int v)]) hx hb dX0_kind_25 hl (k := 0) rfl (by decide) (by decide) rfl (fun ls hl => ?_)
      refine va_gets hx hb hz2 hS hown (hts (.fieldLink RX0 69 RX0 "NAME_BEGINS" "[I") (by decide +kernel)) (fun _ h9 => h9) dX0_kind_28 ?_
      refine lv_iload_n hx hb dX0_kind_31 rfl (lv_at hl 2 rfl) ?_
      refine vp_callSi (W.runS (As := [.ref t2, .int v]) (rest := []) ⟨hx, hb, hml, hown, hts⟩ (c_X0_isIn l t2 16 fNB v (by decide)) (va_cwS 2 hts gX0_kind_X0_isIn rfl rfl rfl (by decide +kernel) ⟨Nat.le_of_ble_eq_true rfl, Nat.le_of_ble_eq_true rfl⟩) ⟨fun _ U g mk q => ⟨q.1, va_T.moved (u := U) (U := U.calling g mk _) (Vm.Alike.refl U.vm) q.2⟩, fun U hU hW => ⟨rfl, tb_T ht2 hS hU hW⟩⟩ rfl rfl hl.1 rfl (lv_room (Nat.le_of_ble_eq_true rfl)) dX0_kind_32 ⟨Nat.le_of_ble_eq_true rfl, Nat.le_of_ble_eq_true rfl⟩) (fun r_11 er_11 => ?_)
      obtain rfl : r_11 = bI (xIn fNB v 16) := er_11
      refine lv_if_eq (tgt := 41) hx hb dX0_kind_35 (by decide) (fun c_12 => ?_) (fun c_12 => ?_)
      · have c_12 := bI_0 c_12
        refine lv_iload_n hx hb dX0_kind_41 rfl (lv_at hl 2 rfl) ?_
        refine vp_callSi (W.runS (As := [.int v]) (rest := []) ⟨hx, hb, hml, hown, hts⟩ (c_X0_isNamePart l t0 t1 t2 t3 v) (va_cwS 1 hts gX0_kind_X0_isNamePart rfl rfl rfl (by decide +kernel) ⟨Nat.le_of_ble_eq_true rfl, Nat.le_of_ble_eq_true rfl⟩) ⟨xtab_blind, fun U hU hW => ⟨rfl, xtab_call hT hS hU hW (fun _ q => q.elim)⟩⟩ rfl rfl hl.1 rfl (lv_room (Nat.le_of_ble_eq_true rfl)) dX0_kind_42 ⟨Nat.le_of_ble_eq_true rfl, Nat.le_of_ble_eq_true rfl⟩) (fun r_13 er_13 => ?_)
        obtain rfl : r_13 = bI (xNP v) := er_13
        refine lv_if_eq (tgt := 51) hx hb dX0_kind_45 (by decide) (fun c_14 => ?_) (fun c_14 => ?_)
        · have c_14 := bI_0 c_14
          refine lv_iload_n hx hb dX0_kind_51 rfl (lv_at hl 0 rfl) ?_
          exact W.iret (v := 2) hx hb hr (fun t ht hW => ⟨2, rfl, by first | (simp only [xKind, if_neg c_2, if_pos c_4, if_neg c_12, if_neg c_14, bI_t, bI_f]; done) | (simp only [xKind, if_neg c_2, if_pos c_4, if_neg c_12, if_neg c_14, bI_t, bI_f]; rfl), ht⟩) hS.2.2 dX0_kind_52
        · have c_14 := bI_n0 c_14
          refine lv_iinc (v := 10) (lv' := [(2, .int 10), (0, .ref h0), (1, .int v)]) hx hb dX0_kind_48 hl (k := 0) rfl (by decide) (by decide) rfl (fun ls hl => ?_)
          refine lv_iload_n hx hb dX0_kind_51 rfl (lv_at hl 0 rfl) ?_
          exact W.iret (v := 10) hx hb hr (fun t ht hW => ⟨10, rfl, by first | (simp only [xKind, if_neg c_2, if_pos c_4, if_neg c_12, if_pos c_14, bI_t, bI_f]; done) | (simp only [xKind, if_neg c_2, if_pos c_4, if_neg c_12, if_pos c_14, bI_t, bI_f]; rfl), ht⟩) hS.2.2 dX0_kind_52
      · have c_12 := bI_n0 c_12
        refine lv_iinc (v := 6) (lv' := [(2, .int 6), (0, .ref h0), (1, .int v)]) hx hb dX0_kind_38 hl (k := 0) rfl (by decide) (by decide) rfl (fun ls hl => ?_)
        refine lv_iload_n hx hb dX0_kind_41 rfl (lv_at hl 2 rfl) ?_
        refine vp_callSi (W.runS (As := [.int v]) (rest := []) ⟨hx, hb, hml, hown, hts⟩ (c_X0_isNamePart l t0 t1 t2 t3 v) (va_cwS 1 hts gX0_kind_X0_isNamePart rfl rfl rfl (by decide +kernel) ⟨Nat.le_of_ble_eq_true rfl, Nat.le_of_ble_eq_true rfl⟩) ⟨xtab_blind, fun U hU hW => ⟨rfl, xtab_call hT hS hU hW (fun _ q => q.elim)⟩⟩ rfl rfl hl.1 rfl (lv_room (Nat.le_of_ble_eq_true rfl)) dX0_kind_42 ⟨Nat.le_of_ble_eq_true rfl, Nat.le_of_ble_eq_true rfl⟩) (fun r_15 er_15 => ?_)
        obtain rfl : r_15 = bI (xNP v) := er_15
        refine lv_if_eq (tgt := 51) hx hb dX0_kind_45 (by decide) (fun c_16 => ?_) (fun c_16 => ?_)
        · have c_16 := bI_0 c_16
          refine lv_iload_n hx hb dX0_kind_51 rfl (lv_at hl 0 rfl) ?_
          exact W.iret (v := 6) hx hb hr (fun t ht hW => ⟨6, rfl, by first | (simp only [xKind, if_neg c_2, if_pos c_4, if_pos c_12, if_neg c_16, bI_t, bI_f]; done) | (simp only [xKind, if_neg c_2, if_pos c_4, if_pos c_12, if_neg c_16, bI_t, bI_f]; rfl), ht⟩) hS.2.2 dX0_kind_52
        · have c_16 := bI_n0 c_16
          refine lv_iinc (v := 14) (lv' := [(2, .int 14), (0, .ref h0), (1, .int v)]) hx hb dX0_kind_48 hl (k := 0) rfl (by decide) (by decide) rfl (fun ls hl => ?_)
          refine lv_iload_n hx hb dX0_kind_51 rfl (lv_at hl 0 rfl) ?_
          exact W.iret (v := 14) hx hb hr (fun t ht hW => ⟨14, rfl, by first | (simp only [xKind, if_neg c_2, if_pos c_4, if_pos c_12, if_pos c_16, bI_t, bI_f]; done) | (simp only [xKind, if_neg c_2, if_pos c_4, if_pos c_12, if_pos c_16, bI_t, bI_f]; rfl), ht⟩) hS.2.2 dX0_kind_52
  · have c_2 := bI_n0 c_2
    refine lv_iinc (v := 1) (lv' := [(2, .int 1), (0, .ref h0), (1, .int v)]) hx hb dX0_kind_12 hl (k := 0) rfl (by decide) (by decide) rfl (fun ls hl => ?_)
    refine va_gets hx hb hz1 hS hown (hts (.fieldLink RX0 66 RX0 "BLANKS" "[I") (by decide +kernel)) (fun _ h9 => h9) dX0_kind_15 ?_
    refine lv_iload_n hx hb dX0_kind_18 rfl (lv_at hl 2 rfl) ?_
    refine vp_callSi (W.runS (As := [.ref t1, .int v]) (rest := []) ⟨hx, hb, hml, hown, hts⟩ (c_X0_isIn l t1 3 fBL v (by decide)) (va_cwS 2 hts gX0_kind_X0_isIn rfl rfl rfl (by decide +kernel) ⟨Nat.le_of_ble_eq_true rfl, Nat.le_of_ble_eq_true rfl⟩) ⟨fun _ U g mk q => ⟨q.1, va_T.moved (u := U) (U := U.calling g mk _) (Vm.Alike.refl U.vm) q.2⟩, fun U hU hW => ⟨rfl, tb_T ht1 hS hU hW⟩⟩ rfl rfl hl.1 rfl (lv_room (Nat.le_of_ble_eq_true rfl)) dX0_kind_19 ⟨Nat.le_of_ble_eq_true rfl, Nat.le_of_ble_eq_true rfl⟩) (fun r_17 er_17 => ?_)
    obtain rfl : r_17 = bI (xIn fBL v 3) := er_17
    refine lv_if_eq (tgt := 28) hx hb dX0_kind_22 (by decide) (fun c_18 => ?_) (fun c_18 => ?_)
    · have c_18 := bI_0 c_18
      refine va_gets hx hb hz2 hS hown (hts (.fieldLink RX0 69 RX0 "NAME_BEGINS" "[I") (by decide +kernel)) (fun _ h9 => h9) dX0_kind_28 ?_
      refine lv_iload_n hx hb dX0_kind_31 rfl (lv_at hl 2 rfl) ?_
      refine vp_callSi (W.runS (As := [.ref t2, .int v]) (rest := []) ⟨hx, hb, hml, hown, hts⟩ (c_X0_isIn l t2 16 fNB v (by decide)) (va_cwS 2 hts gX0_kind_X0_isIn rfl rfl rfl (by decide +kernel) ⟨Nat.le_of_ble_eq_true rfl, Nat.le_of_ble_eq_true rfl⟩) ⟨fun _ U g mk q => ⟨q.1, va_T.moved (u := U) (U := U.calling g mk _) (Vm.Alike.refl U.vm) q.2⟩, fun U hU hW => ⟨rfl, tb_T ht2 hS hU hW⟩⟩ rfl rfl hl.1 rfl (lv_room (Nat.le_of_ble_eq_true rfl)) dX0_kind_32 ⟨Nat.le_of_ble_eq_true rfl, Nat.le_of_ble_eq_true rfl⟩) (fun r_19 er_19 => ?_)
      obtain rfl : r_19 = bI (xIn fNB v 16) := er_19
      refine lv_if_eq (tgt := 41) hx hb dX0_kind_35 (by decide) (fun c_20 => ?_) (fun c_20 => ?_)
      · have c_20 := bI_0 c_20
        refine lv_iload_n hx hb dX0_kind_41 rfl (lv_at hl 2 rfl) ?_
        refine vp_callSi (W.runS (As := [.int v]) (rest := []) ⟨hx, hb, hml, hown, hts⟩ (c_X0_isNamePart l t0 t1 t2 t3 v) (va_cwS 1 hts gX0_kind_X0_isNamePart rfl rfl rfl (by decide +kernel) ⟨Nat.le_of_ble_eq_true rfl, Nat.le_of_ble_eq_true rfl⟩) ⟨xtab_blind, fun U hU hW => ⟨rfl, xtab_call hT hS hU hW (fun _ q => q.elim)⟩⟩ rfl rfl hl.1 rfl (lv_room (Nat.le_of_ble_eq_true rfl)) dX0_kind_42 ⟨Nat.le_of_ble_eq_true rfl, Nat.le_of_ble_eq_true rfl⟩) (fun r_21 er_21 => ?_)
        obtain rfl : r_21 = bI (xNP v) := er_21
        refine lv_if_eq (tgt := 51) hx hb dX0_kind_45 (by decide) (fun c_22 => ?_) (fun c_22 => ?_)
        · have c_22 := bI_0 c_22
          refine lv_iload_n hx hb dX0_kind_51 rfl (lv_at hl 0 rfl) ?_
          exact W.iret (v := 1) hx hb hr (fun t ht hW => ⟨1, rfl, by first | (simp only [xKind, if_pos c_2, if_neg c_18, if_neg c_20, if_neg c_22, bI_t, bI_f]; done) | (simp only [xKind, if_pos c_2, if_neg c_18, if_neg c_20, if_neg c_22, bI_t, bI_f]; rfl), ht⟩) hS.2.2 dX0_kind_52
        · have c_22 := bI_n0 c_22
          refine lv_iinc (v := 9) (lv' := [(2, .int 9), (0, .ref h0), (1, .int v)]) hx hb dX0_kind_48 hl (k := 0) rfl (by decide) (by decide) rfl (fun ls hl => ?_)
          refine lv_iload_n hx hb dX0_kind_51 rfl (lv_at hl 0 rfl) ?_
          exact W.iret (v := 9) hx hb hr (fun t ht hW => ⟨9, rfl, by first | (simp only [xKind, if_pos c_2, if_neg c_18, if_neg c_20, if_pos c_22, bI_t, bI_f]; done) | (simp only [xKind, if_pos c_2, if_neg c_18, if_neg c_20, if_pos c_22, bI_t, bI_f]; rfl), ht⟩) hS.2.2 dX0_kind_52
      · have c_20 := bI_n0 c_20
        refine lv_iinc (v := 5) (lv' := [(2, .int 5), (0, .ref h0), (1, .int v)]) hx hb dX0_kind_38 hl (k := 0) rfl (by decide) (by decide) rfl (fun ls hl => ?_)
        refine lv_iload_n hx hb dX0_kind_41 rfl (lv_at hl 2 rfl) ?_
        refine vp_callSi (W.runS (As := [.int v]) (rest := []) ⟨hx, hb, hml, hown, hts⟩ (c_X0_isNamePart l t0 t1 t2 t3 v) (va_cwS 1 hts gX0_kind_X0_isNamePart rfl rfl rfl (by decide +kernel) ⟨Nat.le_of_ble_eq_true rfl, Nat.le_of_ble_eq_true rfl⟩) ⟨xtab_blind, fun U hU hW => ⟨rfl, xtab_call hT hS hU hW (fun _ q => q.elim)⟩⟩ rfl rfl hl.1 rfl (lv_room (Nat.le_of_ble_eq_true rfl)) dX0_kind_42 ⟨Nat.le_of_ble_eq_true rfl, Nat.le_of_ble_eq_true rfl⟩) (fun r_23 er_23 => ?_)
        obtain rfl : r_23 = bI (xNP v) := er_23
        refine lv_if_eq (tgt := 51) hx hb dX0_kind_45 (by decide) (fun c_24 => ?_) (fun c_24 => ?_)
        · have c_24 := bI_0 c_24
          refine lv_iload_n hx hb dX0_kind_51 rfl (lv_at hl 0 rfl) ?_
          exact W.iret (v := 5) hx hb hr (fun t ht hW => ⟨5, rfl, by first | (simp only [xKind, if_pos c_2, if_neg c_18, if_pos c_20, if_neg c_24, bI_t, bI_f]; done) | (simp only [xKind, if_pos c_2, if_neg c_18, if_pos c_20, if_neg c_24, bI_t, bI_f]; rfl), ht⟩) hS.2.2 dX0_kind_52
        · have c_24 := bI_n0 c_24
          refine lv_iinc (v := 13) (lv' := [(2, .int 13), (0, .ref h0), (1, .int v)]) hx hb dX0_kind_48 hl (k := 0) rfl (by decide) (by decide) rfl (fun ls hl => ?_)
          refine lv_iload_n hx hb dX0_kind_51 rfl (lv_at hl 0 rfl) ?_
          exact W.iret (v := 13) hx hb hr (fun t ht hW => ⟨13, rfl, by first | (simp only [xKind, if_pos c_2, if_neg c_18, if_pos c_20, if_pos c_24, bI_t, bI_f]; done) | (simp only [xKind, if_pos c_2, if_neg c_18, if_pos c_20, if_pos c_24, bI_t, bI_f]; rfl), ht⟩) hS.2.2 dX0_kind_52
    · have c_18 := bI_n0 c_18
      refine lv_iinc (v := 3) (lv' := [(2, .int 3), (0, .ref h0), (1, .int v)]) hx hb dX0_kind_25 hl (k := 0) rfl (by decide) (by decide) rfl (fun ls hl => ?_)
      refine va_gets hx hb hz2 hS hown (hts (.fieldLink RX0 69 RX0 "NAME_BEGINS" "[I") (by decide +kernel)) (fun _ h9 => h9) dX0_kind_28 ?_
      refine lv_iload_n hx hb dX0_kind_31 rfl (lv_at hl 2 rfl) ?_
      refine vp_callSi (W.runS (As := [.ref t2, .int v]) (rest := []) ⟨hx, hb, hml, hown, hts⟩ (c_X0_isIn l t2 16 fNB v (by decide)) (va_cwS 2 hts gX0_kind_X0_isIn rfl rfl rfl (by decide +kernel) ⟨Nat.le_of_ble_eq_true rfl, Nat.le_of_ble_eq_true rfl⟩) ⟨fun _ U g mk q => ⟨q.1, va_T.moved (u := U) (U := U.calling g mk _) (Vm.Alike.refl U.vm) q.2⟩, fun U hU hW => ⟨rfl, tb_T ht2 hS hU hW⟩⟩ rfl rfl hl.1 rfl (lv_room (Nat.le_of_ble_eq_true rfl)) dX0_kind_32 ⟨Nat.le_of_ble_eq_true rfl, Nat.le_of_ble_eq_true rfl⟩) (fun r_25 er_25 => ?_)
      obtain rfl : r_25 = bI (xIn fNB v 16) := er_25
      refine lv_if_eq (tgt := 41) hx hb dX0_kind_35 (by decide) (fun c_26 => ?_) (fun c_26 => ?_)
      · have c_26 := bI_0 c_26
        refine lv_iload_n hx hb dX0_kind_41 rfl (lv_at hl 2 rfl) ?_
        refine vp_callSi (W.runS (As := [.int v]) (rest := []) ⟨hx, hb, hml, hown, hts⟩ (c_X0_isNamePart l t0 t1 t2 t3 v) (va_cwS 1 hts gX0_kind_X0_isNamePart rfl rfl rfl (by decide +kernel) ⟨Nat.le_of_ble_eq_true rfl, Nat.le_of_ble_eq_true rfl⟩) ⟨xtab_blind, fun U hU hW => ⟨rfl, xtab_call hT hS hU hW (fun _ q => q.elim)⟩⟩ rfl rfl hl.1 rfl (lv_room (Nat.le_of_ble_eq_true rfl)) dX0_kind_42 ⟨Nat.le_of_ble_eq_true rfl, Nat.le_of_ble_eq_true rfl⟩) (fun r_27 er_27 => ?_)
        obtain rfl : r_27 = bI (xNP v) := er_27
        refine lv_if_eq (tgt := 51) hx hb dX0_kind_45 (by decide) (fun c_28 => ?_) (fun c_28 => ?_)
        · have c_28 := bI_0 c_28
          refine lv_iload_n hx hb dX0_kind_51 rfl (lv_at hl 0 rfl) ?_
          exact W.iret (v := 3) hx hb hr (fun t ht hW => ⟨3, rfl, by first | (simp only [xKind, if_pos c_2, if_pos c_18, if_neg c_26, if_neg c_28, bI_t, bI_f]; done) | (simp only [xKind, if_pos c_2, if_pos c_18, if_neg c_26, if_neg c_28, bI_t, bI_f]; rfl), ht⟩) hS.2.2 dX0_kind_52
        · have c_28 := bI_n0 c_28
          refine lv_iinc (v := 11) (lv' := [(2, .int 11), (0, .ref h0), (1, .int v)]) hx hb dX0_kind_48 hl (k := 0) rfl (by decide) (by decide) rfl (fun ls hl => ?_)
          refine lv_iload_n hx hb dX0_kind_51 rfl (lv_at hl 0 rfl) ?_
          exact W.iret (v := 11) hx hb hr (fun t ht hW => ⟨11, rfl, by first | (simp only [xKind, if_pos c_2, if_pos c_18, if_neg c_26, if_pos c_28, bI_t, bI_f]; done) | (simp only [xKind, if_pos c_2, if_pos c_18, if_neg c_26, if_pos c_28, bI_t, bI_f]; rfl), ht⟩) hS.2.2 dX0_kind_52
      · have c_26 := bI_n0 c_26
        refine lv_iinc (v := 7) (lv' := [(2, .int 7), (0, .ref h0), (1, .int v)]) hx hb dX0_kind_38 hl (k := 0) rfl (by decide) (by decide) rfl (fun ls hl => ?_)
        refine lv_iload_n hx hb dX0_kind_41 rfl (lv_at hl 2 rfl) ?_
        refine vp_callSi (W.runS (As := [.int v]) (rest := []) ⟨hx, hb, hml, hown, hts⟩ (c_X0_isNamePart l t0 t1 t2 t3 v) (va_cwS 1 hts gX0_kind_X0_isNamePart rfl rfl rfl (by decide +kernel) ⟨Nat.le_of_ble_eq_true rfl, Nat.le_of_ble_eq_true rfl⟩) ⟨xtab_blind, fun U hU hW => ⟨rfl, xtab_call hT hS hU hW (fun _ q => q.elim)⟩⟩ rfl rfl hl.1 rfl (lv_room (Nat.le_of_ble_eq_true rfl)) dX0_kind_42 ⟨Nat.le_of_ble_eq_true rfl, Nat.le_of_ble_eq_true rfl⟩) (fun r_29 er_29 => ?_)
        obtain rfl : r_29 = bI (xNP v) := er_29
        refine lv_if_eq (tgt := 51) hx hb dX0_kind_45 (by decide) (fun c_30 => ?_) (fun c_30 => ?_)
        · have c_30 := bI_0 c_30
          refine lv_iload_n hx hb dX0_kind_51 rfl (lv_at hl 0 rfl) ?_
          exact W.iret (v := 7) hx hb hr (fun t ht hW => ⟨7, rfl, by first | (simp only [xKind, if_pos c_2, if_pos c_18, if_pos c_26, if_neg c_30, bI_t, bI_f]; done) | (simp only [xKind, if_pos c_2, if_pos c_18, if_pos c_26, if_neg c_30, bI_t, bI_f]; rfl), ht⟩) hS.2.2 dX0_kind_52
        · have c_30 := bI_n0 c_30
          refine lv_iinc (v := 15) (lv' := [(2, .int 15), (0, .ref h0), (1, .int v)]) hx hb dX0_kind_48 hl (k := 0) rfl (by decide) (by decide) rfl (fun ls hl => ?_)
          refine lv_iload_n hx hb dX0_kind_51 rfl (lv_at hl 0 rfl) ?_
          exact W.iret (v := 15) hx hb hr (fun t ht hW => ⟨15, rfl, by first | (simp only [xKind, if_pos c_2, if_pos c_18, if_pos c_26, if_pos c_30, bI_t, bI_f]; done) | (simp only [xKind, if_pos c_2, if_pos c_18, if_pos c_26, if_pos c_30, bI_t, bI_f]; rfl), ht⟩) hS.2.2 dX0_kind_52
set_option maxHeartbeats 4000000 in
set_option maxRecDepth 100000 in
theorem c_X0_isLeftOut (l : Launch) (dC : Nat → ClassId) (dI : Nat → Nat → Nat) (h0 h1 h2 h3 : Nat) (cA : ClassId) (t0 t1 t2 t3 : Nat) (tx : Nat → Int32) (n : Nat) (ch pl : Nat → Int32) (k : Nat) (rd : Bool) (fp : Int32) (v : Int32) (fr : Nat) (hfr : fr < 1000) : Met l yX0_isLeftOut wsX0_isLeftOut ({ frames := 0, cells := 0, slots := 0, locals := 0 }) (va_Pc [.ref h0, .int v, .int (nI fr)] (fun U => xpre dC dI h0 h1 h2 h3 cA t0 t1 t2 t3 (tx, n, ch, pl, k, rd, fp) U)) (vp_Si (fun r => r = bI (xLeft tx v fr))) 0 0 (fun _ => False) := by
  refine Met.ofW (cc := cX0_isLeftOut) (maxL := 3) (ret := (some .boolean)) (by decide) rfl ?_
  intro p e s m args below meth c s₁ B hml hv
  obtain ⟨rfl, hP, hK, hT⟩ := hv
  have hx := B.exec
  have hb := B.bytes
  have hr := B.returns
  have hts := atoms_spec (ws := wsX0_isLeftOut) B.pre
  have hown : s.vm.findClass RX0 = some m.cls := findClass_of_methodNamed B.named
  have hS : va_S (fun _ => False) s.heap s.heap [] := va_S.rf
  have hP : va_P (dC, dI) vwCl [(h0, .inr (0, [.ref h1, .int (nI n), .ref h2, .ref h3, .int (nI k), .int (bI rd), .int fp])), (h1, .inl (cA, 1000, .inl tx)), (h2, .inl (cA, 1000, .inl ch)), (h3, .inl (cA, 1001, .inl pl))] s.heap := hP
  have hIn : ∀ w ∈ wsX00, w ∈ wsX0_isLeftOut := by decide +kernel
  obtain ⟨hz0, ht0, hz1, ht1, hz2, ht2, hz3, ht3⟩ := id hT
  have hl := lv_entry ([.ref h0, .int v, .int (nI fr)]) (n := 3) (Nat.le_of_ble_eq_true rfl)
  rw [lg_entry_eq]
  generalize (lg_sl ([.ref h0, .int v, .int (nI fr)]) ++ List.replicate (3 - (lg_sl ([.ref h0, .int v, .int (nI fr)])).length) Slot.unset).toArray = ls at hl ⊢
  have hl : lv_has ls 3 [(0, .ref h0), (1, .int v), (2, .int (nI fr))] := hl
  refine lv_iload_n hx hb dX0_isLeftOut_0 rfl (lv_at hl 2 rfl) ?_
  refine lv_if_ne (tgt := 16) hx hb dX0_isLeftOut_1 (by decide) (fun c_1 => ?_) (fun c_1 => ?_)
  · refine lv_iload_n hx hb dX0_isLeftOut_16 rfl (lv_at hl 1 rfl) ?_
    refine lv_bipush (v := 10) hx hb dX0_isLeftOut_17 (by decide) ?_
    refine lv_icmp_ne (tgt := 39) hx hb dX0_isLeftOut_19 (by decide) (fun c_2 => ?_) (fun c_2 => ?_)
    · refine lv_iconst (v := 0) hx hb dX0_isLeftOut_39 (by decide) ?_
      exact W.zret (v := 0) (ty := .boolean) hx hb hr (rfl) (fun t ht hW => ⟨0, rfl, by first | (simp only [xLeft, if_neg c_1, if_neg c_2, bI_t, bI_f]; done) | (simp only [xLeft, if_neg c_1, if_neg c_2, bI_t, bI_f]; rfl), ht⟩) hS.2.2 dX0_isLeftOut_40
    · refine lv_aload_n hx hb dX0_isLeftOut_22 rfl (lv_at hl 0 rfl) ?_
      refine va_get (D := (dC, dI)) (ci := 0) (v := .ref h1) (C := RX0) (T := TX0) (N := 7) hx hb hts hIn hown hK hP 0 rfl rfl 0 (by decide) (hts (.fieldLink RX0 9 RX0 "text" "[I") (by decide +kernel)) (fun _ h9 => h9) rfl dX0_isLeftOut_23 ?_
      refine lv_iload_n hx hb dX0_isLeftOut_26 rfl (lv_at hl 2 rfl) ?_
      refine lv_iconst (v := 1) hx hb dX0_isLeftOut_27 (by decide) ?_
      refine lv_isub hx hb dX0_isLeftOut_28 ?_
      have hf0 : 0 < fr := Nat.pos_of_ne_zero (fun q => c_1 (by rw [q]; rfl))
      refine lv_topi (fun x_3 ex_3 => ?_)
      obtain rfl : x_3 = nI (fr - 1) := ex_3.trans (pk_sub (b := 1) (by omega))
      refine va_iald hx hb hK hP 1 0 rfl rfl (vp_in_nI (by omega) (by omega)) dX0_isLeftOut_29 ?_
      refine lv_topi (fun x_4 ex_4 => ?_)
      obtain rfl : x_4 = tx (fr - 1) := ex_4.trans (by rw [nI_clamp (by omega)])
      refine lv_bipush (v := 13) hx hb dX0_isLeftOut_30 (by decide) ?_
      refine lv_icmp_ne (tgt := 39) hx hb dX0_isLeftOut_32 (by decide) (fun c_5 => ?_) (fun c_5 => ?_)
      · refine lv_iconst (v := 0) hx hb dX0_isLeftOut_39 (by decide) ?_
        exact W.zret (v := 0) (ty := .boolean) hx hb hr (rfl) (fun t ht hW => ⟨0, rfl, by first | (simp only [xLeft, if_neg c_1, if_pos c_2, if_neg c_5, bI_t, bI_f]; done) | (simp only [xLeft, if_neg c_1, if_pos c_2, if_neg c_5, bI_t, bI_f]; rfl), ht⟩) hS.2.2 dX0_isLeftOut_40
      · refine lv_iconst (v := 1) hx hb dX0_isLeftOut_35 (by decide) ?_
        refine lv_goto (tgt := 40) hx hb dX0_isLeftOut_36 (by decide) ?_
        exact W.zret (v := 1) (ty := .boolean) hx hb hr (rfl) (fun t ht hW => ⟨1, rfl, by first | (simp only [xLeft, if_neg c_1, if_pos c_2, if_pos c_5, bI_t, bI_f]; done) | (simp only [xLeft, if_neg c_1, if_pos c_2, if_pos c_5, bI_t, bI_f]; rfl), ht⟩) hS.2.2 dX0_isLeftOut_40
  · refine lv_iload_n hx hb dX0_isLeftOut_4 rfl (lv_at hl 1 rfl) ?_
    refine lv_ldc (own := RX0) (v := 65279) hx hb hown (hts (.constant RX0 101 65279) (by decide +kernel)) dX0_isLeftOut_5 ?_
    refine lv_icmp_ne (tgt := 14) hx hb dX0_isLeftOut_7 (by decide) (fun c_6 => ?_) (fun c_6 => ?_)
    · refine lv_iconst (v := 0) hx hb dX0_isLeftOut_14 (by decide) ?_
      exact W.zret (v := 0) (ty := .boolean) hx hb hr (rfl) (fun t ht hW => ⟨0, rfl, by first | (simp only [xLeft, if_pos c_1, if_neg c_6, bI_t, bI_f]; done) | (simp only [xLeft, if_pos c_1, if_neg c_6, bI_t, bI_f]; rfl), ht⟩) hS.2.2 dX0_isLeftOut_15
    · refine lv_iconst (v := 1) hx hb dX0_isLeftOut_10 (by decide) ?_
      refine lv_goto (tgt := 15) hx hb dX0_isLeftOut_11 (by decide) ?_
      exact W.zret (v := 1) (ty := .boolean) hx hb hr (rfl) (fun t ht hW => ⟨1, rfl, by first | (simp only [xLeft, if_pos c_1, if_pos c_6, bI_t, bI_f]; done) | (simp only [xLeft, if_pos c_1, if_pos c_6, bI_t, bI_f]; rfl), ht⟩) hS.2.2 dX0_isLeftOut_15
set_option maxHeartbeats 4000000 in
set_option maxRecDepth 100000 in
theorem c_X0_decodedAt (l : Launch) (dC : Nat → ClassId) (dI : Nat → Nat → Nat) (h0 h1 h2 h3 : Nat) (cA : ClassId) (t0 t1 t2 t3 : Nat) (tx : Nat → Int32) (n : Nat) (ch pl : Nat → Int32) (k : Nat) (rd : Bool) (fp : Int32) (fr : Nat) (hn : n ≤ 1000) (hfr : fr < n) : Met l yX0_decodedAt wsX0_decodedAt ({ frames := 1, cells := 0, slots := 0, locals := 20 }) (va_Pc [.ref h0, .int (nI fr)] (fun U => xpre dC dI h0 h1 h2 h3 cA t0 t1 t2 t3 (tx, n, ch, pl, k, rd, fp) U)) (vp_Si (fun r => r = xDec tx n fr)) 0 0 (fun _ => False) := by
  refine Met.ofW (cc := cX0_decodedAt) (maxL := 7) (ret := (some .int)) (by decide) rfl ?_
  intro p e s m args below meth c s₁ B hml hv
  obtain ⟨rfl, hP, hK, hT⟩ := hv
  have hx := B.exec
  have hb := B.bytes
  have hr := B.returns
  have hts := atoms_spec (ws := wsX0_decodedAt) B.pre
  have hown : s.vm.findClass RX0 = some m.cls := findClass_of_methodNamed B.named
  have hS : va_S (fun _ => False) s.heap s.heap [] := va_S.rf
  have hP : va_P (dC, dI) vwCl [(h0, .inr (0, [.ref h1, .int (nI n), .ref h2, .ref h3, .int (nI k), .int (bI rd), .int fp])), (h1, .inl (cA, 1000, .inl tx)), (h2, .inl (cA, 1000, .inl ch)), (h3, .inl (cA, 1001, .inl pl))] s.heap := hP
  have hIn : ∀ w ∈ wsX00, w ∈ wsX0_decodedAt := by decide +kernel
  obtain ⟨hz0, ht0, hz1, ht1, hz2, ht2, hz3, ht3⟩ := id hT
  have hl := lv_entry ([.ref h0, .int (nI fr)]) (n := 7) (Nat.le_of_ble_eq_true rfl)
  rw [lg_entry_eq]
  generalize (lg_sl ([.ref h0, .int (nI fr)]) ++ List.replicate (7 - (lg_sl ([.ref h0, .int (nI fr)])).length) Slot.unset).toArray = ls at hl ⊢
  have hl : lv_has ls 7 [(0, .ref h0), (1, .int (nI fr))] := hl
  have hq0 : ∀ fo : Nat, xFol (tx fr) = nI fo → fo ≤ 3 → fr + fo < n → ∀ (d q : Nat) (acc : Int32) (ls : Array Slot), q + d = fo + 1 → 1 ≤ q → (∀ r, r = xDecE (xDl tx fr d q acc) (nI fo) → r = xDec tx n fr) → lv_has ls 7 [(5, .int (nI q)), (4, .int acc), (3, .int (nI fo)), (2, .int (tx fr)), (0, .ref h0), (1, .int (nI fr))] → W p l e (headSpec wsX0_decodedAt ({ frames := 1, cells := 0, slots := 0, locals := 20 })).room s m ([.ref h0, .int (nI fr)] : List Value).toArray below meth c s.heap [] 0 0 (MQ below (vp_Si (fun r => r = xDec tx n fr)) ([.ref h0, .int (nI fr)] : List Value).toArray s 0 0 (fun _ => False)) (F0 m 47 ls []) := by
    intro fo hfo hf3 hlt d
    induction d with
    | zero =>
      intro q acc ls hq hq1 hpost hl
      refine lv_iload hx hb dX0_decodedAt_47 (lv_at hl 0 rfl) ?_
      refine lv_iload_n hx hb dX0_decodedAt_49 rfl (lv_at hl 2 rfl) ?_
      refine lv_icmp_gt (tgt := 97) hx hb dX0_decodedAt_50 (by decide) (fun c_1 => ?_) (fun c_1 => ?_)
      · refine lv_iload hx hb dX0_decodedAt_97 (lv_at hl 1 rfl) ?_
        refine vp_callSi (W.runS (As := [.int acc]) (rest := []) ⟨hx, hb, hml, hown, hts⟩ (c_X0_widthOf l acc) (va_cwS 1 hts gX0_decodedAt_X0_widthOf rfl rfl rfl (by decide +kernel) ⟨Nat.le_of_ble_eq_true rfl, Nat.le_of_ble_eq_true rfl⟩) ⟨fun _ _ _ _ q => q, fun U hU hW => ⟨rfl, trivial⟩⟩ rfl rfl hl.1 rfl (lv_room (Nat.le_of_ble_eq_true rfl)) dX0_decodedAt_99 ⟨Nat.le_of_ble_eq_true rfl, Nat.le_of_ble_eq_true rfl⟩) (fun r_2 er_2 => ?_)
        obtain rfl : r_2 = xWidth acc := er_2
        refine lv_iload_n hx hb dX0_decodedAt_102 rfl (lv_at hl 2 rfl) ?_
        refine lv_iconst (v := 1) hx hb dX0_decodedAt_103 (by decide) ?_
        refine lv_iadd hx hb dX0_decodedAt_104 ?_
        refine lv_icmp_ne (tgt := 113) hx hb dX0_decodedAt_105 (by decide) (fun c_3 => ?_) (fun c_3 => ?_)
        · refine lv_iconst (v := -1) hx hb dX0_decodedAt_113 (by decide) ?_
          exact W.iret (v := (-1)) hx hb hr (fun t ht hW => ⟨(-1), rfl, hpost _ (by simp only [xDl, xDecE, if_neg c_3]), ht⟩) hS.2.2 dX0_decodedAt_114
        · refine lv_iload hx hb dX0_decodedAt_108 (lv_at hl 1 rfl) ?_
          refine lv_goto (tgt := 114) hx hb dX0_decodedAt_110 (by decide) ?_
          exact W.iret (v := acc) hx hb hr (fun t ht hW => ⟨acc, rfl, hpost _ (by simp only [xDl, xDecE, if_pos c_3]), ht⟩) hS.2.2 dX0_decodedAt_114
      · exact absurd (nI_lt (by omega) (by omega)) c_1
    | succ d ih =>
      intro q acc ls hq hq1 hpost hl
      refine lv_iload hx hb dX0_decodedAt_47 (lv_at hl 0 rfl) ?_
      refine lv_iload_n hx hb dX0_decodedAt_49 rfl (lv_at hl 2 rfl) ?_
      refine lv_icmp_gt (tgt := 97) hx hb dX0_decodedAt_50 (by decide) (fun c_4 => ?_) (fun c_4 => ?_)
      · exact absurd c_4 (nI_nlt (by omega) (by omega))
      · refine lv_aload_n hx hb dX0_decodedAt_53 rfl (lv_at hl 4 rfl) ?_
        refine va_get (D := (dC, dI)) (ci := 0) (v := .ref h1) (C := RX0) (T := TX0) (N := 7) hx hb hts hIn hown hK hP 0 rfl rfl 0 (by decide) (hts (.fieldLink RX0 9 RX0 "text" "[I") (by decide +kernel)) (fun _ h9 => h9) rfl dX0_decodedAt_54 ?_
        refine lv_iload_n hx hb dX0_decodedAt_57 rfl (lv_at hl 5 rfl) ?_
        refine lv_iload hx hb dX0_decodedAt_58 (lv_at hl 0 rfl) ?_
        refine lv_iadd hx hb dX0_decodedAt_60 ?_
        refine lv_topi (fun x_5 ex_5 => ?_)
        obtain rfl : x_5 = nI (fr + q) := ex_5.trans (nI_add _ _)
        refine va_iald hx hb hK hP 1 0 rfl rfl (vp_in_nI (by omega) (by omega)) dX0_decodedAt_61 ?_
        refine lv_topi (fun x_6 ex_6 => ?_)
        obtain rfl : x_6 = tx (fr + q) := ex_6.trans (by rw [nI_clamp (by omega)])
        refine lv_istore (lv' := [(6, .int (tx (fr + q))), (5, .int (nI q)), (4, .int acc), (3, .int (nI fo)), (2, .int (tx fr)), (0, .ref h0), (1, .int (nI fr))]) hx hb dX0_decodedAt_62 hl (by decide) rfl (fun ls hl => ?_)
        refine lv_iload hx hb dX0_decodedAt_64 (lv_at hl 0 rfl) ?_
        refine lv_sipush (v := 192) hx hb dX0_decodedAt_66 (by decide) ?_
        refine lv_iand hx hb dX0_decodedAt_69 ?_
        refine lv_sipush (v := 128) hx hb dX0_decodedAt_70 (by decide) ?_
        refine lv_icmp_eq (tgt := 78) hx hb dX0_decodedAt_73 (by decide) (fun c_7 => ?_) (fun c_7 => ?_)
        · refine lv_iload hx hb dX0_decodedAt_78 (lv_at hl 2 rfl) ?_
          refine lv_bipush (v := 6) hx hb dX0_decodedAt_80 (by decide) ?_
          refine lv_ishl hx hb dX0_decodedAt_82 ?_
          refine lv_iload hx hb dX0_decodedAt_83 (lv_at hl 0 rfl) ?_
          refine lv_bipush (v := 63) hx hb dX0_decodedAt_85 (by decide) ?_
          refine lv_iand hx hb dX0_decodedAt_87 ?_
          refine lv_ior hx hb dX0_decodedAt_88 ?_
          refine lv_topi (fun x_8 ex_8 => ?_)
          refine lv_istore (lv' := [(4, .int x_8), (6, .int (tx (fr + q))), (5, .int (nI q)), (3, .int (nI fo)), (2, .int (tx fr)), (0, .ref h0), (1, .int (nI fr))]) hx hb dX0_decodedAt_89 hl (by decide) rfl (fun ls hl => ?_)
          refine lv_iinc (v := nI (q + 1)) (lv' := [(5, .int (nI (q + 1))), (4, .int x_8), (6, .int (tx (fr + q))), (3, .int (nI fo)), (2, .int (tx fr)), (0, .ref h0), (1, .int (nI fr))]) hx hb dX0_decodedAt_91 hl (k := 2) rfl (nI_1 _) (by decide) rfl (fun ls hl => ?_)
          refine lv_goto (tgt := 47) hx hb dX0_decodedAt_94 (by decide) ?_
          exact ih (q + 1) x_8 ls (by omega) (by omega) (fun r hr' => hpost r (by rw [hr', ex_8]; simp only [xDl, if_pos c_7])) (lv_sub hl [0, 1, 3, 4, 5, 6] rfl)
        · refine lv_iconst (v := -1) hx hb dX0_decodedAt_76 (by decide) ?_
          exact W.iret (v := (-1)) hx hb hr (fun t ht hW => ⟨(-1), rfl, hpost _ (by simp only [xDl, xDecE, if_neg c_7]), ht⟩) hS.2.2 dX0_decodedAt_77
  refine lv_aload_n hx hb dX0_decodedAt_0 rfl (lv_at hl 0 rfl) ?_
  refine va_get (D := (dC, dI)) (ci := 0) (v := .ref h1) (C := RX0) (T := TX0) (N := 7) hx hb hts hIn hown hK hP 0 rfl rfl 0 (by decide) (hts (.fieldLink RX0 9 RX0 "text" "[I") (by decide +kernel)) (fun _ h9 => h9) rfl dX0_decodedAt_1 ?_
  refine lv_iload_n hx hb dX0_decodedAt_4 rfl (lv_at hl 1 rfl) ?_
  refine va_iald hx hb hK hP 1 0 rfl rfl (vp_in_nI (by omega) (by omega)) dX0_decodedAt_5 ?_
  refine lv_topi (fun x_9 ex_9 => ?_)
  obtain rfl : x_9 = tx fr := ex_9.trans (by rw [nI_clamp (by omega)])
  refine lv_istore_n (lv' := [(2, .int (tx fr)), (0, .ref h0), (1, .int (nI fr))]) hx hb dX0_decodedAt_6 rfl hl (by decide) rfl (fun ls hl => ?_)
  refine lv_iload_n hx hb dX0_decodedAt_7 rfl (lv_at hl 0 rfl) ?_
  refine vp_callSi (W.runS (As := [.int (tx fr)]) (rest := []) ⟨hx, hb, hml, hown, hts⟩ (c_X0_followersOf l (tx fr)) (va_cwS 1 hts gX0_decodedAt_X0_followersOf rfl rfl rfl (by decide +kernel) ⟨Nat.le_of_ble_eq_true rfl, Nat.le_of_ble_eq_true rfl⟩) ⟨fun _ _ _ _ q => q, fun U hU hW => ⟨rfl, trivial⟩⟩ rfl rfl hl.1 rfl (lv_room (Nat.le_of_ble_eq_true rfl)) dX0_decodedAt_8 ⟨Nat.le_of_ble_eq_true rfl, Nat.le_of_ble_eq_true rfl⟩) (fun r_10 er_10 => ?_)
  obtain rfl : r_10 = xFol (tx fr) := er_10
  refine lv_istore_n (lv' := [(3, .int (xFol (tx fr))), (2, .int (tx fr)), (0, .ref h0), (1, .int (nI fr))]) hx hb dX0_decodedAt_11 rfl hl (by decide) rfl (fun ls hl => ?_)
  refine lv_iload_n hx hb dX0_decodedAt_12 rfl (lv_at hl 0 rfl) ?_
  refine lv_if_lt (tgt := 26) hx hb dX0_decodedAt_13 (by decide) (fun c_11 => ?_) (fun c_11 => ?_)
  · refine lv_iconst (v := -1) hx hb dX0_decodedAt_26 (by decide) ?_
    exact W.iret (v := (-1)) hx hb hr (fun t ht hW => ⟨(-1), rfl, by simp only [xDec, if_pos c_11], ht⟩) hS.2.2 dX0_decodedAt_27
  · obtain ⟨fo, hf3, hfo⟩ := xFol_nat c_11
    rw [hfo] at c_11 hl
    refine lv_iload_n hx hb dX0_decodedAt_16 rfl (lv_at hl 3 rfl) ?_
    refine lv_iload_n hx hb dX0_decodedAt_17 rfl (lv_at hl 0 rfl) ?_
    refine lv_iadd hx hb dX0_decodedAt_18 ?_
    refine lv_topi (fun x_12 ex_12 => ?_)
    obtain rfl : x_12 = nI (fr + fo) := ex_12.trans (nI_add _ _)
    refine lv_aload_n hx hb dX0_decodedAt_19 rfl (lv_at hl 2 rfl) ?_
    refine va_get (D := (dC, dI)) (ci := 0) (v := .int (nI n)) (C := RX0) (T := TX0) (N := 7) hx hb hts hIn hown hK hP 0 rfl rfl 1 (by decide) (hts (.fieldLink RX0 19 RX0 "textLength" "I") (by decide +kernel)) (fun _ h9 => h9) rfl dX0_decodedAt_20 ?_
    refine lv_icmp_lt (tgt := 28) hx hb dX0_decodedAt_23 (by decide) (fun c_13 => ?_) (fun c_13 => ?_)
    · have hlt : fr + fo < n := (nI_ltI (by omega) (by omega)).mp c_13
      refine lv_iload_n hx hb dX0_decodedAt_28 rfl (lv_at hl 0 rfl) ?_
      refine lv_if_ne (tgt := 36) hx hb dX0_decodedAt_29 (by decide) (fun c_14 => ?_) (fun c_14 => ?_)
      · refine lv_iload_n hx hb dX0_decodedAt_36 rfl (lv_at hl 1 rfl) ?_
        refine lv_bipush (v := 63) hx hb dX0_decodedAt_37 (by decide) ?_
        refine lv_iload_n hx hb dX0_decodedAt_39 rfl (lv_at hl 0 rfl) ?_
        refine lv_ishr hx hb dX0_decodedAt_40 ?_
        refine lv_iand hx hb dX0_decodedAt_41 ?_
        refine lv_topi (fun x_15 ex_15 => ?_)
        refine lv_istore (lv' := [(4, .int x_15), (3, .int (nI fo)), (2, .int (tx fr)), (0, .ref h0), (1, .int (nI fr))]) hx hb dX0_decodedAt_42 hl (by decide) rfl (fun ls hl => ?_)
        refine lv_iconst (v := 1) hx hb dX0_decodedAt_44 (by decide) ?_
        refine lv_istore (lv' := [(5, .int 1), (4, .int x_15), (3, .int (nI fo)), (2, .int (tx fr)), (0, .ref h0), (1, .int (nI fr))]) hx hb dX0_decodedAt_45 hl (by decide) rfl (fun ls hl => ?_)
        exact hq0 fo hfo hf3 hlt fo 1 x_15 ls (by omega) (by omega) (fun r hr' => by rw [hr', ex_15]; simp only [xDec, hfo, nI_cl3 (fo := fo) (by omega), if_neg c_11, if_pos hlt, if_neg c_14]) (lv_sub hl [0, 1, 2, 3, 4, 5] rfl)
      · refine lv_iload_n hx hb dX0_decodedAt_32 rfl (lv_at hl 1 rfl) ?_
        refine lv_goto (tgt := 42) hx hb dX0_decodedAt_33 (by decide) ?_
        refine lv_istore (lv' := [(4, .int (tx fr)), (3, .int (nI fo)), (2, .int (tx fr)), (0, .ref h0), (1, .int (nI fr))]) hx hb dX0_decodedAt_42 hl (by decide) rfl (fun ls hl => ?_)
        refine lv_iconst (v := 1) hx hb dX0_decodedAt_44 (by decide) ?_
        refine lv_istore (lv' := [(5, .int 1), (4, .int (tx fr)), (3, .int (nI fo)), (2, .int (tx fr)), (0, .ref h0), (1, .int (nI fr))]) hx hb dX0_decodedAt_45 hl (by decide) rfl (fun ls hl => ?_)
        exact hq0 fo hfo hf3 hlt fo 1 (tx fr) ls (by omega) (by omega) (fun r hr' => by rw [hr']; simp only [xDec, hfo, nI_cl3 (fo := fo) (by omega), if_neg c_11, if_pos hlt, if_pos c_14]) (lv_sub hl [0, 1, 2, 3, 4, 5] rfl)
    · have hlt : ¬ fr + fo < n := fun q => c_13 ((nI_ltI (by omega) (by omega)).mpr q)
      refine lv_iconst (v := -1) hx hb dX0_decodedAt_26 (by decide) ?_
      exact W.iret (v := (-1)) hx hb hr (fun t ht hW => ⟨(-1), rfl, by simp only [xDec, hfo, nI_cl3 (fo := fo) (by omega), if_neg c_11, if_neg hlt], ht⟩) hS.2.2 dX0_decodedAt_27
end
section
set_option maxHeartbeats 4000000 in
set_option maxRecDepth 100000 in
theorem c_X0_run (l : Launch) (dC : Nat → ClassId) (dI : Nat → Nat → Nat) (h0 h1 h2 h3 : Nat) (cA : ClassId) (t0 t1 t2 t3 : Nat) (tx : Nat → Int32) (n : Nat) (ch pl : Nat → Int32) (k : Nat) (rd : Bool) (fp : Int32) (kd i : Int32) (hk : k ≤ 1000) : Met l yX0_run wsX0_run ({ frames := 3, cells := 0, slots := 0, locals := 63 }) (va_Pc [.ref h0, .int kd, .int i] (fun U => xpre dC dI h0 h1 h2 h3 cA t0 t1 t2 t3 (tx, n, ch, pl, k, rd, fp) U)) (vp_Si (fun r => r = xRun ch k kd i)) 0 0 (fun _ => False) := by
  refine Met.ofW (cc := cX0_run) (maxL := 4) (ret := (some .int)) (by decide) rfl ?_
  intro p e s m args below meth c s₁ B hml hv
  obtain ⟨rfl, hP, hK, hT⟩ := hv
  have hx := B.exec
  have hb := B.bytes
  have hr := B.returns
  have hts := atoms_spec (ws := wsX0_run) B.pre
  have hown : s.vm.findClass RX0 = some m.cls := findClass_of_methodNamed B.named
  have hS : va_S (fun _ => False) s.heap s.heap [] := va_S.rf
  have hP : va_P (dC, dI) vwCl [(h0, .inr (0, [.ref h1, .int (nI n), .ref h2, .ref h3, .int (nI k), .int (bI rd), .int fp])), (h1, .inl (cA, 1000, .inl tx)), (h2, .inl (cA, 1000, .inl ch)), (h3, .inl (cA, 1001, .inl pl))] s.heap := hP
  have hIn : ∀ w ∈ wsX00, w ∈ wsX0_run := by decide +kernel
  obtain ⟨hz0, ht0, hz1, ht1, hz2, ht2, hz3, ht3⟩ := id hT
  have hl := lv_entry ([.ref h0, .int kd, .int i]) (n := 4) (Nat.le_of_ble_eq_true rfl)
  rw [lg_entry_eq]
  generalize (lg_sl ([.ref h0, .int kd, .int i]) ++ List.replicate (4 - (lg_sl ([.ref h0, .int kd, .int i])).length) Slot.unset).toArray = ls at hl ⊢
  have hl : lv_has ls 4 [(0, .ref h0), (1, .int kd), (2, .int i)] := hl
  refine lv_aload_n hx hb dX0_run_0 rfl (lv_at hl 0 rfl) ?_
  refine lv_iload_n hx hb dX0_run_1 rfl (lv_at hl 2 rfl) ?_
  refine vp_callSi (W.runV (As := [.int i]) (rest := []) ⟨hx, hb, hml, hown, hts⟩ (c_X0_hasCharacter l dC dI h0 h1 h2 h3 cA t0 t1 t2 t3 tx n ch pl k rd fp i) (cwV 1 hts gX0_run_X0_hasCharacter rfl rfl rfl (by decide +kernel) ⟨Nat.le_of_ble_eq_true rfl, Nat.le_of_ble_eq_true rfl⟩) ⟨xpre_blind, va_recv hK hP (ci := 0) (q0 := 0) rfl rfl, fun U hU hW => ⟨rfl, xpre_of hP hK hT hS hU hW⟩⟩ rfl rfl hl.1 rfl (lv_room (Nat.le_of_ble_eq_true rfl)) dX0_run_2 ⟨Nat.le_of_ble_eq_true rfl, Nat.le_of_ble_eq_true rfl⟩) (fun r_1 er_1 => ?_)
  obtain rfl : r_1 = bI (xHas k i) := er_1
  refine lv_if_ne (tgt := 10) hx hb dX0_run_5 (by decide) (fun c_2 => ?_) (fun c_2 => ?_)
  · have c_2 := bI_n0 c_2
    obtain ⟨j, hj, rfl⟩ := xHas_of hk c_2
    have hcl : (nI j).toNatClampNeg = j := nI_clamp (by omega)
    have loop : ∀ (d q : Nat) (ls : Array Slot), q + d = k → j ≤ q → (∀ r, r = nI (runEnd (fun z => xBel kd (ch z)) d q - j) → r = xRun ch k kd (nI j)) → lv_has ls 4 [(3, .int (nI q)), (0, .ref h0), (1, .int kd), (2, .int (nI j))] → W p l e (headSpec wsX0_run ({ frames := 3, cells := 0, slots := 0, locals := 63 })).room s m ([.ref h0, .int kd, .int (nI j)] : List Value).toArray below meth c s.heap [] 0 0 (MQ below (vp_Si (fun r => r = xRun ch k kd (nI j))) ([.ref h0, .int kd, .int (nI j)] : List Value).toArray s 0 0 (fun _ => False)) (F0 m 33 ls []) := by
      intro d
      induction d with
      | zero =>
        intro q ls hq hjq hpost hl
        refine lv_iload_n hx hb dX0_run_33 rfl (lv_at hl 0 rfl) ?_
        refine lv_aload_n hx hb dX0_run_34 rfl (lv_at hl 1 rfl) ?_
        refine va_get (D := (dC, dI)) (ci := 0) (v := .int (nI k)) (C := RX0) (T := TX0) (N := 7) hx hb hts hIn hown hK hP 0 rfl rfl 4 (by decide) (hts (.fieldLink RX0 23 RX0 "count" "I") (by decide +kernel)) (fun _ h9 => h9) rfl dX0_run_35 ?_
        refine lv_icmp_ge (tgt := 60) hx hb dX0_run_38 (by decide) (fun c_3 => ?_) (fun c_3 => ?_)
        · refine lv_iload_n hx hb dX0_run_60 rfl (lv_at hl 0 rfl) ?_
          refine lv_iload_n hx hb dX0_run_61 rfl (lv_at hl 3 rfl) ?_
          refine lv_isub hx hb dX0_run_62 ?_
          refine lv_topi (fun x_4 ex_4 => ?_)
          obtain rfl : x_4 = nI (q - j) := ex_4.trans (pk_sub (by omega))
          exact W.iret (v := nI (q - j)) hx hb hr (fun t ht hW => ⟨nI (q - j), rfl, hpost _ (by simp only [runEnd]), ht⟩) hS.2.2 dX0_run_63
        · exact absurd (nI_le (by omega) (by omega)) c_3
      | succ d ih =>
        intro q ls hq hjq hpost hl
        refine lv_iload_n hx hb dX0_run_33 rfl (lv_at hl 0 rfl) ?_
        refine lv_aload_n hx hb dX0_run_34 rfl (lv_at hl 1 rfl) ?_
        refine va_get (D := (dC, dI)) (ci := 0) (v := .int (nI k)) (C := RX0) (T := TX0) (N := 7) hx hb hts hIn hown hK hP 0 rfl rfl 4 (by decide) (hts (.fieldLink RX0 23 RX0 "count" "I") (by decide +kernel)) (fun _ h9 => h9) rfl dX0_run_35 ?_
        refine lv_icmp_ge (tgt := 60) hx hb dX0_run_38 (by decide) (fun c_5 => ?_) (fun c_5 => ?_)
        · exact absurd c_5 (nI_ge (by omega) (by omega))
        · refine lv_iload_n hx hb dX0_run_41 rfl (lv_at hl 2 rfl) ?_
          refine lv_aload_n hx hb dX0_run_42 rfl (lv_at hl 1 rfl) ?_
          refine va_get (D := (dC, dI)) (ci := 0) (v := .ref h2) (C := RX0) (T := TX0) (N := 7) hx hb hts hIn hown hK hP 0 rfl rfl 2 (by decide) (hts (.fieldLink RX0 13 RX0 "characters" "[I") (by decide +kernel)) (fun _ h9 => h9) rfl dX0_run_43 ?_
          refine lv_iload_n hx hb dX0_run_46 rfl (lv_at hl 0 rfl) ?_
          refine va_iald hx hb hK hP 2 0 rfl rfl (vp_in_nI (by omega) (by omega)) dX0_run_47 ?_
          refine lv_topi (fun x_6 ex_6 => ?_)
          obtain rfl : x_6 = ch q := ex_6.trans (by rw [nI_clamp (by omega)])
          refine vp_callSi (W.runS (As := [.int kd, .int (ch q)]) (rest := []) ⟨hx, hb, hml, hown, hts⟩ (c_X0_belongsToRun l t0 t1 t2 t3 kd (ch q)) (va_cwS 2 hts gX0_run_X0_belongsToRun rfl rfl rfl (by decide +kernel) ⟨Nat.le_of_ble_eq_true rfl, Nat.le_of_ble_eq_true rfl⟩) ⟨xtab_blind, fun U hU hW => ⟨rfl, xtab_call hT hS hU hW (fun _ q => q.elim)⟩⟩ rfl rfl hl.1 rfl (lv_room (Nat.le_of_ble_eq_true rfl)) dX0_run_48 ⟨Nat.le_of_ble_eq_true rfl, Nat.le_of_ble_eq_true rfl⟩) (fun r_7 er_7 => ?_)
          obtain rfl : r_7 = bI (xBel kd (ch q)) := er_7
          refine lv_if_eq (tgt := 60) hx hb dX0_run_51 (by decide) (fun c_8 => ?_) (fun c_8 => ?_)
          · have c_8 := bI_0 c_8
            refine lv_iload_n hx hb dX0_run_60 rfl (lv_at hl 0 rfl) ?_
            refine lv_iload_n hx hb dX0_run_61 rfl (lv_at hl 3 rfl) ?_
            refine lv_isub hx hb dX0_run_62 ?_
            refine lv_topi (fun x_9 ex_9 => ?_)
            obtain rfl : x_9 = nI (q - j) := ex_9.trans (pk_sub (by omega))
            exact W.iret (v := nI (q - j)) hx hb hr (fun t ht hW => ⟨nI (q - j), rfl, hpost _ (by simp only [runEnd, if_neg c_8]), ht⟩) hS.2.2 dX0_run_63
          · have c_8 := bI_n0 c_8
            refine lv_iinc (v := nI (q + 1)) (lv' := [(3, .int (nI (q + 1))), (0, .ref h0), (1, .int kd), (2, .int (nI j))]) hx hb dX0_run_54 hl (k := 0) rfl (nI_1 _) (by decide) rfl (fun ls hl => ?_)
            refine lv_goto (tgt := 33) hx hb dX0_run_57 (by decide) ?_
            exact ih (q + 1) ls (by omega) (by omega) (fun r hr' => hpost r (by rw [hr']; simp only [runEnd, if_pos c_8])) (lv_sub hl [0, 1, 2, 3] rfl)
    refine lv_iload_n hx hb dX0_run_10 rfl (lv_at hl 1 rfl) ?_
    refine lv_if_ne (tgt := 31) hx hb dX0_run_11 (by decide) (fun c_10 => ?_) (fun c_10 => ?_)
    · refine lv_iload_n hx hb dX0_run_31 rfl (lv_at hl 2 rfl) ?_
      refine lv_istore_n (lv' := [(3, .int (nI j)), (0, .ref h0), (1, .int kd), (2, .int (nI j))]) hx hb dX0_run_32 rfl hl (by decide) rfl (fun ls hl => ?_)
      exact loop (k - j) j ls (by omega) (by omega) (fun r hr' => by rw [hr']; simp only [xRun, hcl, if_pos c_2, if_neg c_10]) (lv_sub hl [0, 1, 2, 3] rfl)
    · refine va_gets hx hb hz2 hS hown (hts (.fieldLink RX0 69 RX0 "NAME_BEGINS" "[I") (by decide +kernel)) (fun _ h9 => h9) dX0_run_14 ?_
      refine lv_aload_n hx hb dX0_run_17 rfl (lv_at hl 0 rfl) ?_
      refine va_get (D := (dC, dI)) (ci := 0) (v := .ref h2) (C := RX0) (T := TX0) (N := 7) hx hb hts hIn hown hK hP 0 rfl rfl 2 (by decide) (hts (.fieldLink RX0 13 RX0 "characters" "[I") (by decide +kernel)) (fun _ h9 => h9) rfl dX0_run_18 ?_
      refine lv_iload_n hx hb dX0_run_21 rfl (lv_at hl 2 rfl) ?_
      refine va_iald hx hb hK hP 2 0 rfl rfl (vp_in_nI (by omega) (by omega)) dX0_run_22 ?_
      refine lv_topi (fun x_11 ex_11 => ?_)
      obtain rfl : x_11 = ch j := ex_11.trans (by rw [nI_clamp (by omega)])
      refine vp_callSi (W.runS (As := [.ref t2, .int (ch j)]) (rest := []) ⟨hx, hb, hml, hown, hts⟩ (c_X0_isIn l t2 16 fNB (ch j) (by decide)) (va_cwS 2 hts gX0_run_X0_isIn rfl rfl rfl (by decide +kernel) ⟨Nat.le_of_ble_eq_true rfl, Nat.le_of_ble_eq_true rfl⟩) ⟨fun _ U g mk q => ⟨q.1, va_T.moved (u := U) (U := U.calling g mk _) (Vm.Alike.refl U.vm) q.2⟩, fun U hU hW => ⟨rfl, tb_T ht2 hS hU hW⟩⟩ rfl rfl hl.1 rfl (lv_room (Nat.le_of_ble_eq_true rfl)) dX0_run_23 ⟨Nat.le_of_ble_eq_true rfl, Nat.le_of_ble_eq_true rfl⟩) (fun r_12 er_12 => ?_)
      obtain rfl : r_12 = bI (xIn fNB (ch j) 16) := er_12
      refine lv_if_ne (tgt := 31) hx hb dX0_run_26 (by decide) (fun c_13 => ?_) (fun c_13 => ?_)
      · have c_13 := bI_n0 c_13
        refine lv_iload_n hx hb dX0_run_31 rfl (lv_at hl 2 rfl) ?_
        refine lv_istore_n (lv' := [(3, .int (nI j)), (0, .ref h0), (1, .int kd), (2, .int (nI j))]) hx hb dX0_run_32 rfl hl (by decide) rfl (fun ls hl => ?_)
        exact loop (k - j) j ls (by omega) (by omega) (fun r hr' => by rw [hr']; simp only [xRun, hcl, if_pos c_2, if_pos c_10, if_pos c_13]) (lv_sub hl [0, 1, 2, 3] rfl)
      · have c_13 := bI_0 c_13
        refine lv_iconst (v := 0) hx hb dX0_run_29 (by decide) ?_
        exact W.iret (v := 0) hx hb hr (fun t ht hW => ⟨0, rfl, by simp only [xRun, hcl, if_pos c_2, if_pos c_10, if_neg c_13], ht⟩) hS.2.2 dX0_run_30
  · have c_2 := bI_0 c_2
    refine lv_iconst (v := 0) hx hb dX0_run_8 (by decide) ?_
    exact W.iret (v := 0) hx hb hr (fun t ht hW => ⟨0, rfl, by simp only [xRun, if_neg c_2], ht⟩) hS.2.2 dX0_run_9
set_option maxHeartbeats 4000000 in
set_option maxRecDepth 100000 in
/-- Integer.compare -/
theorem c_icmp (l : Launch) (a b : Int32) : Met l yJ6_compare_7cf53 wsJ6_compare_7cf53 ({ frames := 0, cells := 0, slots := 0, locals := 0 }) (va_Pc [.int a, .int b] (fun U => True)) (vp_Si (fun r => r = xIcmp a b)) 0 0 (fun _ => False) := by
  refine Met.ofW (cc := cJ6_compare_7cf53) (maxL := 2) (ret := (some .int)) (by decide) rfl ?_
  intro p e s m args below meth c s₁ B hml hv
  obtain ⟨rfl, -⟩ := hv
  have hx := B.exec
  have hb := B.bytes
  have hr := B.returns
  have hts := atoms_spec (ws := wsJ6_compare_7cf53) B.pre
  have hown : s.vm.findClass RJ6 = some m.cls := findClass_of_methodNamed B.named
  have hS : va_S (fun _ => False) s.heap s.heap [] := va_S.rf
  have hl := lv_entry ([.int a, .int b]) (n := 2) (Nat.le_of_ble_eq_true rfl)
  rw [lg_entry_eq]
  generalize (lg_sl ([.int a, .int b]) ++ List.replicate (2 - (lg_sl ([.int a, .int b])).length) Slot.unset).toArray = ls at hl ⊢
  have hl : lv_has ls 2 [(0, .int a), (1, .int b)] := hl
  refine lv_iload_n hx hb dJ6_compare_7cf53_0 rfl (lv_at hl 0 rfl) ?_
  refine lv_iload_n hx hb dJ6_compare_7cf53_1 rfl (lv_at hl 1 rfl) ?_
  refine lv_icmp_ge (tgt := 9) hx hb dJ6_compare_7cf53_2 (by decide) (fun c_1 => ?_) (fun c_1 => ?_)
  · refine lv_iload_n hx hb dJ6_compare_7cf53_9 rfl (lv_at hl 0 rfl) ?_
    refine lv_iload_n hx hb dJ6_compare_7cf53_10 rfl (lv_at hl 1 rfl) ?_
    refine lv_icmp_ne (tgt := 18) hx hb dJ6_compare_7cf53_11 (by decide) (fun c_2 => ?_) (fun c_2 => ?_)
    · refine lv_iconst (v := 1) hx hb dJ6_compare_7cf53_18 (by decide) ?_
      exact W.iret (v := 1) hx hb hr (fun t ht hW => ⟨1, rfl, by first | (simp only [xIcmp, if_pos c_1, if_neg c_2, bI_t, bI_f]; done) | (simp only [xIcmp, if_pos c_1, if_neg c_2, bI_t, bI_f]; rfl), ht⟩) hS.2.2 dJ6_compare_7cf53_19
    · refine lv_iconst (v := 0) hx hb dJ6_compare_7cf53_14 (by decide) ?_
      refine lv_goto (tgt := 19) hx hb dJ6_compare_7cf53_15 (by decide) ?_
      exact W.iret (v := 0) hx hb hr (fun t ht hW => ⟨0, rfl, by first | (simp only [xIcmp, if_pos c_1, if_pos c_2, bI_t, bI_f]; done) | (simp only [xIcmp, if_pos c_1, if_pos c_2, bI_t, bI_f]; rfl), ht⟩) hS.2.2 dJ6_compare_7cf53_19
  · refine lv_iconst (v := -1) hx hb dJ6_compare_7cf53_5 (by decide) ?_
    refine lv_goto (tgt := 19) hx hb dJ6_compare_7cf53_6 (by decide) ?_
    exact W.iret (v := (-1)) hx hb hr (fun t ht hW => ⟨(-1), rfl, by first | (simp only [xIcmp, if_neg c_1, bI_t, bI_f]; done) | (simp only [xIcmp, if_neg c_1, bI_t, bI_f]; rfl), ht⟩) hS.2.2 dJ6_compare_7cf53_19
set_option maxHeartbeats 4000000 in
set_option maxRecDepth 100000 in
theorem c_X0_compare (l : Launch) (dC : Nat → ClassId) (dI : Nat → Nat → Nat) (h0 h1 h2 h3 : Nat) (cA : ClassId) (t0 t1 t2 t3 : Nat) (tx : Nat → Int32) (n : Nat) (ch pl : Nat → Int32) (k : Nat) (rd : Bool) (fp : Int32) (i j q : Int32) (hk : k ≤ 1000) : Met l yX0_compare wsX0_compare ({ frames := 1, cells := 0, slots := 0, locals := 22 }) (va_Pc [.ref h0, .int i, .int j, .int q] (fun U => xpre dC dI h0 h1 h2 h3 cA t0 t1 t2 t3 (tx, n, ch, pl, k, rd, fp) U)) (vp_Si (fun r => r = xCmp ch rd k i j q)) 0 0 (fun _ => False) := by
  refine Met.ofW (cc := cX0_compare) (maxL := 6) (ret := (some .int)) (by decide) rfl ?_
  intro p e s m args below meth c s₁ B hml hv
  obtain ⟨rfl, hP, hK, hT⟩ := hv
  have hx := B.exec
  have hb := B.bytes
  have hr := B.returns
  have hts := atoms_spec (ws := wsX0_compare) B.pre
  have hown : s.vm.findClass RX0 = some m.cls := findClass_of_methodNamed B.named
  have hS : va_S (fun _ => False) s.heap s.heap [] := va_S.rf
  have hP : va_P (dC, dI) vwCl [(h0, .inr (0, [.ref h1, .int (nI n), .ref h2, .ref h3, .int (nI k), .int (bI rd), .int fp])), (h1, .inl (cA, 1000, .inl tx)), (h2, .inl (cA, 1000, .inl ch)), (h3, .inl (cA, 1001, .inl pl))] s.heap := hP
  have hIn : ∀ w ∈ wsX00, w ∈ wsX0_compare := by decide +kernel
  obtain ⟨hz0, ht0, hz1, ht1, hz2, ht2, hz3, ht3⟩ := id hT
  have hl := lv_entry ([.ref h0, .int i, .int j, .int q]) (n := 6) (Nat.le_of_ble_eq_true rfl)
  rw [lg_entry_eq]
  generalize (lg_sl ([.ref h0, .int i, .int j, .int q]) ++ List.replicate (6 - (lg_sl ([.ref h0, .int i, .int j, .int q])).length) Slot.unset).toArray = ls at hl ⊢
  have hl : lv_has ls 6 [(0, .ref h0), (1, .int i), (2, .int j), (3, .int q)] := hl
  refine lv_aload_n hx hb dX0_compare_0 rfl (lv_at hl 0 rfl) ?_
  refine lv_iload_n hx hb dX0_compare_1 rfl (lv_at hl 1 rfl) ?_
  refine lv_iload_n hx hb dX0_compare_2 rfl (lv_at hl 3 rfl) ?_
  refine vp_callSi (W.runV (As := [.int i, .int q]) (rest := []) ⟨hx, hb, hml, hown, hts⟩ (c_X0_hasStretch l dC dI h0 h1 h2 h3 cA t0 t1 t2 t3 tx n ch pl k rd fp i q) (cwV 2 hts gX0_compare_X0_hasStretch rfl rfl rfl (by decide +kernel) ⟨Nat.le_of_ble_eq_true rfl, Nat.le_of_ble_eq_true rfl⟩) ⟨xpre_blind, va_recv hK hP (ci := 0) (q0 := 0) rfl rfl, fun U hU hW => ⟨rfl, xpre_of hP hK hT hS hU hW⟩⟩ rfl rfl hl.1 rfl (lv_room (Nat.le_of_ble_eq_true rfl)) dX0_compare_3 ⟨Nat.le_of_ble_eq_true rfl, Nat.le_of_ble_eq_true rfl⟩) (fun r_1 er_1 => ?_)
  obtain rfl : r_1 = bI (xStr rd k i q) := er_1
  refine lv_if_eq (tgt := 18) hx hb dX0_compare_6 (by decide) (fun c_2 => ?_) (fun c_2 => ?_)
  · have c_2 := bI_0 c_2
    refine lv_bipush (v := -2) hx hb dX0_compare_18 (by decide) ?_
    exact W.iret (v := (-2)) hx hb hr (fun t ht hW => ⟨(-2), rfl, by first | (simp only [xCmp, if_neg c_2, bI_t, bI_f]; done) | (simp only [xCmp, if_neg c_2, bI_t, bI_f]; rfl), ht⟩) hS.2.2 dX0_compare_20
  · have c_2 := bI_n0 c_2
    refine lv_aload_n hx hb dX0_compare_9 rfl (lv_at hl 0 rfl) ?_
    refine lv_iload_n hx hb dX0_compare_10 rfl (lv_at hl 2 rfl) ?_
    refine lv_iload_n hx hb dX0_compare_11 rfl (lv_at hl 3 rfl) ?_
    refine vp_callSi (W.runV (As := [.int j, .int q]) (rest := []) ⟨hx, hb, hml, hown, hts⟩ (c_X0_hasStretch l dC dI h0 h1 h2 h3 cA t0 t1 t2 t3 tx n ch pl k rd fp j q) (cwV 2 hts gX0_compare_X0_hasStretch rfl rfl rfl (by decide +kernel) ⟨Nat.le_of_ble_eq_true rfl, Nat.le_of_ble_eq_true rfl⟩) ⟨xpre_blind, va_recv hK hP (ci := 0) (q0 := 0) rfl rfl, fun U hU hW => ⟨rfl, xpre_of hP hK hT hS hU hW⟩⟩ rfl rfl hl.1 rfl (lv_room (Nat.le_of_ble_eq_true rfl)) dX0_compare_12 ⟨Nat.le_of_ble_eq_true rfl, Nat.le_of_ble_eq_true rfl⟩) (fun r_3 er_3 => ?_)
    obtain rfl : r_3 = bI (xStr rd k j q) := er_3
    refine lv_if_ne (tgt := 21) hx hb dX0_compare_15 (by decide) (fun c_4 => ?_) (fun c_4 => ?_)
    · have c_4 := bI_n0 c_4
      obtain ⟨a, q', ha, hi', hq'⟩ := xStr_of hk c_2
      obtain ⟨b, q2, hb2, hj', hq2⟩ := xStr_of hk c_4
      obtain rfl : q' = q2 := (nI_eq (by omega) (by omega)).mp (hq'.symm.trans hq2)
      subst hi' hj' hq'
      have hc1 : (nI a).toNatClampNeg = a := nI_clamp (by omega)
      have hc2 : (nI b).toNatClampNeg = b := nI_clamp (by omega)
      have hc3 : (nI q').toNatClampNeg = q' := nI_clamp (by omega)
      have loop : ∀ (d z : Nat) (ls : Array Slot), z + d = q' → (∀ r, r = cmpAt (fun y => ch (a + y)) (fun y => ch (b + y)) d z → r = xCmp ch rd k (nI a) (nI b) (nI q')) → lv_has ls 6 [(4, .int (nI z)), (0, .ref h0), (1, .int (nI a)), (2, .int (nI b)), (3, .int (nI q'))] → W p l e (headSpec wsX0_compare ({ frames := 1, cells := 0, slots := 0, locals := 22 })).room s m ([.ref h0, .int (nI a), .int (nI b), .int (nI q')] : List Value).toArray below meth c s.heap [] 0 0 (MQ below (vp_Si (fun r => r = xCmp ch rd k (nI a) (nI b) (nI q'))) ([.ref h0, .int (nI a), .int (nI b), .int (nI q')] : List Value).toArray s 0 0 (fun _ => False)) (F0 m 24 ls []) := by
        intro d
        induction d with
        | zero =>
          intro z ls hz hpost hl
          refine lv_iload hx hb dX0_compare_24 (lv_at hl 0 rfl) ?_
          refine lv_iload_n hx hb dX0_compare_26 rfl (lv_at hl 4 rfl) ?_
          refine lv_icmp_ge (tgt := 75) hx hb dX0_compare_27 (by decide) (fun c_5 => ?_) (fun c_5 => ?_)
          · refine lv_iconst (v := 0) hx hb dX0_compare_75 (by decide) ?_
            exact W.iret (v := 0) hx hb hr (fun t ht hW => ⟨0, rfl, hpost _ (by simp only [cmpAt]), ht⟩) hS.2.2 dX0_compare_76
          · exact absurd (nI_le (by omega) (by omega)) c_5
        | succ d ih =>
          intro z ls hz hpost hl
          refine lv_iload hx hb dX0_compare_24 (lv_at hl 0 rfl) ?_
          refine lv_iload_n hx hb dX0_compare_26 rfl (lv_at hl 4 rfl) ?_
          refine lv_icmp_ge (tgt := 75) hx hb dX0_compare_27 (by decide) (fun c_6 => ?_) (fun c_6 => ?_)
          · exact absurd c_6 (nI_ge (by omega) (by omega))
          · refine lv_aload_n hx hb dX0_compare_30 rfl (lv_at hl 1 rfl) ?_
            refine va_get (D := (dC, dI)) (ci := 0) (v := .ref h2) (C := RX0) (T := TX0) (N := 7) hx hb hts hIn hown hK hP 0 rfl rfl 2 (by decide) (hts (.fieldLink RX0 13 RX0 "characters" "[I") (by decide +kernel)) (fun _ h9 => h9) rfl dX0_compare_31 ?_
            refine lv_iload_n hx hb dX0_compare_34 rfl (lv_at hl 2 rfl) ?_
            refine lv_iload hx hb dX0_compare_35 (lv_at hl 0 rfl) ?_
            refine lv_iadd hx hb dX0_compare_37 ?_
            refine lv_topi (fun x_7 ex_7 => ?_)
            obtain rfl : x_7 = nI (a + z) := ex_7.trans (nI_add _ _)
            refine va_iald hx hb hK hP 2 0 rfl rfl (vp_in_nI (by omega) (by omega)) dX0_compare_38 ?_
            refine lv_topi (fun x_8 ex_8 => ?_)
            obtain rfl : x_8 = ch (a + z) := ex_8.trans (by rw [nI_clamp (by omega)])
            refine lv_aload_n hx hb dX0_compare_39 rfl (lv_at hl 1 rfl) ?_
            refine va_get (D := (dC, dI)) (ci := 0) (v := .ref h2) (C := RX0) (T := TX0) (N := 7) hx hb hts hIn hown hK hP 0 rfl rfl 2 (by decide) (hts (.fieldLink RX0 13 RX0 "characters" "[I") (by decide +kernel)) (fun _ h9 => h9) rfl dX0_compare_40 ?_
            refine lv_iload_n hx hb dX0_compare_43 rfl (lv_at hl 3 rfl) ?_
            refine lv_iload hx hb dX0_compare_44 (lv_at hl 0 rfl) ?_
            refine lv_iadd hx hb dX0_compare_46 ?_
            refine lv_topi (fun x_9 ex_9 => ?_)
            obtain rfl : x_9 = nI (b + z) := ex_9.trans (nI_add _ _)
            refine va_iald hx hb hK hP 2 0 rfl rfl (vp_in_nI (by omega) (by omega)) dX0_compare_47 ?_
            refine lv_topi (fun x_10 ex_10 => ?_)
            obtain rfl : x_10 = ch (b + z) := ex_10.trans (by rw [nI_clamp (by omega)])
            refine vp_callSi (W.runS (As := [.int (ch (a + z)), .int (ch (b + z))]) (rest := []) ⟨hx, hb, hml, hown, hts⟩ (c_icmp l (ch (a + z)) (ch (b + z))) (va_cwS 2 hts gX0_compare_J6_compare_7cf53 rfl rfl rfl (by decide +kernel) ⟨Nat.le_of_ble_eq_true rfl, Nat.le_of_ble_eq_true rfl⟩) ⟨fun _ _ _ _ q => q, fun U hU hW => ⟨rfl, trivial⟩⟩ rfl rfl hl.1 rfl (lv_room (Nat.le_of_ble_eq_true rfl)) dX0_compare_48 ⟨Nat.le_of_ble_eq_true rfl, Nat.le_of_ble_eq_true rfl⟩) (fun r_11 er_11 => ?_)
            obtain rfl : r_11 = xIcmp (ch (a + z)) (ch (b + z)) := er_11
            refine lv_istore (lv' := [(5, .int (xIcmp (ch (a + z)) (ch (b + z)))), (4, .int (nI z)), (0, .ref h0), (1, .int (nI a)), (2, .int (nI b)), (3, .int (nI q'))]) hx hb dX0_compare_51 hl (by decide) rfl (fun ls hl => ?_)
            refine lv_iload hx hb dX0_compare_53 (lv_at hl 0 rfl) ?_
            refine lv_if_eq (tgt := 69) hx hb dX0_compare_55 (by decide) (fun c_12 => ?_) (fun c_12 => ?_)
            · refine lv_iinc (v := nI (z + 1)) (lv' := [(4, .int (nI (z + 1))), (5, .int (xIcmp (ch (a + z)) (ch (b + z)))), (0, .ref h0), (1, .int (nI a)), (2, .int (nI b)), (3, .int (nI q'))]) hx hb dX0_compare_69 hl (k := 1) rfl (nI_1 _) (by decide) rfl (fun ls hl => ?_)
              refine lv_goto (tgt := 24) hx hb dX0_compare_72 (by decide) ?_
              exact ih (z + 1) ls (by omega) (fun r hr' => hpost r (by rw [hr']; exact (cmpAt_eq c_12).symm)) (lv_sub hl [0, 2, 3, 4, 5] rfl)
            · refine lv_iload hx hb dX0_compare_58 (lv_at hl 0 rfl) ?_
              refine lv_if_ge (tgt := 67) hx hb dX0_compare_60 (by decide) (fun c_13 => ?_) (fun c_13 => ?_)
              · refine lv_iconst (v := 1) hx hb dX0_compare_67 (by decide) ?_
                exact W.iret (v := 1) hx hb hr (fun t ht hW => ⟨1, rfl, hpost _ (cmpAt_gt c_12 c_13), ht⟩) hS.2.2 dX0_compare_68
              · refine lv_iconst (v := -1) hx hb dX0_compare_63 (by decide) ?_
                refine lv_goto (tgt := 68) hx hb dX0_compare_64 (by decide) ?_
                exact W.iret (v := (-1)) hx hb hr (fun t ht hW => ⟨(-1), rfl, hpost _ (cmpAt_lt c_12 c_13), ht⟩) hS.2.2 dX0_compare_68
      refine lv_iconst (v := 0) hx hb dX0_compare_21 (by decide) ?_
      refine lv_istore (lv' := [(4, .int 0), (0, .ref h0), (1, .int (nI a)), (2, .int (nI b)), (3, .int (nI q'))]) hx hb dX0_compare_22 hl (by decide) rfl (fun ls hl => ?_)
      exact loop q' 0 ls (by omega) (fun r hr' => by rw [hr']; simp only [xCmp, hc1, hc2, hc3, if_pos c_2, if_pos c_4]) (lv_sub hl [0, 1, 2, 3, 4] rfl)
    · have c_4 := bI_0 c_4
      refine lv_bipush (v := -2) hx hb dX0_compare_18 (by decide) ?_
      exact W.iret (v := (-2)) hx hb hr (fun t ht hW => ⟨(-2), rfl, by first | (simp only [xCmp, if_pos c_2, if_neg c_4, bI_t, bI_f]; done) | (simp only [xCmp, if_pos c_2, if_neg c_4, bI_t, bI_f]; rfl), ht⟩) hS.2.2 dX0_compare_20
set_option maxHeartbeats 4000000 in
set_option maxRecDepth 100000 in
theorem c_X0_bytes (l : Launch) (dC : Nat → ClassId) (dI : Nat → Nat → Nat) (h0 h1 h2 h3 : Nat) (cA : ClassId) (t0 t1 t2 t3 : Nat) (tx : Nat → Int32) (n : Nat) (ch pl : Nat → Int32) (k : Nat) (rd : Bool) (fp : Int32) (v : Int32) : Met l yX0_bytes wsX0_bytes ({ frames := 2, cells := 0, slots := 0, locals := 43 }) (va_Pc [.ref h0, .int v] (fun U => xpre dC dI h0 h1 h2 h3 cA t0 t1 t2 t3 (tx, n, ch, pl, k, rd, fp) U)) (vp_Sl (fun r => r = xBytes v)) 0 0 (fun _ => False) := by
  refine Met.ofW (cc := cX0_bytes) (maxL := 6) (ret := (some .long)) (by decide) rfl ?_
  intro p e s m args below meth c s₁ B hml hv
  obtain ⟨rfl, hP, hK, hT⟩ := hv
  have hx := B.exec
  have hb := B.bytes
  have hr := B.returns
  have hts := atoms_spec (ws := wsX0_bytes) B.pre
  have hown : s.vm.findClass RX0 = some m.cls := findClass_of_methodNamed B.named
  have hS : va_S (fun _ => False) s.heap s.heap [] := va_S.rf
  have hP : va_P (dC, dI) vwCl [(h0, .inr (0, [.ref h1, .int (nI n), .ref h2, .ref h3, .int (nI k), .int (bI rd), .int fp])), (h1, .inl (cA, 1000, .inl tx)), (h2, .inl (cA, 1000, .inl ch)), (h3, .inl (cA, 1001, .inl pl))] s.heap := hP
  obtain ⟨hz0, ht0, hz1, ht1, hz2, ht2, hz3, ht3⟩ := id hT
  have hl := lv_entry ([.ref h0, .int v]) (n := 6) (Nat.le_of_ble_eq_true rfl)
  rw [lg_entry_eq]
  generalize (lg_sl ([.ref h0, .int v]) ++ List.replicate (6 - (lg_sl ([.ref h0, .int v])).length) Slot.unset).toArray = ls at hl ⊢
  have hl : lv_has ls 6 [(0, .ref h0), (1, .int v)] := hl
  obtain ⟨wd, hw4, hwd⟩ := xWidth_nat v
  have hcw : (nI wd).toNatClampNeg = wd := nI_clamp (by omega)
  have loop : ∀ (d q : Nat) (acc : Int64) (ls : Array Slot), q + d = wd → acc = xPk v (nI wd) q → lv_has ls 6 [(5, .int (nI q)), (3, .long acc), (2, .int (nI wd)), (0, .ref h0), (1, .int v)] → W p l e (headSpec wsX0_bytes ({ frames := 2, cells := 0, slots := 0, locals := 43 })).room s m ([.ref h0, .int v] : List Value).toArray below meth c s.heap [] 0 0 (MQ below (vp_Sl (fun r => r = xBytes v)) ([.ref h0, .int v] : List Value).toArray s 0 0 (fun _ => False)) (F0 m 14 ls []) := by
    intro d
    induction d with
    | zero =>
      intro q acc ls hq hacc hl
      refine lv_iload hx hb dX0_bytes_14 (lv_at hl 0 rfl) ?_
      refine lv_iload_n hx hb dX0_bytes_16 rfl (lv_at hl 2 rfl) ?_
      refine lv_icmp_ge (tgt := 46) hx hb dX0_bytes_17 (by decide) (fun c_1 => ?_) (fun c_1 => ?_)
      · refine lv_lload_n hx hb dX0_bytes_46 rfl (lv_at hl 1 rfl) ?_
        exact W.lret (v := acc) hx hb hr (fun t ht hW => ⟨acc, rfl, (by rw [hacc, xBytes, hwd, hcw, show q = wd by omega]), ht⟩) hS.2.2 dX0_bytes_47
      · exact absurd (nI_le (by omega) (by omega)) c_1
    | succ d ih =>
      intro q acc ls hq hacc hl
      refine lv_iload hx hb dX0_bytes_14 (lv_at hl 0 rfl) ?_
      refine lv_iload_n hx hb dX0_bytes_16 rfl (lv_at hl 2 rfl) ?_
      refine lv_icmp_ge (tgt := 46) hx hb dX0_bytes_17 (by decide) (fun c_2 => ?_) (fun c_2 => ?_)
      · exact absurd c_2 (nI_ge (by omega) (by omega))
      · refine lv_lload_n hx hb dX0_bytes_20 rfl (lv_at hl 1 rfl) ?_
        refine lv_iload_n hx hb dX0_bytes_21 rfl (lv_at hl 4 rfl) ?_
        refine lv_iload_n hx hb dX0_bytes_22 rfl (lv_at hl 2 rfl) ?_
        refine lv_iload hx hb dX0_bytes_23 (lv_at hl 0 rfl) ?_
        refine vp_callSi (W.runS (As := [.int v, .int (nI wd), .int (nI q)]) (rest := [.long acc]) ⟨hx, hb, hml, hown, hts⟩ (c_X0_encodedByte l v (nI wd) (nI q)) (va_cwS 3 hts gX0_bytes_X0_encodedByte rfl rfl rfl (by decide +kernel) ⟨Nat.le_of_ble_eq_true rfl, Nat.le_of_ble_eq_true rfl⟩) ⟨fun _ _ _ _ q => q, fun U hU hW => ⟨rfl, trivial⟩⟩ rfl rfl hl.1 rfl (lv_room (Nat.le_of_ble_eq_true rfl)) dX0_bytes_25 ⟨Nat.le_of_ble_eq_true rfl, Nat.le_of_ble_eq_true rfl⟩) (fun r_3 er_3 => ?_)
        obtain rfl : r_3 = xEnc v (nI wd) (nI q) := er_3
        refine lv_i2l hx hb dX0_bytes_28 rfl ?_
        refine lv_bipush (v := 48) hx hb dX0_bytes_29 (by decide) ?_
        refine lv_bipush (v := 8) hx hb dX0_bytes_31 (by decide) ?_
        refine lv_iload hx hb dX0_bytes_33 (lv_at hl 0 rfl) ?_
        refine lv_imul hx hb dX0_bytes_35 ?_
        refine lv_isub hx hb dX0_bytes_36 ?_
        refine lv_lshl hx hb dX0_bytes_37 rfl ?_
        refine lv_lor hx hb dX0_bytes_38 ?_
        refine lv_topl (fun x_4 ex_4 => ?_)
        refine lv_lstore_n (lv' := [(3, .long x_4), (5, .int (nI q)), (2, .int (nI wd)), (0, .ref h0), (1, .int v)]) hx hb dX0_bytes_39 rfl hl (by decide) rfl (fun ls hl => ?_)
        refine lv_iinc (v := nI (q + 1)) (lv' := [(5, .int (nI (q + 1))), (3, .long x_4), (2, .int (nI wd)), (0, .ref h0), (1, .int v)]) hx hb dX0_bytes_40 hl (k := 1) rfl (nI_1 _) (by decide) rfl (fun ls hl => ?_)
        refine lv_goto (tgt := 14) hx hb dX0_bytes_43 (by decide) ?_
        exact ih (q + 1) x_4 ls (by omega) (by rw [ex_4, hacc]; rfl) (lv_sub hl [0, 1, 2, 3, 4] rfl)
  refine lv_iload_n hx hb dX0_bytes_0 rfl (lv_at hl 1 rfl) ?_
  refine vp_callSi (W.runS (As := [.int v]) (rest := []) ⟨hx, hb, hml, hown, hts⟩ (c_X0_widthOf l v) (va_cwS 1 hts gX0_bytes_X0_widthOf rfl rfl rfl (by decide +kernel) ⟨Nat.le_of_ble_eq_true rfl, Nat.le_of_ble_eq_true rfl⟩) ⟨fun _ _ _ _ q => q, fun U hU hW => ⟨rfl, trivial⟩⟩ rfl rfl hl.1 rfl (lv_room (Nat.le_of_ble_eq_true rfl)) dX0_bytes_1 ⟨Nat.le_of_ble_eq_true rfl, Nat.le_of_ble_eq_true rfl⟩) (fun r_5 er_5 => ?_)
  obtain rfl : r_5 = xWidth v := er_5
  rw [hwd]
  refine lv_istore_n (lv' := [(2, .int (nI wd)), (0, .ref h0), (1, .int v)]) hx hb dX0_bytes_4 rfl hl (by decide) rfl (fun ls hl => ?_)
  refine lv_iload_n hx hb dX0_bytes_5 rfl (lv_at hl 0 rfl) ?_
  refine lv_i2l hx hb dX0_bytes_6 rfl ?_
  refine lv_bipush (v := 56) hx hb dX0_bytes_7 (by decide) ?_
  refine lv_lshl hx hb dX0_bytes_9 rfl ?_
  refine lv_topl (fun x_6 ex_6 => ?_)
  refine lv_lstore_n (lv' := [(3, .long x_6), (2, .int (nI wd)), (0, .ref h0), (1, .int v)]) hx hb dX0_bytes_10 rfl hl (by decide) rfl (fun ls hl => ?_)
  refine lv_iconst (v := 0) hx hb dX0_bytes_11 (by decide) ?_
  refine lv_istore (lv' := [(5, .int 0), (3, .long x_6), (2, .int (nI wd)), (0, .ref h0), (1, .int v)]) hx hb dX0_bytes_12 hl (by decide) rfl (fun ls hl => ?_)
  exact loop wd 0 x_6 ls (by omega) (by rw [ex_6]; rfl) (lv_sub hl [0, 1, 2, 3, 4] rfl)
end
section
set_option maxHeartbeats 4000000 in
set_option maxRecDepth 100000 in
theorem c_X0_append (l : Launch) (dC : Nat → ClassId) (dI : Nat → Nat → Nat) (h0 h1 h2 h3 : Nat) (cA : ClassId) (t0 t1 t2 t3 : Nat) (sz : Nat) (tx : Nat → Int32) (n : Nat) (ch pl : Nat → Int32) (k : Nat) (rd : Bool) (fp : Int32) (v : Int32) (hn : n < 1000) : Met l yX0_append wsX0_append ({ frames := 0, cells := 0, slots := 0, locals := 0 }) (va_Pc [.ref h0, .int v] (fun U => xmut dC dI h0 h1 h2 h3 cA t0 t1 t2 t3 sz (tx, n, ch, pl, k, rd, fp) U)) (va_Qv (fun u : XS => u = (upd tx n v, n + 1, ch, pl, k, rd, fp)) (xatt dC dI h0 h1 h2 h3 cA (va_A (xw h0 h1 h2 h3 cA (tx, n, ch, pl, k, rd, fp)) sz)) (va_A (xw h0 h1 h2 h3 cA (tx, n, ch, pl, k, rd, fp)) sz)) 0 0 (va_A (xw h0 h1 h2 h3 cA (tx, n, ch, pl, k, rd, fp)) sz) := by
  refine Met.ofW (cc := cX0_append) (maxL := 2) (ret := none) (by decide) rfl ?_
  intro p e s m args below meth c s₁ B hml hv
  obtain ⟨rfl, hsz, hP, hK, hD0, hT⟩ := hv
  have hx := B.exec
  have hb := B.bytes
  have hr := B.returns
  have hts := atoms_spec (ws := wsX0_append) B.pre
  have hown : s.vm.findClass RX0 = some m.cls := findClass_of_methodNamed B.named
  subst hsz
  have hD := hD0.self (sz := s.heap.size)
  generalize hAe : va_A (xw h0 h1 h2 h3 cA (tx, n, ch, pl, k, rd, fp)) s.heap.size = A at hD hT ⊢
  have hA : ∀ q : Nat, s.heap.size ≤ q → A q := fun q h => by rw [← hAe]; exact Or.inr h
  have hS : va_S A s.heap s.heap [] := va_S.rf
  have hP : va_P (dC, dI) vwCl [(h0, .inr (0, [.ref h1, .int (nI n), .ref h2, .ref h3, .int (nI k), .int (bI rd), .int fp])), (h1, .inl (cA, 1000, .inl tx)), (h2, .inl (cA, 1000, .inl ch)), (h3, .inl (cA, 1001, .inl pl))] s.heap := hP
  have hD : va_D A [(h0, .inr (0, [.ref h1, .int (nI n), .ref h2, .ref h3, .int (nI k), .int (bI rd), .int fp])), (h1, .inl (cA, 1000, .inl tx)), (h2, .inl (cA, 1000, .inl ch)), (h3, .inl (cA, 1001, .inl pl))] := hD
  have hIn : ∀ w ∈ wsX00, w ∈ wsX0_append := by decide +kernel
  obtain ⟨hz0, ht0, hz1, ht1, hz2, ht2, hz3, ht3⟩ := id hT
  have hl := lv_entry ([.ref h0, .int v]) (n := 2) (Nat.le_of_ble_eq_true rfl)
  rw [lg_entry_eq]
  generalize (lg_sl ([.ref h0, .int v]) ++ List.replicate (2 - (lg_sl ([.ref h0, .int v])).length) Slot.unset).toArray = ls at hl ⊢
  have hl : lv_has ls 2 [(0, .ref h0), (1, .int v)] := hl
  refine lv_aload_n hx hb dX0_append_0 rfl (lv_at hl 0 rfl) ?_
  refine va_get (D := (dC, dI)) (ci := 0) (v := .int (nI n)) (C := RX0) (T := TX0) (N := 7) hx hb hts hIn hown hK hP 0 rfl rfl 1 (by decide) (hts (.fieldLink RX0 19 RX0 "textLength" "I") (by decide +kernel)) (fun _ h9 => h9) rfl dX0_append_1 ?_
  refine lv_sipush (v := 1000) hx hb dX0_append_4 (by decide) ?_
  refine lv_icmp_ge (tgt := 30) hx hb dX0_append_7 (by decide) (fun c_1 => ?_) (fun c_1 => ?_)
  · exact absurd (show nI 1000 ≤ nI n from c_1) (nI_ge (by omega) (by omega))
  · refine lv_aload_n hx hb dX0_append_10 rfl (lv_at hl 0 rfl) ?_
    refine va_get (D := (dC, dI)) (ci := 0) (v := .ref h1) (C := RX0) (T := TX0) (N := 7) hx hb hts hIn hown hK hP 0 rfl rfl 0 (by decide) (hts (.fieldLink RX0 9 RX0 "text" "[I") (by decide +kernel)) (fun _ h9 => h9) rfl dX0_append_11 ?_
    refine lv_aload_n hx hb dX0_append_14 rfl (lv_at hl 0 rfl) ?_
    refine va_get (D := (dC, dI)) (ci := 0) (v := .int (nI n)) (C := RX0) (T := TX0) (N := 7) hx hb hts hIn hown hK hP 0 rfl rfl 1 (by decide) (hts (.fieldLink RX0 19 RX0 "textLength" "I") (by decide +kernel)) (fun _ h9 => h9) rfl dX0_append_15 ?_
    refine lv_iload_n hx hb dX0_append_18 rfl (lv_at hl 1 rfl) ?_
    refine va_iast hx hb hK hP hD hS 1 0 rfl rfl (vp_in_nI (by omega) (by omega)) dX0_append_19 (fun H locs hP hD hS => ?_)
    rw [nI_clamp (by omega)] at hP hD
    have hP : va_P (dC, dI) vwCl [(h0, .inr (0, [.ref h1, .int (nI n), .ref h2, .ref h3, .int (nI k), .int (bI rd), .int fp])), (h1, .inl (cA, 1000, .inl (upd tx n v))), (h2, .inl (cA, 1000, .inl ch)), (h3, .inl (cA, 1001, .inl pl))] H := hP
    have hD : va_D A [(h0, .inr (0, [.ref h1, .int (nI n), .ref h2, .ref h3, .int (nI k), .int (bI rd), .int fp])), (h1, .inl (cA, 1000, .inl (upd tx n v))), (h2, .inl (cA, 1000, .inl ch)), (h3, .inl (cA, 1001, .inl pl))] := hD
    refine lv_aload_n hx hb dX0_append_20 rfl (lv_at hl 0 rfl) ?_
    refine lv_dup hx hb dX0_append_21 rfl ?_
    refine va_get (D := (dC, dI)) (ci := 0) (v := .int (nI n)) (C := RX0) (T := TX0) (N := 7) hx hb hts hIn hown hK hP 0 rfl rfl 1 (by decide) (hts (.fieldLink RX0 19 RX0 "textLength" "I") (by decide +kernel)) (fun _ h9 => h9) rfl dX0_append_22 ?_
    refine lv_iconst (v := 1) hx hb dX0_append_25 (by decide) ?_
    refine lv_iadd hx hb dX0_append_26 ?_
    refine lv_topi (fun x_2 ex_2 => ?_)
    obtain rfl : x_2 = nI (n + 1) := ex_2.trans (nI_1 _)
    refine va_put (D := (dC, dI)) (ci := 0) (v := .int (nI (n + 1))) (ty := .int) (C := RX0) (T := TX0) (N := 7) hx hb hts hIn tyX0 tyX0_ok nmX0 hown hK hP hD hS 0 rfl rfl 1 (by decide) (hts (.fieldLink RX0 19 RX0 "textLength" "I") (by decide +kernel)) (fun _ h9 => h9) rfl (by decide +kernel) rfl rfl (Nat.le_of_ble_eq_true rfl) dX0_append_27 (fun H locs hP hD hS => ?_)
    have hP : va_P (dC, dI) vwCl [(h0, .inr (0, [.ref h1, .int (nI (n + 1)), .ref h2, .ref h3, .int (nI k), .int (bI rd), .int fp])), (h1, .inl (cA, 1000, .inl (upd tx n v))), (h2, .inl (cA, 1000, .inl ch)), (h3, .inl (cA, 1001, .inl pl))] H := hP
    have hD : va_D A [(h0, .inr (0, [.ref h1, .int (nI (n + 1)), .ref h2, .ref h3, .int (nI k), .int (bI rd), .int fp])), (h1, .inl (cA, 1000, .inl (upd tx n v))), (h2, .inl (cA, 1000, .inl ch)), (h3, .inl (cA, 1001, .inl pl))] := hD
    have hP9 : va_P (dC, dI) vwCl (xw h0 h1 h2 h3 cA ((upd tx n v), (n + 1), ch, pl, k, rd, fp)) H := hP
    have hD9 : va_D A (xw h0 h1 h2 h3 cA ((upd tx n v), (n + 1), ch, pl, k, rd, fp)) := hD
    exact W.vret hx hb hr (fun t ht hW => ⟨⟨((upd tx n v), (n + 1), ch, pl, k, rd, fp), rfl, rfl, by rw [ht]; exact hP9, va_K.moved hW.alike hK, hD9⟩, hS.F ht⟩) hS.2.2 dX0_append_30
set_option maxHeartbeats 4000000 in
set_option maxRecDepth 100000 in
theorem c_X0_forgetReading (l : Launch) (dC : Nat → ClassId) (dI : Nat → Nat → Nat) (h0 h1 h2 h3 : Nat) (cA : ClassId) (t0 t1 t2 t3 : Nat) (sz : Nat) (tx : Nat → Int32) (n : Nat) (ch pl : Nat → Int32) (k : Nat) (rd : Bool) (fp : Int32)  : Met l yX0_forgetReading wsX0_forgetReading ({ frames := 0, cells := 0, slots := 0, locals := 0 }) (va_Pc [.ref h0] (fun U => xmut dC dI h0 h1 h2 h3 cA t0 t1 t2 t3 sz (tx, n, ch, pl, k, rd, fp) U)) (va_Qv (fun u : XS => u = (tx, n, ch, pl, 0, false, -1)) (xatt dC dI h0 h1 h2 h3 cA (va_A (xw h0 h1 h2 h3 cA (tx, n, ch, pl, k, rd, fp)) sz)) (va_A (xw h0 h1 h2 h3 cA (tx, n, ch, pl, k, rd, fp)) sz)) 0 0 (va_A (xw h0 h1 h2 h3 cA (tx, n, ch, pl, k, rd, fp)) sz) := by
  refine Met.ofW (cc := cX0_forgetReading) (maxL := 1) (ret := none) (by decide) rfl ?_
  intro p e s m args below meth c s₁ B hml hv
  obtain ⟨rfl, hsz, hP, hK, hD0, hT⟩ := hv
  have hx := B.exec
  have hb := B.bytes
  have hr := B.returns
  have hts := atoms_spec (ws := wsX0_forgetReading) B.pre
  have hown : s.vm.findClass RX0 = some m.cls := findClass_of_methodNamed B.named
  subst hsz
  have hD := hD0.self (sz := s.heap.size)
  generalize hAe : va_A (xw h0 h1 h2 h3 cA (tx, n, ch, pl, k, rd, fp)) s.heap.size = A at hD hT ⊢
  have hA : ∀ q : Nat, s.heap.size ≤ q → A q := fun q h => by rw [← hAe]; exact Or.inr h
  have hS : va_S A s.heap s.heap [] := va_S.rf
  have hP : va_P (dC, dI) vwCl [(h0, .inr (0, [.ref h1, .int (nI n), .ref h2, .ref h3, .int (nI k), .int (bI rd), .int fp])), (h1, .inl (cA, 1000, .inl tx)), (h2, .inl (cA, 1000, .inl ch)), (h3, .inl (cA, 1001, .inl pl))] s.heap := hP
  have hD : va_D A [(h0, .inr (0, [.ref h1, .int (nI n), .ref h2, .ref h3, .int (nI k), .int (bI rd), .int fp])), (h1, .inl (cA, 1000, .inl tx)), (h2, .inl (cA, 1000, .inl ch)), (h3, .inl (cA, 1001, .inl pl))] := hD
  have hIn : ∀ w ∈ wsX00, w ∈ wsX0_forgetReading := by decide +kernel
  obtain ⟨hz0, ht0, hz1, ht1, hz2, ht2, hz3, ht3⟩ := id hT
  have hl := lv_entry ([.ref h0]) (n := 1) (Nat.le_of_ble_eq_true rfl)
  rw [lg_entry_eq]
  generalize (lg_sl ([.ref h0]) ++ List.replicate (1 - (lg_sl ([.ref h0])).length) Slot.unset).toArray = ls at hl ⊢
  have hl : lv_has ls 1 [(0, .ref h0)] := hl
  refine lv_aload_n hx hb dX0_forgetReading_0 rfl (lv_at hl 0 rfl) ?_
  refine lv_iconst (v := 0) hx hb dX0_forgetReading_1 (by decide) ?_
  refine va_put (D := (dC, dI)) (ci := 0) (v := .int 0) (ty := .int) (C := RX0) (T := TX0) (N := 7) hx hb hts hIn tyX0 tyX0_ok nmX0 hown hK hP hD hS 0 rfl rfl 4 (by decide) (hts (.fieldLink RX0 23 RX0 "count" "I") (by decide +kernel)) (fun _ h9 => h9) rfl (by decide +kernel) rfl rfl (Nat.le_of_ble_eq_true rfl) dX0_forgetReading_2 (fun H locs hP hD hS => ?_)
  have hP : va_P (dC, dI) vwCl [(h0, .inr (0, [.ref h1, .int (nI n), .ref h2, .ref h3, .int 0, .int (bI rd), .int fp])), (h1, .inl (cA, 1000, .inl tx)), (h2, .inl (cA, 1000, .inl ch)), (h3, .inl (cA, 1001, .inl pl))] H := hP
  have hD : va_D A [(h0, .inr (0, [.ref h1, .int (nI n), .ref h2, .ref h3, .int 0, .int (bI rd), .int fp])), (h1, .inl (cA, 1000, .inl tx)), (h2, .inl (cA, 1000, .inl ch)), (h3, .inl (cA, 1001, .inl pl))] := hD
  refine lv_aload_n hx hb dX0_forgetReading_5 rfl (lv_at hl 0 rfl) ?_
  refine lv_iconst (v := 0) hx hb dX0_forgetReading_6 (by decide) ?_
  refine va_put (D := (dC, dI)) (ci := 0) (v := .int 0) (ty := .boolean) (C := RX0) (T := TX0) (N := 7) hx hb hts hIn tyX0 tyX0_ok nmX0 hown hK hP hD hS 0 rfl rfl 5 (by decide) (hts (.fieldLink RX0 26 RX0 "hasReading" "Z") (by decide +kernel)) (fun _ h9 => h9) rfl (by decide +kernel) rfl rfl (Nat.le_of_ble_eq_true rfl) dX0_forgetReading_7 (fun H locs hP hD hS => ?_)
  have hP : va_P (dC, dI) vwCl [(h0, .inr (0, [.ref h1, .int (nI n), .ref h2, .ref h3, .int 0, .int 0, .int fp])), (h1, .inl (cA, 1000, .inl tx)), (h2, .inl (cA, 1000, .inl ch)), (h3, .inl (cA, 1001, .inl pl))] H := hP
  have hD : va_D A [(h0, .inr (0, [.ref h1, .int (nI n), .ref h2, .ref h3, .int 0, .int 0, .int fp])), (h1, .inl (cA, 1000, .inl tx)), (h2, .inl (cA, 1000, .inl ch)), (h3, .inl (cA, 1001, .inl pl))] := hD
  refine lv_aload_n hx hb dX0_forgetReading_10 rfl (lv_at hl 0 rfl) ?_
  refine lv_iconst (v := -1) hx hb dX0_forgetReading_11 (by decide) ?_
  refine va_put (D := (dC, dI)) (ci := 0) (v := .int (-1)) (ty := .int) (C := RX0) (T := TX0) (N := 7) hx hb hts hIn tyX0 tyX0_ok nmX0 hown hK hP hD hS 0 rfl rfl 6 (by decide) (hts (.fieldLink RX0 30 RX0 "faultPlace" "I") (by decide +kernel)) (fun _ h9 => h9) rfl (by decide +kernel) rfl rfl (Nat.le_of_ble_eq_true rfl) dX0_forgetReading_12 (fun H locs hP hD hS => ?_)
  have hP : va_P (dC, dI) vwCl [(h0, .inr (0, [.ref h1, .int (nI n), .ref h2, .ref h3, .int 0, .int 0, .int (-1)])), (h1, .inl (cA, 1000, .inl tx)), (h2, .inl (cA, 1000, .inl ch)), (h3, .inl (cA, 1001, .inl pl))] H := hP
  have hD : va_D A [(h0, .inr (0, [.ref h1, .int (nI n), .ref h2, .ref h3, .int 0, .int 0, .int (-1)])), (h1, .inl (cA, 1000, .inl tx)), (h2, .inl (cA, 1000, .inl ch)), (h3, .inl (cA, 1001, .inl pl))] := hD
  have hP9 : va_P (dC, dI) vwCl (xw h0 h1 h2 h3 cA (tx, n, ch, pl, 0, false, (-1))) H := hP
  have hD9 : va_D A (xw h0 h1 h2 h3 cA (tx, n, ch, pl, 0, false, (-1))) := hD
  exact W.vret hx hb hr (fun t ht hW => ⟨⟨(tx, n, ch, pl, 0, false, (-1)), rfl, rfl, by rw [ht]; exact hP9, va_K.moved hW.alike hK, hD9⟩, hS.F ht⟩) hS.2.2 dX0_forgetReading_15
set_option maxHeartbeats 4000000 in
set_option maxRecDepth 100000 in
theorem c_X0_keep (l : Launch) (dC : Nat → ClassId) (dI : Nat → Nat → Nat) (h0 h1 h2 h3 : Nat) (cA : ClassId) (t0 t1 t2 t3 : Nat) (sz : Nat) (tx : Nat → Int32) (n : Nat) (ch pl : Nat → Int32) (k : Nat) (rd : Bool) (fp : Int32) (v : Int32) (fr : Nat) (hk : k < 1000) : Met l yX0_keep wsX0_keep ({ frames := 0, cells := 0, slots := 0, locals := 0 }) (va_Pc [.ref h0, .int v, .int (nI fr)] (fun U => xmut dC dI h0 h1 h2 h3 cA t0 t1 t2 t3 sz (tx, n, ch, pl, k, rd, fp) U)) (va_Qv (fun u : XS => u = (tx, n, upd ch k v, upd pl k (nI fr), k + 1, rd, fp)) (xatt dC dI h0 h1 h2 h3 cA (va_A (xw h0 h1 h2 h3 cA (tx, n, ch, pl, k, rd, fp)) sz)) (va_A (xw h0 h1 h2 h3 cA (tx, n, ch, pl, k, rd, fp)) sz)) 0 0 (va_A (xw h0 h1 h2 h3 cA (tx, n, ch, pl, k, rd, fp)) sz) := by
  refine Met.ofW (cc := cX0_keep) (maxL := 3) (ret := none) (by decide) rfl ?_
  intro p e s m args below meth c s₁ B hml hv
  obtain ⟨rfl, hsz, hP, hK, hD0, hT⟩ := hv
  have hx := B.exec
  have hb := B.bytes
  have hr := B.returns
  have hts := atoms_spec (ws := wsX0_keep) B.pre
  have hown : s.vm.findClass RX0 = some m.cls := findClass_of_methodNamed B.named
  subst hsz
  have hD := hD0.self (sz := s.heap.size)
  generalize hAe : va_A (xw h0 h1 h2 h3 cA (tx, n, ch, pl, k, rd, fp)) s.heap.size = A at hD hT ⊢
  have hA : ∀ q : Nat, s.heap.size ≤ q → A q := fun q h => by rw [← hAe]; exact Or.inr h
  have hS : va_S A s.heap s.heap [] := va_S.rf
  have hP : va_P (dC, dI) vwCl [(h0, .inr (0, [.ref h1, .int (nI n), .ref h2, .ref h3, .int (nI k), .int (bI rd), .int fp])), (h1, .inl (cA, 1000, .inl tx)), (h2, .inl (cA, 1000, .inl ch)), (h3, .inl (cA, 1001, .inl pl))] s.heap := hP
  have hD : va_D A [(h0, .inr (0, [.ref h1, .int (nI n), .ref h2, .ref h3, .int (nI k), .int (bI rd), .int fp])), (h1, .inl (cA, 1000, .inl tx)), (h2, .inl (cA, 1000, .inl ch)), (h3, .inl (cA, 1001, .inl pl))] := hD
  have hIn : ∀ w ∈ wsX00, w ∈ wsX0_keep := by decide +kernel
  obtain ⟨hz0, ht0, hz1, ht1, hz2, ht2, hz3, ht3⟩ := id hT
  have hl := lv_entry ([.ref h0, .int v, .int (nI fr)]) (n := 3) (Nat.le_of_ble_eq_true rfl)
  rw [lg_entry_eq]
  generalize (lg_sl ([.ref h0, .int v, .int (nI fr)]) ++ List.replicate (3 - (lg_sl ([.ref h0, .int v, .int (nI fr)])).length) Slot.unset).toArray = ls at hl ⊢
  have hl : lv_has ls 3 [(0, .ref h0), (1, .int v), (2, .int (nI fr))] := hl
  refine lv_aload_n hx hb dX0_keep_0 rfl (lv_at hl 0 rfl) ?_
  refine va_get (D := (dC, dI)) (ci := 0) (v := .int (nI k)) (C := RX0) (T := TX0) (N := 7) hx hb hts hIn hown hK hP 0 rfl rfl 4 (by decide) (hts (.fieldLink RX0 23 RX0 "count" "I") (by decide +kernel)) (fun _ h9 => h9) rfl dX0_keep_1 ?_
  refine lv_sipush (v := 1000) hx hb dX0_keep_4 (by decide) ?_
  refine lv_icmp_ge (tgt := 40) hx hb dX0_keep_7 (by decide) (fun c_1 => ?_) (fun c_1 => ?_)
  · exact absurd (show nI 1000 ≤ nI k from c_1) (nI_ge (by omega) (by omega))
  · refine lv_aload_n hx hb dX0_keep_10 rfl (lv_at hl 0 rfl) ?_
    refine va_get (D := (dC, dI)) (ci := 0) (v := .ref h2) (C := RX0) (T := TX0) (N := 7) hx hb hts hIn hown hK hP 0 rfl rfl 2 (by decide) (hts (.fieldLink RX0 13 RX0 "characters" "[I") (by decide +kernel)) (fun _ h9 => h9) rfl dX0_keep_11 ?_
    refine lv_aload_n hx hb dX0_keep_14 rfl (lv_at hl 0 rfl) ?_
    refine va_get (D := (dC, dI)) (ci := 0) (v := .int (nI k)) (C := RX0) (T := TX0) (N := 7) hx hb hts hIn hown hK hP 0 rfl rfl 4 (by decide) (hts (.fieldLink RX0 23 RX0 "count" "I") (by decide +kernel)) (fun _ h9 => h9) rfl dX0_keep_15 ?_
    refine lv_iload_n hx hb dX0_keep_18 rfl (lv_at hl 1 rfl) ?_
    refine va_iast hx hb hK hP hD hS 2 0 rfl rfl (vp_in_nI (by omega) (by omega)) dX0_keep_19 (fun H locs hP hD hS => ?_)
    rw [nI_clamp (by omega)] at hP hD
    have hP : va_P (dC, dI) vwCl [(h0, .inr (0, [.ref h1, .int (nI n), .ref h2, .ref h3, .int (nI k), .int (bI rd), .int fp])), (h1, .inl (cA, 1000, .inl tx)), (h2, .inl (cA, 1000, .inl (upd ch k v))), (h3, .inl (cA, 1001, .inl pl))] H := hP
    have hD : va_D A [(h0, .inr (0, [.ref h1, .int (nI n), .ref h2, .ref h3, .int (nI k), .int (bI rd), .int fp])), (h1, .inl (cA, 1000, .inl tx)), (h2, .inl (cA, 1000, .inl (upd ch k v))), (h3, .inl (cA, 1001, .inl pl))] := hD
    refine lv_aload_n hx hb dX0_keep_20 rfl (lv_at hl 0 rfl) ?_
    refine va_get (D := (dC, dI)) (ci := 0) (v := .ref h3) (C := RX0) (T := TX0) (N := 7) hx hb hts hIn hown hK hP 0 rfl rfl 3 (by decide) (hts (.fieldLink RX0 16 RX0 "places" "[I") (by decide +kernel)) (fun _ h9 => h9) rfl dX0_keep_21 ?_
    refine lv_aload_n hx hb dX0_keep_24 rfl (lv_at hl 0 rfl) ?_
    refine va_get (D := (dC, dI)) (ci := 0) (v := .int (nI k)) (C := RX0) (T := TX0) (N := 7) hx hb hts hIn hown hK hP 0 rfl rfl 4 (by decide) (hts (.fieldLink RX0 23 RX0 "count" "I") (by decide +kernel)) (fun _ h9 => h9) rfl dX0_keep_25 ?_
    refine lv_iload_n hx hb dX0_keep_28 rfl (lv_at hl 2 rfl) ?_
    refine va_iast hx hb hK hP hD hS 3 0 rfl rfl (vp_in_nI (by omega) (by omega)) dX0_keep_29 (fun H locs hP hD hS => ?_)
    rw [nI_clamp (by omega)] at hP hD
    have hP : va_P (dC, dI) vwCl [(h0, .inr (0, [.ref h1, .int (nI n), .ref h2, .ref h3, .int (nI k), .int (bI rd), .int fp])), (h1, .inl (cA, 1000, .inl tx)), (h2, .inl (cA, 1000, .inl (upd ch k v))), (h3, .inl (cA, 1001, .inl (upd pl k (nI fr))))] H := hP
    have hD : va_D A [(h0, .inr (0, [.ref h1, .int (nI n), .ref h2, .ref h3, .int (nI k), .int (bI rd), .int fp])), (h1, .inl (cA, 1000, .inl tx)), (h2, .inl (cA, 1000, .inl (upd ch k v))), (h3, .inl (cA, 1001, .inl (upd pl k (nI fr))))] := hD
    refine lv_aload_n hx hb dX0_keep_30 rfl (lv_at hl 0 rfl) ?_
    refine lv_dup hx hb dX0_keep_31 rfl ?_
    refine va_get (D := (dC, dI)) (ci := 0) (v := .int (nI k)) (C := RX0) (T := TX0) (N := 7) hx hb hts hIn hown hK hP 0 rfl rfl 4 (by decide) (hts (.fieldLink RX0 23 RX0 "count" "I") (by decide +kernel)) (fun _ h9 => h9) rfl dX0_keep_32 ?_
    refine lv_iconst (v := 1) hx hb dX0_keep_35 (by decide) ?_
    refine lv_iadd hx hb dX0_keep_36 ?_
    refine lv_topi (fun x_2 ex_2 => ?_)
    obtain rfl : x_2 = nI (k + 1) := ex_2.trans (nI_1 _)
    refine va_put (D := (dC, dI)) (ci := 0) (v := .int (nI (k + 1))) (ty := .int) (C := RX0) (T := TX0) (N := 7) hx hb hts hIn tyX0 tyX0_ok nmX0 hown hK hP hD hS 0 rfl rfl 4 (by decide) (hts (.fieldLink RX0 23 RX0 "count" "I") (by decide +kernel)) (fun _ h9 => h9) rfl (by decide +kernel) rfl rfl (Nat.le_of_ble_eq_true rfl) dX0_keep_37 (fun H locs hP hD hS => ?_)
    have hP : va_P (dC, dI) vwCl [(h0, .inr (0, [.ref h1, .int (nI n), .ref h2, .ref h3, .int (nI (k + 1)), .int (bI rd), .int fp])), (h1, .inl (cA, 1000, .inl tx)), (h2, .inl (cA, 1000, .inl (upd ch k v))), (h3, .inl (cA, 1001, .inl (upd pl k (nI fr))))] H := hP
    have hD : va_D A [(h0, .inr (0, [.ref h1, .int (nI n), .ref h2, .ref h3, .int (nI (k + 1)), .int (bI rd), .int fp])), (h1, .inl (cA, 1000, .inl tx)), (h2, .inl (cA, 1000, .inl (upd ch k v))), (h3, .inl (cA, 1001, .inl (upd pl k (nI fr))))] := hD
    have hP9 : va_P (dC, dI) vwCl (xw h0 h1 h2 h3 cA (tx, n, (upd ch k v), (upd pl k (nI fr)), (k + 1), rd, fp)) H := hP
    have hD9 : va_D A (xw h0 h1 h2 h3 cA (tx, n, (upd ch k v), (upd pl k (nI fr)), (k + 1), rd, fp)) := hD
    exact W.vret hx hb hr (fun t ht hW => ⟨⟨(tx, n, (upd ch k v), (upd pl k (nI fr)), (k + 1), rd, fp), rfl, rfl, by rw [ht]; exact hP9, va_K.moved hW.alike hK, hD9⟩, hS.F ht⟩) hS.2.2 dX0_keep_40
set_option maxHeartbeats 4000000 in
set_option maxRecDepth 100000 in
theorem c_X0_put_no (l : Launch) (dC : Nat → ClassId) (dI : Nat → Nat → Nat) (h0 h1 h2 h3 : Nat) (cA : ClassId) (t0 t1 t2 t3 : Nat) (sz : Nat) (tx : Nat → Int32) (n : Nat) (ch pl : Nat → Int32) (k : Nat) (rd : Bool) (fp : Int32) (v : Int64) (q : Int32) (hno : xPutOk n q = false) : Met l yX0_put wsX0_put ({ frames := 1, cells := 0, slots := 0, locals := 21 }) (va_Pc [.ref h0, .long v, .int q] (fun U => xmut dC dI h0 h1 h2 h3 cA t0 t1 t2 t3 sz (tx, n, ch, pl, k, rd, fp) U)) (va_Qi (fun (r : Int32) (u : XS) => r = 0 ∧ u = (tx, n, ch, pl, k, rd, fp)) (xatt dC dI h0 h1 h2 h3 cA (va_A (xw h0 h1 h2 h3 cA (tx, n, ch, pl, k, rd, fp)) sz)) (va_A (xw h0 h1 h2 h3 cA (tx, n, ch, pl, k, rd, fp)) sz)) 0 0 (va_A (xw h0 h1 h2 h3 cA (tx, n, ch, pl, k, rd, fp)) sz) := by
  refine Met.ofW (cc := cX0_put) (maxL := 5) (ret := (some .boolean)) (by decide) rfl ?_
  intro p e s m args below meth c s₁ B hml hv
  obtain ⟨rfl, hsz, hP, hK, hD0, hT⟩ := hv
  have hx := B.exec
  have hb := B.bytes
  have hr := B.returns
  have hts := atoms_spec (ws := wsX0_put) B.pre
  have hown : s.vm.findClass RX0 = some m.cls := findClass_of_methodNamed B.named
  subst hsz
  have hD := hD0.self (sz := s.heap.size)
  generalize hAe : va_A (xw h0 h1 h2 h3 cA (tx, n, ch, pl, k, rd, fp)) s.heap.size = A at hD hT ⊢
  have hA : ∀ q : Nat, s.heap.size ≤ q → A q := fun q h => by rw [← hAe]; exact Or.inr h
  have hS : va_S A s.heap s.heap [] := va_S.rf
  have hP : va_P (dC, dI) vwCl [(h0, .inr (0, [.ref h1, .int (nI n), .ref h2, .ref h3, .int (nI k), .int (bI rd), .int fp])), (h1, .inl (cA, 1000, .inl tx)), (h2, .inl (cA, 1000, .inl ch)), (h3, .inl (cA, 1001, .inl pl))] s.heap := hP
  have hD : va_D A [(h0, .inr (0, [.ref h1, .int (nI n), .ref h2, .ref h3, .int (nI k), .int (bI rd), .int fp])), (h1, .inl (cA, 1000, .inl tx)), (h2, .inl (cA, 1000, .inl ch)), (h3, .inl (cA, 1001, .inl pl))] := hD
  have hIn : ∀ w ∈ wsX00, w ∈ wsX0_put := by decide +kernel
  obtain ⟨hz0, ht0, hz1, ht1, hz2, ht2, hz3, ht3⟩ := id hT
  have hl := lv_entry ([.ref h0, .long v, .int q]) (n := 5) (Nat.le_of_ble_eq_true rfl)
  rw [lg_entry_eq]
  generalize (lg_sl ([.ref h0, .long v, .int q]) ++ List.replicate (5 - (lg_sl ([.ref h0, .long v, .int q])).length) Slot.unset).toArray = ls at hl ⊢
  have hl : lv_has ls 5 [(0, .ref h0), (1, .long v), (3, .int q)] := hl
  refine lv_iload_n hx hb dX0_put_0 rfl (lv_at hl 2 rfl) ?_
  refine lv_iconst (v := 1) hx hb dX0_put_1 (by decide) ?_
  refine lv_icmp_lt (tgt := 19) hx hb dX0_put_2 (by decide) (fun c_1 => ?_) (fun c_1 => ?_)
  · refine lv_iconst (v := 0) hx hb dX0_put_19 (by decide) ?_
    have hP9 : va_P (dC, dI) vwCl (xw h0 h1 h2 h3 cA (tx, n, ch, pl, k, rd, fp)) s.heap := hP
    have hD9 : va_D A (xw h0 h1 h2 h3 cA (tx, n, ch, pl, k, rd, fp)) := hD
    exact W.zret (v := 0) (ty := .boolean) hx hb hr (rfl) (fun t ht hW => ⟨⟨0, (tx, n, ch, pl, k, rd, fp), rfl, ⟨rfl, rfl⟩, by rw [ht]; exact hP9, va_K.moved hW.alike hK, hD9⟩, hS.F ht⟩) hS.2.2 dX0_put_20
  · refine lv_iload_n hx hb dX0_put_5 rfl (lv_at hl 2 rfl) ?_
    refine lv_bipush (v := 8) hx hb dX0_put_6 (by decide) ?_
    refine lv_icmp_gt (tgt := 19) hx hb dX0_put_8 (by decide) (fun c_2 => ?_) (fun c_2 => ?_)
    · refine lv_iconst (v := 0) hx hb dX0_put_19 (by decide) ?_
      have hP9 : va_P (dC, dI) vwCl (xw h0 h1 h2 h3 cA (tx, n, ch, pl, k, rd, fp)) s.heap := hP
      have hD9 : va_D A (xw h0 h1 h2 h3 cA (tx, n, ch, pl, k, rd, fp)) := hD
      exact W.zret (v := 0) (ty := .boolean) hx hb hr (rfl) (fun t ht hW => ⟨⟨0, (tx, n, ch, pl, k, rd, fp), rfl, ⟨rfl, rfl⟩, by rw [ht]; exact hP9, va_K.moved hW.alike hK, hD9⟩, hS.F ht⟩) hS.2.2 dX0_put_20
    · refine lv_aload_n hx hb dX0_put_11 rfl (lv_at hl 0 rfl) ?_
      refine lv_iload_n hx hb dX0_put_12 rfl (lv_at hl 2 rfl) ?_
      refine vp_callSi (W.runV (As := [.int q]) (rest := []) ⟨hx, hb, hml, hown, hts⟩ (c_X0_hasRoomFor l dC dI h0 h1 h2 h3 cA t0 t1 t2 t3 tx n ch pl k rd fp q) (cwV 1 hts gX0_put_X0_hasRoomFor rfl rfl rfl (by decide +kernel) ⟨Nat.le_of_ble_eq_true rfl, Nat.le_of_ble_eq_true rfl⟩) ⟨xpre_blind, va_recv hK hP (ci := 0) (q0 := 0) rfl rfl, fun U hU hW => ⟨rfl, xpre_of hP hK hT hS hU hW⟩⟩ rfl rfl hl.1 rfl (lv_room (Nat.le_of_ble_eq_true rfl)) dX0_put_13 ⟨Nat.le_of_ble_eq_true rfl, Nat.le_of_ble_eq_true rfl⟩) (fun r_3 er_3 => ?_)
      obtain rfl : r_3 = bI (xRoom n q) := er_3
      refine lv_if_ne (tgt := 21) hx hb dX0_put_16 (by decide) (fun c_4 => ?_) (fun c_4 => ?_)
      · exact absurd hno (by rw [xPutOk, if_neg c_1, if_neg c_2, bI_n0 c_4]; decide)
      · have c_4 := bI_0 c_4
        refine lv_iconst (v := 0) hx hb dX0_put_19 (by decide) ?_
        have hP9 : va_P (dC, dI) vwCl (xw h0 h1 h2 h3 cA (tx, n, ch, pl, k, rd, fp)) s.heap := hP
        have hD9 : va_D A (xw h0 h1 h2 h3 cA (tx, n, ch, pl, k, rd, fp)) := hD
        exact W.zret (v := 0) (ty := .boolean) hx hb hr (rfl) (fun t ht hW => ⟨⟨0, (tx, n, ch, pl, k, rd, fp), rfl, ⟨rfl, rfl⟩, by rw [ht]; exact hP9, va_K.moved hW.alike hK, hD9⟩, hS.F ht⟩) hS.2.2 dX0_put_20
set_option maxHeartbeats 4000000 in
set_option maxRecDepth 100000 in
theorem c_X0_put_ok (l : Launch) (dC : Nat → ClassId) (dI : Nat → Nat → Nat) (h0 h1 h2 h3 : Nat) (cA : ClassId) (t0 t1 t2 t3 : Nat) (sz : Nat) (tx : Nat → Int32) (n : Nat) (ch pl : Nat → Int32) (k : Nat) (rd : Bool) (fp : Int32) (v : Int64) (q : Nat) (h1q : 1 ≤ q) (hq8 : q ≤ 8) (hroom : n + q ≤ 1000) : Met l yX0_put wsX0_put ({ frames := 1, cells := 0, slots := 0, locals := 21 }) (va_Pc [.ref h0, .long v, .int (nI q)] (fun U => xmut dC dI h0 h1 h2 h3 cA t0 t1 t2 t3 sz (tx, n, ch, pl, k, rd, fp) U)) (va_Qi (fun (r : Int32) (u : XS) => r = 1 ∧ u = (putTx tx n (fun z => xPb v (q - 1 - z)) q, n + q, ch, pl, k, rd, fp)) (xatt dC dI h0 h1 h2 h3 cA (va_A (xw h0 h1 h2 h3 cA (tx, n, ch, pl, k, rd, fp)) sz)) (va_A (xw h0 h1 h2 h3 cA (tx, n, ch, pl, k, rd, fp)) sz)) 0 0 (va_A (xw h0 h1 h2 h3 cA (tx, n, ch, pl, k, rd, fp)) sz) := by
  refine Met.ofW (cc := cX0_put) (maxL := 5) (ret := (some .boolean)) (by decide) rfl ?_
  intro p e s m args below meth c s₁ B hml hv
  obtain ⟨rfl, hsz, hP, hK, hD0, hT⟩ := hv
  have hx := B.exec
  have hb := B.bytes
  have hr := B.returns
  have hts := atoms_spec (ws := wsX0_put) B.pre
  have hown : s.vm.findClass RX0 = some m.cls := findClass_of_methodNamed B.named
  subst hsz
  have hD := hD0.self (sz := s.heap.size)
  generalize hAe : va_A (xw h0 h1 h2 h3 cA (tx, n, ch, pl, k, rd, fp)) s.heap.size = A at hD hT ⊢
  have hA : ∀ q : Nat, s.heap.size ≤ q → A q := fun q h => by rw [← hAe]; exact Or.inr h
  have hS : va_S A s.heap s.heap [] := va_S.rf
  have hP : va_P (dC, dI) vwCl [(h0, .inr (0, [.ref h1, .int (nI n), .ref h2, .ref h3, .int (nI k), .int (bI rd), .int fp])), (h1, .inl (cA, 1000, .inl tx)), (h2, .inl (cA, 1000, .inl ch)), (h3, .inl (cA, 1001, .inl pl))] s.heap := hP
  have hD : va_D A [(h0, .inr (0, [.ref h1, .int (nI n), .ref h2, .ref h3, .int (nI k), .int (bI rd), .int fp])), (h1, .inl (cA, 1000, .inl tx)), (h2, .inl (cA, 1000, .inl ch)), (h3, .inl (cA, 1001, .inl pl))] := hD
  have hIn : ∀ w ∈ wsX00, w ∈ wsX0_put := by decide +kernel
  obtain ⟨hz0, ht0, hz1, ht1, hz2, ht2, hz3, ht3⟩ := id hT
  have hl := lv_entry ([.ref h0, .long v, .int (nI q)]) (n := 5) (Nat.le_of_ble_eq_true rfl)
  rw [lg_entry_eq]
  generalize (lg_sl ([.ref h0, .long v, .int (nI q)]) ++ List.replicate (5 - (lg_sl ([.ref h0, .long v, .int (nI q)])).length) Slot.unset).toArray = ls at hl ⊢
  have hl : lv_has ls 5 [(0, .ref h0), (1, .long v), (3, .int (nI q))] := hl
  have loop : ∀ (d i : Nat) (H : Heap) (locs : List Loc) (ls : Array Slot), i + d = q → va_P (dC, dI) vwCl [(h0, .inr (0, [.ref h1, .int (nI (n + i)), .ref h2, .ref h3, .int (nI k), .int (bI rd), .int fp])), (h1, .inl (cA, 1000, .inl (putTx tx n (fun z => xPb v (q - 1 - z)) i))), (h2, .inl (cA, 1000, .inl ch)), (h3, .inl (cA, 1001, .inl pl))] H → va_D A [(h0, .inr (0, [.ref h1, .int (nI (n + i)), .ref h2, .ref h3, .int (nI k), .int (bI rd), .int fp])), (h1, .inl (cA, 1000, .inl (putTx tx n (fun z => xPb v (q - 1 - z)) i))), (h2, .inl (cA, 1000, .inl ch)), (h3, .inl (cA, 1001, .inl pl))] → va_S A s.heap H locs → lv_has ls 5 [(4, .int (nI d + (-1))), (0, .ref h0), (1, .long v), (3, .int (nI q))] → W p l e (headSpec wsX0_put ({ frames := 1, cells := 0, slots := 0, locals := 21 })).room s m ([.ref h0, .long v, .int (nI q)] : List Value).toArray below meth c H locs 0 0 (MQ below (va_Qi (fun (r : Int32) (u : XS) => r = 1 ∧ u = (putTx tx n (fun z => xPb v (q - 1 - z)) q, n + q, ch, pl, k, rd, fp)) (xatt dC dI h0 h1 h2 h3 cA A) A) ([.ref h0, .long v, .int (nI q)] : List Value).toArray s 0 0 A) (F0 m 26 ls []) := by
    intro d
    induction d with
    | zero =>
      intro i H locs ls hid hP hD hS hl
      refine lv_iload hx hb dX0_put_26 (lv_at hl 0 rfl) ?_
      refine lv_if_lt (tgt := 53) hx hb dX0_put_28 (by decide) (fun c_1 => ?_) (fun c_1 => ?_)
      · refine lv_iconst (v := 1) hx hb dX0_put_53 (by decide) ?_
        have hP9 : va_P (dC, dI) vwCl (xw h0 h1 h2 h3 cA ((putTx tx n (fun z => xPb v (q - 1 - z)) i), (n + i), ch, pl, k, rd, fp)) H := hP
        have hD9 : va_D A (xw h0 h1 h2 h3 cA ((putTx tx n (fun z => xPb v (q - 1 - z)) i), (n + i), ch, pl, k, rd, fp)) := hD
        exact W.zret (v := 1) (ty := .boolean) hx hb hr (rfl) (fun t ht hW => ⟨⟨1, ((putTx tx n (fun z => xPb v (q - 1 - z)) i), (n + i), ch, pl, k, rd, fp), rfl, ⟨rfl, by rw [show i = q by omega]⟩, by rw [ht]; exact hP9, va_K.moved hW.alike hK, hD9⟩, hS.F ht⟩) hS.2.2 dX0_put_54
      · exact absurd (show nI 0 + (-1) < 0 by decide) c_1
    | succ d ih =>
      intro i H locs ls hid hP hD hS hl
      rw [pk_m1] at hl
      refine lv_iload hx hb dX0_put_26 (lv_at hl 0 rfl) ?_
      refine lv_if_lt (tgt := 53) hx hb dX0_put_28 (by decide) (fun c_2 => ?_) (fun c_2 => ?_)
      · exact absurd c_2 (nI_pos (by omega))
      · refine lv_aload_n hx hb dX0_put_31 rfl (lv_at hl 1 rfl) ?_
        refine lv_lload_n hx hb dX0_put_32 rfl (lv_at hl 2 rfl) ?_
        refine lv_bipush (v := 8) hx hb dX0_put_33 (by decide) ?_
        refine lv_iload hx hb dX0_put_35 (lv_at hl 0 rfl) ?_
        refine lv_imul hx hb dX0_put_37 ?_
        refine lv_lushr hx hb dX0_put_38 rfl ?_
        refine lv_l2i hx hb dX0_put_39 rfl ?_
        refine lv_sipush (v := 255) hx hb dX0_put_40 (by decide) ?_
        refine lv_iand hx hb dX0_put_43 ?_
        refine lv_topi (fun x_3 ex_3 => ?_)
        obtain rfl : x_3 = xPb v d := ex_3.trans rfl
        have hFc := va_free (wc := xw h0 h1 h2 h3 cA ((putTx tx n (fun z => xPb v (q - 1 - z)) i), (n + i), ch, pl, k, rd, fp)) hD hS hA [0, 1, 2, 3] rfl
        refine va_callv (va_runV (As := [.int (xPb v d)]) (rest := []) ⟨hx, hb, hml, hown, hts⟩ (c_X0_append l dC dI h0 h1 h2 h3 cA t0 t1 t2 t3 H.size (putTx tx n (fun z => xPb v (q - 1 - z)) i) (n + i) ch pl k rd fp (xPb v d) (by omega)) (cwV 1 hts gX0_put_X0_append rfl rfl rfl (by decide +kernel) ⟨Nat.le_of_ble_eq_true rfl, Nat.le_of_ble_eq_true rfl⟩) ⟨xmut_blind, va_recv hK hP (ci := 0) (q0 := 0) rfl rfl, fun U hU hW => ⟨rfl, xmut_of hP hK hD hT hS hFc hU hW⟩⟩ rfl rfl hl.1 rfl (lv_room (Nat.le_of_ble_eq_true rfl)) dX0_put_44 ⟨Nat.le_of_ble_eq_true rfl, Nat.le_of_ble_eq_true rfl⟩) hS (fun q _ h => hFc q h) hFc (fun u_4 t_4 H1 locs ht hvm hw hB hz1 hk1 hS => ?_)
        obtain rfl : u_4 = ((upd (putTx tx n (fun z => xPb v (q - 1 - z)) i) (n + i) (xPb v d)), ((n + i) + 1), ch, pl, k, rd, fp) := hw
        obtain ⟨hP1, hK1, hD1⟩ := hB
        rw [ht] at hP1
        obtain ⟨hP, hD⟩ := va_join (wr := []) (w1 := xw h0 h1 h2 h3 cA ((upd (putTx tx n (fun z => xPb v (q - 1 - z)) i) (n + i) (xPb v d)), ((n + i) + 1), ch, pl, k, rd, fp)) hP hD [0, 1, 2, 3] [] rfl rfl (by decide) (by decide) hk1 hFc hP1 hD1
        generalize H1 = H at hP hS ⊢
        have hP : va_P (dC, dI) vwCl [(h0, .inr (0, [.ref h1, .int (nI ((n + i) + 1)), .ref h2, .ref h3, .int (nI k), .int (bI rd), .int fp])), (h1, .inl (cA, 1000, .inl (upd (putTx tx n (fun z => xPb v (q - 1 - z)) i) (n + i) (xPb v d)))), (h2, .inl (cA, 1000, .inl ch)), (h3, .inl (cA, 1001, .inl pl))] H := hP
        have hD : va_D A [(h0, .inr (0, [.ref h1, .int (nI ((n + i) + 1)), .ref h2, .ref h3, .int (nI k), .int (bI rd), .int fp])), (h1, .inl (cA, 1000, .inl (upd (putTx tx n (fun z => xPb v (q - 1 - z)) i) (n + i) (xPb v d)))), (h2, .inl (cA, 1000, .inl ch)), (h3, .inl (cA, 1001, .inl pl))] := hD
        refine lv_iinc (v := nI d + (-1)) (lv' := [(4, .int (nI d + (-1))), (0, .ref h0), (1, .long v), (3, .int (nI q))]) hx hb dX0_put_47 hl (k := 0) rfl rfl (by decide) rfl (fun ls hl => ?_)
        refine lv_goto (tgt := 26) hx hb dX0_put_50 (by decide) ?_
        have hput : upd (putTx tx n (fun z => xPb v (q - 1 - z)) i) (n + i) (xPb v d) = putTx tx n (fun z => xPb v (q - 1 - z)) (i + 1) := by rw [putTx, show q - 1 - i = d by omega]
        rw [hput] at hP hD
        exact ih (i + 1) H locs ls (by omega) hP hD hS (lv_sub hl [0, 1, 2, 3] rfl)
  refine lv_iload_n hx hb dX0_put_0 rfl (lv_at hl 2 rfl) ?_
  refine lv_iconst (v := 1) hx hb dX0_put_1 (by decide) ?_
  refine lv_icmp_lt (tgt := 19) hx hb dX0_put_2 (by decide) (fun c_5 => ?_) (fun c_5 => ?_)
  · exact absurd (show nI q < nI 1 from c_5) (nI_nlt (by omega) (by omega))
  · refine lv_iload_n hx hb dX0_put_5 rfl (lv_at hl 2 rfl) ?_
    refine lv_bipush (v := 8) hx hb dX0_put_6 (by decide) ?_
    refine lv_icmp_gt (tgt := 19) hx hb dX0_put_8 (by decide) (fun c_6 => ?_) (fun c_6 => ?_)
    · exact absurd (show nI 8 < nI q from c_6) (nI_nlt (by omega) (by omega))
    · refine lv_aload_n hx hb dX0_put_11 rfl (lv_at hl 0 rfl) ?_
      refine lv_iload_n hx hb dX0_put_12 rfl (lv_at hl 2 rfl) ?_
      refine vp_callSi (W.runV (As := [.int (nI q)]) (rest := []) ⟨hx, hb, hml, hown, hts⟩ (c_X0_hasRoomFor l dC dI h0 h1 h2 h3 cA t0 t1 t2 t3 tx n ch pl k rd fp (nI q)) (cwV 1 hts gX0_put_X0_hasRoomFor rfl rfl rfl (by decide +kernel) ⟨Nat.le_of_ble_eq_true rfl, Nat.le_of_ble_eq_true rfl⟩) ⟨xpre_blind, va_recv hK hP (ci := 0) (q0 := 0) rfl rfl, fun U hU hW => ⟨rfl, xpre_of hP hK hT hS hU hW⟩⟩ rfl rfl hl.1 rfl (lv_room (Nat.le_of_ble_eq_true rfl)) dX0_put_13 ⟨Nat.le_of_ble_eq_true rfl, Nat.le_of_ble_eq_true rfl⟩) (fun r_7 er_7 => ?_)
      obtain rfl : r_7 = bI (xRoom n (nI q)) := er_7
      refine lv_if_ne (tgt := 21) hx hb dX0_put_16 (by decide) (fun c_8 => ?_) (fun c_8 => ?_)
      · have c_8 := bI_n0 c_8
        refine lv_iload_n hx hb dX0_put_21 rfl (lv_at hl 2 rfl) ?_
        refine lv_iconst (v := 1) hx hb dX0_put_22 (by decide) ?_
        refine lv_isub hx hb dX0_put_23 ?_
        refine lv_topi (fun x_9 ex_9 => ?_)
        obtain rfl : x_9 = nI q + (-1) := ex_9.trans ((pk_sub (b := 1) (by omega)).trans (sb_m1 (by omega)).symm)
        refine lv_istore (lv' := [(4, .int (nI q + (-1))), (0, .ref h0), (1, .long v), (3, .int (nI q))]) hx hb dX0_put_24 hl (by decide) rfl (fun ls hl => ?_)
        exact loop q 0 s.heap [] ls (by omega) hP hD hS (lv_sub hl [0, 1, 2, 3] rfl)
      · exact absurd (xRoom_ok hroom) (bI_0 c_8)
set_option maxHeartbeats 4000000 in
set_option maxRecDepth 100000 in
theorem c_X0_character_no (l : Launch) (dC : Nat → ClassId) (dI : Nat → Nat → Nat) (h0 h1 h2 h3 : Nat) (cA : ClassId) (t0 t1 t2 t3 : Nat) (sz : Nat) (tx : Nat → Int32) (n : Nat) (ch pl : Nat → Int32) (k : Nat) (rd : Bool) (fp : Int32) (v : Int32) (hno : xChOk n v = false) : Met l yX0_character wsX0_character ({ frames := 2, cells := 0, slots := 0, locals := 43 }) (va_Pc [.ref h0, .int v] (fun U => xmut dC dI h0 h1 h2 h3 cA t0 t1 t2 t3 sz (tx, n, ch, pl, k, rd, fp) U)) (va_Qi (fun (r : Int32) (u : XS) => r = 0 ∧ u = (tx, n, ch, pl, k, rd, fp)) (xatt dC dI h0 h1 h2 h3 cA (va_A (xw h0 h1 h2 h3 cA (tx, n, ch, pl, k, rd, fp)) sz)) (va_A (xw h0 h1 h2 h3 cA (tx, n, ch, pl, k, rd, fp)) sz)) 0 0 (va_A (xw h0 h1 h2 h3 cA (tx, n, ch, pl, k, rd, fp)) sz) := by
  refine Met.ofW (cc := cX0_character) (maxL := 4) (ret := (some .boolean)) (by decide) rfl ?_
  intro p e s m args below meth c s₁ B hml hv
  obtain ⟨rfl, hsz, hP, hK, hD0, hT⟩ := hv
  have hx := B.exec
  have hb := B.bytes
  have hr := B.returns
  have hts := atoms_spec (ws := wsX0_character) B.pre
  have hown : s.vm.findClass RX0 = some m.cls := findClass_of_methodNamed B.named
  subst hsz
  have hD := hD0.self (sz := s.heap.size)
  generalize hAe : va_A (xw h0 h1 h2 h3 cA (tx, n, ch, pl, k, rd, fp)) s.heap.size = A at hD hT ⊢
  have hA : ∀ q : Nat, s.heap.size ≤ q → A q := fun q h => by rw [← hAe]; exact Or.inr h
  have hS : va_S A s.heap s.heap [] := va_S.rf
  have hP : va_P (dC, dI) vwCl [(h0, .inr (0, [.ref h1, .int (nI n), .ref h2, .ref h3, .int (nI k), .int (bI rd), .int fp])), (h1, .inl (cA, 1000, .inl tx)), (h2, .inl (cA, 1000, .inl ch)), (h3, .inl (cA, 1001, .inl pl))] s.heap := hP
  have hD : va_D A [(h0, .inr (0, [.ref h1, .int (nI n), .ref h2, .ref h3, .int (nI k), .int (bI rd), .int fp])), (h1, .inl (cA, 1000, .inl tx)), (h2, .inl (cA, 1000, .inl ch)), (h3, .inl (cA, 1001, .inl pl))] := hD
  have hIn : ∀ w ∈ wsX00, w ∈ wsX0_character := by decide +kernel
  obtain ⟨hz0, ht0, hz1, ht1, hz2, ht2, hz3, ht3⟩ := id hT
  have hl := lv_entry ([.ref h0, .int v]) (n := 4) (Nat.le_of_ble_eq_true rfl)
  rw [lg_entry_eq]
  generalize (lg_sl ([.ref h0, .int v]) ++ List.replicate (4 - (lg_sl ([.ref h0, .int v])).length) Slot.unset).toArray = ls at hl ⊢
  have hl : lv_has ls 4 [(0, .ref h0), (1, .int v)] := hl
  refine lv_iload_n hx hb dX0_character_0 rfl (lv_at hl 1 rfl) ?_
  refine vp_callSi (W.runS (As := [.int v]) (rest := []) ⟨hx, hb, hml, hown, hts⟩ (c_X0_widthOf l v) (va_cwS 1 hts gX0_character_X0_widthOf rfl rfl rfl (by decide +kernel) ⟨Nat.le_of_ble_eq_true rfl, Nat.le_of_ble_eq_true rfl⟩) ⟨fun _ _ _ _ q => q, fun U hU hW => ⟨rfl, trivial⟩⟩ rfl rfl hl.1 rfl (lv_room (Nat.le_of_ble_eq_true rfl)) dX0_character_1 ⟨Nat.le_of_ble_eq_true rfl, Nat.le_of_ble_eq_true rfl⟩) (fun r_1 er_1 => ?_)
  obtain rfl : r_1 = xWidth v := er_1
  refine lv_istore_n (lv' := [(2, .int (xWidth v)), (0, .ref h0), (1, .int v)]) hx hb dX0_character_4 rfl hl (by decide) rfl (fun ls hl => ?_)
  refine lv_iload_n hx hb dX0_character_5 rfl (lv_at hl 0 rfl) ?_
  refine lv_if_eq (tgt := 17) hx hb dX0_character_6 (by decide) (fun c_2 => ?_) (fun c_2 => ?_)
  · refine lv_iconst (v := 0) hx hb dX0_character_17 (by decide) ?_
    have hP9 : va_P (dC, dI) vwCl (xw h0 h1 h2 h3 cA (tx, n, ch, pl, k, rd, fp)) s.heap := hP
    have hD9 : va_D A (xw h0 h1 h2 h3 cA (tx, n, ch, pl, k, rd, fp)) := hD
    exact W.zret (v := 0) (ty := .boolean) hx hb hr (rfl) (fun t ht hW => ⟨⟨0, (tx, n, ch, pl, k, rd, fp), rfl, ⟨rfl, rfl⟩, by rw [ht]; exact hP9, va_K.moved hW.alike hK, hD9⟩, hS.F ht⟩) hS.2.2 dX0_character_18
  · refine lv_aload_n hx hb dX0_character_9 rfl (lv_at hl 1 rfl) ?_
    refine lv_iload_n hx hb dX0_character_10 rfl (lv_at hl 0 rfl) ?_
    refine vp_callSi (W.runV (As := [.int (xWidth v)]) (rest := []) ⟨hx, hb, hml, hown, hts⟩ (c_X0_hasRoomFor l dC dI h0 h1 h2 h3 cA t0 t1 t2 t3 tx n ch pl k rd fp (xWidth v)) (cwV 1 hts gX0_character_X0_hasRoomFor rfl rfl rfl (by decide +kernel) ⟨Nat.le_of_ble_eq_true rfl, Nat.le_of_ble_eq_true rfl⟩) ⟨xpre_blind, va_recv hK hP (ci := 0) (q0 := 0) rfl rfl, fun U hU hW => ⟨rfl, xpre_of hP hK hT hS hU hW⟩⟩ rfl rfl hl.1 rfl (lv_room (Nat.le_of_ble_eq_true rfl)) dX0_character_11 ⟨Nat.le_of_ble_eq_true rfl, Nat.le_of_ble_eq_true rfl⟩) (fun r_3 er_3 => ?_)
    obtain rfl : r_3 = bI (xRoom n (xWidth v)) := er_3
    refine lv_if_ne (tgt := 19) hx hb dX0_character_14 (by decide) (fun c_4 => ?_) (fun c_4 => ?_)
    · exact absurd hno (by rw [xChOk, if_neg c_2, bI_n0 c_4]; decide)
    · have c_4 := bI_0 c_4
      refine lv_iconst (v := 0) hx hb dX0_character_17 (by decide) ?_
      have hP9 : va_P (dC, dI) vwCl (xw h0 h1 h2 h3 cA (tx, n, ch, pl, k, rd, fp)) s.heap := hP
      have hD9 : va_D A (xw h0 h1 h2 h3 cA (tx, n, ch, pl, k, rd, fp)) := hD
      exact W.zret (v := 0) (ty := .boolean) hx hb hr (rfl) (fun t ht hW => ⟨⟨0, (tx, n, ch, pl, k, rd, fp), rfl, ⟨rfl, rfl⟩, by rw [ht]; exact hP9, va_K.moved hW.alike hK, hD9⟩, hS.F ht⟩) hS.2.2 dX0_character_18
set_option maxHeartbeats 4000000 in
set_option maxRecDepth 100000 in
theorem c_X0_character_ok (l : Launch) (dC : Nat → ClassId) (dI : Nat → Nat → Nat) (h0 h1 h2 h3 : Nat) (cA : ClassId) (t0 t1 t2 t3 : Nat) (sz : Nat) (tx : Nat → Int32) (n : Nat) (ch pl : Nat → Int32) (k : Nat) (rd : Bool) (fp : Int32) (v : Int32) (q : Nat) (hw : xWidth v = nI q) (h1q : 1 ≤ q) (hq4 : q ≤ 4) (hroom : n + q ≤ 1000) : Met l yX0_character wsX0_character ({ frames := 2, cells := 0, slots := 0, locals := 43 }) (va_Pc [.ref h0, .int v] (fun U => xmut dC dI h0 h1 h2 h3 cA t0 t1 t2 t3 sz (tx, n, ch, pl, k, rd, fp) U)) (va_Qi (fun (r : Int32) (u : XS) => r = 1 ∧ u = (putTx tx n (fun z => xEnc v (nI q) (nI z)) q, n + q, ch, pl, k, rd, fp)) (xatt dC dI h0 h1 h2 h3 cA (va_A (xw h0 h1 h2 h3 cA (tx, n, ch, pl, k, rd, fp)) sz)) (va_A (xw h0 h1 h2 h3 cA (tx, n, ch, pl, k, rd, fp)) sz)) 0 0 (va_A (xw h0 h1 h2 h3 cA (tx, n, ch, pl, k, rd, fp)) sz) := by
  refine Met.ofW (cc := cX0_character) (maxL := 4) (ret := (some .boolean)) (by decide) rfl ?_
  intro p e s m args below meth c s₁ B hml hv
  obtain ⟨rfl, hsz, hP, hK, hD0, hT⟩ := hv
  have hx := B.exec
  have hb := B.bytes
  have hr := B.returns
  have hts := atoms_spec (ws := wsX0_character) B.pre
  have hown : s.vm.findClass RX0 = some m.cls := findClass_of_methodNamed B.named
  subst hsz
  have hD := hD0.self (sz := s.heap.size)
  generalize hAe : va_A (xw h0 h1 h2 h3 cA (tx, n, ch, pl, k, rd, fp)) s.heap.size = A at hD hT ⊢
  have hA : ∀ q : Nat, s.heap.size ≤ q → A q := fun q h => by rw [← hAe]; exact Or.inr h
  have hS : va_S A s.heap s.heap [] := va_S.rf
  have hP : va_P (dC, dI) vwCl [(h0, .inr (0, [.ref h1, .int (nI n), .ref h2, .ref h3, .int (nI k), .int (bI rd), .int fp])), (h1, .inl (cA, 1000, .inl tx)), (h2, .inl (cA, 1000, .inl ch)), (h3, .inl (cA, 1001, .inl pl))] s.heap := hP
  have hD : va_D A [(h0, .inr (0, [.ref h1, .int (nI n), .ref h2, .ref h3, .int (nI k), .int (bI rd), .int fp])), (h1, .inl (cA, 1000, .inl tx)), (h2, .inl (cA, 1000, .inl ch)), (h3, .inl (cA, 1001, .inl pl))] := hD
  have hIn : ∀ w ∈ wsX00, w ∈ wsX0_character := by decide +kernel
  obtain ⟨hz0, ht0, hz1, ht1, hz2, ht2, hz3, ht3⟩ := id hT
  have hl := lv_entry ([.ref h0, .int v]) (n := 4) (Nat.le_of_ble_eq_true rfl)
  rw [lg_entry_eq]
  generalize (lg_sl ([.ref h0, .int v]) ++ List.replicate (4 - (lg_sl ([.ref h0, .int v])).length) Slot.unset).toArray = ls at hl ⊢
  have hl : lv_has ls 4 [(0, .ref h0), (1, .int v)] := hl
  have loop : ∀ (d i : Nat) (H : Heap) (locs : List Loc) (ls : Array Slot), i + d = q → va_P (dC, dI) vwCl [(h0, .inr (0, [.ref h1, .int (nI (n + i)), .ref h2, .ref h3, .int (nI k), .int (bI rd), .int fp])), (h1, .inl (cA, 1000, .inl (putTx tx n (fun z => xEnc v (nI q) (nI z)) i))), (h2, .inl (cA, 1000, .inl ch)), (h3, .inl (cA, 1001, .inl pl))] H → va_D A [(h0, .inr (0, [.ref h1, .int (nI (n + i)), .ref h2, .ref h3, .int (nI k), .int (bI rd), .int fp])), (h1, .inl (cA, 1000, .inl (putTx tx n (fun z => xEnc v (nI q) (nI z)) i))), (h2, .inl (cA, 1000, .inl ch)), (h3, .inl (cA, 1001, .inl pl))] → va_S A s.heap H locs → lv_has ls 4 [(3, .int (nI i)), (2, .int (nI q)), (0, .ref h0), (1, .int v)] → W p l e (headSpec wsX0_character ({ frames := 2, cells := 0, slots := 0, locals := 43 })).room s m ([.ref h0, .int v] : List Value).toArray below meth c H locs 0 0 (MQ below (va_Qi (fun (r : Int32) (u : XS) => r = 1 ∧ u = (putTx tx n (fun z => xEnc v (nI q) (nI z)) q, n + q, ch, pl, k, rd, fp)) (xatt dC dI h0 h1 h2 h3 cA A) A) ([.ref h0, .int v] : List Value).toArray s 0 0 A) (F0 m 21 ls []) := by
    intro d
    induction d with
    | zero =>
      intro i H locs ls hid hP hD hS hl
      refine lv_iload_n hx hb dX0_character_21 rfl (lv_at hl 0 rfl) ?_
      refine lv_iload_n hx hb dX0_character_22 rfl (lv_at hl 1 rfl) ?_
      refine lv_icmp_ge (tgt := 42) hx hb dX0_character_23 (by decide) (fun c_1 => ?_) (fun c_1 => ?_)
      · refine lv_iconst (v := 1) hx hb dX0_character_42 (by decide) ?_
        have hP9 : va_P (dC, dI) vwCl (xw h0 h1 h2 h3 cA ((putTx tx n (fun z => xEnc v (nI q) (nI z)) i), (n + i), ch, pl, k, rd, fp)) H := hP
        have hD9 : va_D A (xw h0 h1 h2 h3 cA ((putTx tx n (fun z => xEnc v (nI q) (nI z)) i), (n + i), ch, pl, k, rd, fp)) := hD
        exact W.zret (v := 1) (ty := .boolean) hx hb hr (rfl) (fun t ht hW => ⟨⟨1, ((putTx tx n (fun z => xEnc v (nI q) (nI z)) i), (n + i), ch, pl, k, rd, fp), rfl, ⟨rfl, by rw [show i = q by omega]⟩, by rw [ht]; exact hP9, va_K.moved hW.alike hK, hD9⟩, hS.F ht⟩) hS.2.2 dX0_character_43
      · exact absurd (nI_le (by omega) (by omega)) c_1
    | succ d ih =>
      intro i H locs ls hid hP hD hS hl
      refine lv_iload_n hx hb dX0_character_21 rfl (lv_at hl 0 rfl) ?_
      refine lv_iload_n hx hb dX0_character_22 rfl (lv_at hl 1 rfl) ?_
      refine lv_icmp_ge (tgt := 42) hx hb dX0_character_23 (by decide) (fun c_2 => ?_) (fun c_2 => ?_)
      · exact absurd c_2 (nI_ge (by omega) (by omega))
      · refine lv_aload_n hx hb dX0_character_26 rfl (lv_at hl 2 rfl) ?_
        refine lv_iload_n hx hb dX0_character_27 rfl (lv_at hl 3 rfl) ?_
        refine lv_iload_n hx hb dX0_character_28 rfl (lv_at hl 1 rfl) ?_
        refine lv_iload_n hx hb dX0_character_29 rfl (lv_at hl 0 rfl) ?_
        refine vp_callSi (W.runS (As := [.int v, .int (nI q), .int (nI i)]) (rest := [.ref h0]) ⟨hx, hb, hml, hown, hts⟩ (c_X0_encodedByte l v (nI q) (nI i)) (va_cwS 3 hts gX0_character_X0_encodedByte rfl rfl rfl (by decide +kernel) ⟨Nat.le_of_ble_eq_true rfl, Nat.le_of_ble_eq_true rfl⟩) ⟨fun _ _ _ _ q => q, fun U hU hW => ⟨rfl, trivial⟩⟩ rfl rfl hl.1 rfl (lv_room (Nat.le_of_ble_eq_true rfl)) dX0_character_30 ⟨Nat.le_of_ble_eq_true rfl, Nat.le_of_ble_eq_true rfl⟩) (fun r_3 er_3 => ?_)
        obtain rfl : r_3 = xEnc v (nI q) (nI i) := er_3
        have hFc := va_free (wc := xw h0 h1 h2 h3 cA ((putTx tx n (fun z => xEnc v (nI q) (nI z)) i), (n + i), ch, pl, k, rd, fp)) hD hS hA [0, 1, 2, 3] rfl
        refine va_callv (va_runV (As := [.int (xEnc v (nI q) (nI i))]) (rest := []) ⟨hx, hb, hml, hown, hts⟩ (c_X0_append l dC dI h0 h1 h2 h3 cA t0 t1 t2 t3 H.size (putTx tx n (fun z => xEnc v (nI q) (nI z)) i) (n + i) ch pl k rd fp (xEnc v (nI q) (nI i)) (by omega)) (cwV 1 hts gX0_character_X0_append rfl rfl rfl (by decide +kernel) ⟨Nat.le_of_ble_eq_true rfl, Nat.le_of_ble_eq_true rfl⟩) ⟨xmut_blind, va_recv hK hP (ci := 0) (q0 := 0) rfl rfl, fun U hU hW => ⟨rfl, xmut_of hP hK hD hT hS hFc hU hW⟩⟩ rfl rfl hl.1 rfl (lv_room (Nat.le_of_ble_eq_true rfl)) dX0_character_33 ⟨Nat.le_of_ble_eq_true rfl, Nat.le_of_ble_eq_true rfl⟩) hS (fun q _ h => hFc q h) hFc (fun u_4 t_4 H1 locs ht hvm hw hB hz1 hk1 hS => ?_)
        obtain rfl : u_4 = ((upd (putTx tx n (fun z => xEnc v (nI q) (nI z)) i) (n + i) (xEnc v (nI q) (nI i))), ((n + i) + 1), ch, pl, k, rd, fp) := hw
        obtain ⟨hP1, hK1, hD1⟩ := hB
        rw [ht] at hP1
        obtain ⟨hP, hD⟩ := va_join (wr := []) (w1 := xw h0 h1 h2 h3 cA ((upd (putTx tx n (fun z => xEnc v (nI q) (nI z)) i) (n + i) (xEnc v (nI q) (nI i))), ((n + i) + 1), ch, pl, k, rd, fp)) hP hD [0, 1, 2, 3] [] rfl rfl (by decide) (by decide) hk1 hFc hP1 hD1
        generalize H1 = H at hP hS ⊢
        have hP : va_P (dC, dI) vwCl [(h0, .inr (0, [.ref h1, .int (nI ((n + i) + 1)), .ref h2, .ref h3, .int (nI k), .int (bI rd), .int fp])), (h1, .inl (cA, 1000, .inl (upd (putTx tx n (fun z => xEnc v (nI q) (nI z)) i) (n + i) (xEnc v (nI q) (nI i))))), (h2, .inl (cA, 1000, .inl ch)), (h3, .inl (cA, 1001, .inl pl))] H := hP
        have hD : va_D A [(h0, .inr (0, [.ref h1, .int (nI ((n + i) + 1)), .ref h2, .ref h3, .int (nI k), .int (bI rd), .int fp])), (h1, .inl (cA, 1000, .inl (upd (putTx tx n (fun z => xEnc v (nI q) (nI z)) i) (n + i) (xEnc v (nI q) (nI i))))), (h2, .inl (cA, 1000, .inl ch)), (h3, .inl (cA, 1001, .inl pl))] := hD
        refine lv_iinc (v := nI (i + 1)) (lv' := [(3, .int (nI (i + 1))), (2, .int (nI q)), (0, .ref h0), (1, .int v)]) hx hb dX0_character_36 hl (k := 0) rfl (nI_1 _) (by decide) rfl (fun ls hl => ?_)
        refine lv_goto (tgt := 21) hx hb dX0_character_39 (by decide) ?_
        exact ih (i + 1) H locs ls (by omega) hP hD hS (lv_sub hl [0, 1, 2, 3] rfl)
  refine lv_iload_n hx hb dX0_character_0 rfl (lv_at hl 1 rfl) ?_
  refine vp_callSi (W.runS (As := [.int v]) (rest := []) ⟨hx, hb, hml, hown, hts⟩ (c_X0_widthOf l v) (va_cwS 1 hts gX0_character_X0_widthOf rfl rfl rfl (by decide +kernel) ⟨Nat.le_of_ble_eq_true rfl, Nat.le_of_ble_eq_true rfl⟩) ⟨fun _ _ _ _ q => q, fun U hU hW => ⟨rfl, trivial⟩⟩ rfl rfl hl.1 rfl (lv_room (Nat.le_of_ble_eq_true rfl)) dX0_character_1 ⟨Nat.le_of_ble_eq_true rfl, Nat.le_of_ble_eq_true rfl⟩) (fun r_5 er_5 => ?_)
  obtain rfl : r_5 = xWidth v := er_5
  rw [hw]
  refine lv_istore_n (lv' := [(2, .int (nI q)), (0, .ref h0), (1, .int v)]) hx hb dX0_character_4 rfl hl (by decide) rfl (fun ls hl => ?_)
  refine lv_iload_n hx hb dX0_character_5 rfl (lv_at hl 0 rfl) ?_
  refine lv_if_eq (tgt := 17) hx hb dX0_character_6 (by decide) (fun c_6 => ?_) (fun c_6 => ?_)
  · exact absurd c_6 (nI_ne0 (by omega) (by omega))
  · refine lv_aload_n hx hb dX0_character_9 rfl (lv_at hl 1 rfl) ?_
    refine lv_iload_n hx hb dX0_character_10 rfl (lv_at hl 0 rfl) ?_
    refine vp_callSi (W.runV (As := [.int (nI q)]) (rest := []) ⟨hx, hb, hml, hown, hts⟩ (c_X0_hasRoomFor l dC dI h0 h1 h2 h3 cA t0 t1 t2 t3 tx n ch pl k rd fp (nI q)) (cwV 1 hts gX0_character_X0_hasRoomFor rfl rfl rfl (by decide +kernel) ⟨Nat.le_of_ble_eq_true rfl, Nat.le_of_ble_eq_true rfl⟩) ⟨xpre_blind, va_recv hK hP (ci := 0) (q0 := 0) rfl rfl, fun U hU hW => ⟨rfl, xpre_of hP hK hT hS hU hW⟩⟩ rfl rfl hl.1 rfl (lv_room (Nat.le_of_ble_eq_true rfl)) dX0_character_11 ⟨Nat.le_of_ble_eq_true rfl, Nat.le_of_ble_eq_true rfl⟩) (fun r_7 er_7 => ?_)
    obtain rfl : r_7 = bI (xRoom n (nI q)) := er_7
    refine lv_if_ne (tgt := 19) hx hb dX0_character_14 (by decide) (fun c_8 => ?_) (fun c_8 => ?_)
    · have c_8 := bI_n0 c_8
      refine lv_iconst (v := 0) hx hb dX0_character_19 (by decide) ?_
      refine lv_istore_n (lv' := [(3, .int 0), (2, .int (nI q)), (0, .ref h0), (1, .int v)]) hx hb dX0_character_20 rfl hl (by decide) rfl (fun ls hl => ?_)
      exact loop q 0 s.heap [] ls (by omega) hP hD hS (lv_sub hl [0, 1, 2, 3] rfl)
    · exact absurd (xRoom_ok hroom) (bI_0 c_8)
end
section
set_option maxHeartbeats 4000000 in
set_option maxRecDepth 100000 in
theorem c_X0_readText (l : Launch) (dC : Nat → ClassId) (dI : Nat → Nat → Nat) (h0 h1 h2 h3 : Nat) (cA : ClassId) (t0 t1 t2 t3 : Nat) (sz : Nat) (tx : Nat → Int32) (n : Nat) (ch pl : Nat → Int32) (k : Nat) (rd : Bool) (fp : Int32) (hn : n ≤ 1000) (hk0 : k = 0) : Met l yX0_readText wsX0_readText ({ frames := 2, cells := 0, slots := 0, locals := 46 }) (va_Pc [.ref h0] (fun U => xmut dC dI h0 h1 h2 h3 cA t0 t1 t2 t3 sz (tx, n, ch, pl, k, rd, fp) U)) (va_Qi (fun (r : Int32) (u : XS) => r = (xRt tx n n 0 ch pl k 0 fp).1 ∧ u = (tx, n, (xRt tx n n 0 ch pl k 0 fp).2.1, (xRt tx n n 0 ch pl k 0 fp).2.2.1, (xRt tx n n 0 ch pl k 0 fp).2.2.2.1, rd, (xRt tx n n 0 ch pl k 0 fp).2.2.2.2)) (xatt dC dI h0 h1 h2 h3 cA (va_A (xw h0 h1 h2 h3 cA (tx, n, ch, pl, k, rd, fp)) sz)) (va_A (xw h0 h1 h2 h3 cA (tx, n, ch, pl, k, rd, fp)) sz)) 0 0 (va_A (xw h0 h1 h2 h3 cA (tx, n, ch, pl, k, rd, fp)) sz) := by
  refine Met.ofW (cc := cX0_readText) (maxL := 5) (ret := (some .int)) (by decide) rfl ?_
  intro p e s m args below meth c s₁ B hml hv
  obtain ⟨rfl, hsz, hP, hK, hD0, hT⟩ := hv
  have hx := B.exec
  have hb := B.bytes
  have hr := B.returns
  have hts := atoms_spec (ws := wsX0_readText) B.pre
  have hown : s.vm.findClass RX0 = some m.cls := findClass_of_methodNamed B.named
  subst hsz
  have hD := hD0.self (sz := s.heap.size)
  generalize hAe : va_A (xw h0 h1 h2 h3 cA (tx, n, ch, pl, k, rd, fp)) s.heap.size = A at hD hT ⊢
  have hA : ∀ q : Nat, s.heap.size ≤ q → A q := fun q h => by rw [← hAe]; exact Or.inr h
  have hS : va_S A s.heap s.heap [] := va_S.rf
  have hP : va_P (dC, dI) vwCl [(h0, .inr (0, [.ref h1, .int (nI n), .ref h2, .ref h3, .int (nI k), .int (bI rd), .int fp])), (h1, .inl (cA, 1000, .inl tx)), (h2, .inl (cA, 1000, .inl ch)), (h3, .inl (cA, 1001, .inl pl))] s.heap := hP
  have hD : va_D A [(h0, .inr (0, [.ref h1, .int (nI n), .ref h2, .ref h3, .int (nI k), .int (bI rd), .int fp])), (h1, .inl (cA, 1000, .inl tx)), (h2, .inl (cA, 1000, .inl ch)), (h3, .inl (cA, 1001, .inl pl))] := hD
  have hIn : ∀ w ∈ wsX00, w ∈ wsX0_readText := by decide +kernel
  obtain ⟨hz0, ht0, hz1, ht1, hz2, ht2, hz3, ht3⟩ := id hT
  have hl := lv_entry ([.ref h0]) (n := 5) (Nat.le_of_ble_eq_true rfl)
  rw [lg_entry_eq]
  generalize (lg_sl ([.ref h0]) ++ List.replicate (5 - (lg_sl ([.ref h0])).length) Slot.unset).toArray = ls at hl ⊢
  have hl : lv_has ls 5 [(0, .ref h0)] := hl
  generalize hR : xRt tx n n 0 ch pl k 0 fp = RR
  have loop : ∀ (d fr nx : Nat) (ch2 pl2 : Nat → Int32) (k2 : Nat) (H : Heap) (locs : List Loc) (ls : Array Slot), fr + d = n → nx ≤ 1004 → k2 ≤ fr → xRt tx n d fr ch2 pl2 k2 nx fp = RR → va_P (dC, dI) vwCl [(h0, .inr (0, [.ref h1, .int (nI n), .ref h2, .ref h3, .int (nI k2), .int (bI rd), .int fp])), (h1, .inl (cA, 1000, .inl tx)), (h2, .inl (cA, 1000, .inl ch2)), (h3, .inl (cA, 1001, .inl pl2))] H → va_D A [(h0, .inr (0, [.ref h1, .int (nI n), .ref h2, .ref h3, .int (nI k2), .int (bI rd), .int fp])), (h1, .inl (cA, 1000, .inl tx)), (h2, .inl (cA, 1000, .inl ch2)), (h3, .inl (cA, 1001, .inl pl2))] → va_S A s.heap H locs → lv_has ls 5 [(2, .int (nI fr)), (1, .int (nI nx)), (0, .ref h0)] → W p l e (headSpec wsX0_readText ({ frames := 2, cells := 0, slots := 0, locals := 46 })).room s m ([.ref h0] : List Value).toArray below meth c H locs 0 0 (MQ below (va_Qi (fun (r : Int32) (u : XS) => r = RR.1 ∧ u = (tx, n, RR.2.1, RR.2.2.1, RR.2.2.2.1, rd, RR.2.2.2.2)) (xatt dC dI h0 h1 h2 h3 cA A) A) ([.ref h0] : List Value).toArray s 0 0 A) (F0 m 4 ls []) := by
    intro d
    induction d with
    | zero =>
      intro fr nx ch2 pl2 k2 H locs ls hfd hnx hk2 hRR hP hD hS hl
      refine lv_iload_n hx hb dX0_readText_4 rfl (lv_at hl 0 rfl) ?_
      refine lv_aload_n hx hb dX0_readText_5 rfl (lv_at hl 2 rfl) ?_
      refine va_get (D := (dC, dI)) (ci := 0) (v := .int (nI n)) (C := RX0) (T := TX0) (N := 7) hx hb hts hIn hown hK hP 0 rfl rfl 1 (by decide) (hts (.fieldLink RX0 19 RX0 "textLength" "I") (by decide +kernel)) (fun _ h9 => h9) rfl dX0_readText_6 ?_
      refine lv_icmp_ge (tgt := 84) hx hb dX0_readText_9 (by decide) (fun c_1 => ?_) (fun c_1 => ?_)
      · refine lv_iconst (v := 0) hx hb dX0_readText_84 (by decide) ?_
        have hP9 : va_P (dC, dI) vwCl (xw h0 h1 h2 h3 cA (tx, n, ch2, pl2, k2, rd, fp)) H := hP
        have hD9 : va_D A (xw h0 h1 h2 h3 cA (tx, n, ch2, pl2, k2, rd, fp)) := hD
        exact W.iret (v := 0) hx hb hr (fun t ht hW => ⟨⟨0, (tx, n, ch2, pl2, k2, rd, fp), rfl, (by rw [← hRR]; exact ⟨rfl, rfl⟩), by rw [ht]; exact hP9, va_K.moved hW.alike hK, hD9⟩, hS.F ht⟩) hS.2.2 dX0_readText_85
      · exact absurd (nI_le (by omega) (by omega)) c_1
    | succ d ih =>
      intro fr nx ch2 pl2 k2 H locs ls hfd hnx hk2 hRR hP hD hS hl
      refine lv_iload_n hx hb dX0_readText_4 rfl (lv_at hl 0 rfl) ?_
      refine lv_aload_n hx hb dX0_readText_5 rfl (lv_at hl 2 rfl) ?_
      refine va_get (D := (dC, dI)) (ci := 0) (v := .int (nI n)) (C := RX0) (T := TX0) (N := 7) hx hb hts hIn hown hK hP 0 rfl rfl 1 (by decide) (hts (.fieldLink RX0 19 RX0 "textLength" "I") (by decide +kernel)) (fun _ h9 => h9) rfl dX0_readText_6 ?_
      refine lv_icmp_ge (tgt := 84) hx hb dX0_readText_9 (by decide) (fun c_2 => ?_) (fun c_2 => ?_)
      · exact absurd c_2 (nI_ge (by omega) (by omega))
      · refine lv_iload_n hx hb dX0_readText_12 rfl (lv_at hl 0 rfl) ?_
        refine lv_iload_n hx hb dX0_readText_13 rfl (lv_at hl 1 rfl) ?_
        refine lv_icmp_ge (tgt := 20) hx hb dX0_readText_14 (by decide) (fun c_3 => ?_) (fun c_3 => ?_)
        · have hge : ¬ fr < nx := Nat.not_lt.mpr ((nI_leI (by omega) (by omega)).mp c_3)
          refine lv_aload_n hx hb dX0_readText_20 rfl (lv_at hl 2 rfl) ?_
          refine lv_iload_n hx hb dX0_readText_21 rfl (lv_at hl 0 rfl) ?_
          refine vp_callSi (W.runV (As := [.int (nI fr)]) (rest := []) ⟨hx, hb, hml, hown, hts⟩ (c_X0_decodedAt l dC dI h0 h1 h2 h3 cA t0 t1 t2 t3 tx n ch2 pl2 k2 rd fp fr (by omega) (by omega)) (cwV 1 hts gX0_readText_X0_decodedAt rfl rfl rfl (by decide +kernel) ⟨Nat.le_of_ble_eq_true rfl, Nat.le_of_ble_eq_true rfl⟩) ⟨xpre_blind, va_recv hK hP (ci := 0) (q0 := 0) rfl rfl, fun U hU hW => ⟨rfl, xpre_of hP hK hT hS hU hW⟩⟩ rfl rfl hl.1 rfl (lv_room (Nat.le_of_ble_eq_true rfl)) dX0_readText_22 ⟨Nat.le_of_ble_eq_true rfl, Nat.le_of_ble_eq_true rfl⟩) (fun r_4 er_4 => ?_)
          obtain rfl : r_4 = xDec tx n fr := er_4
          refine lv_istore_n (lv' := [(3, .int (xDec tx n fr)), (2, .int (nI fr)), (1, .int (nI nx)), (0, .ref h0)]) hx hb dX0_readText_25 rfl hl (by decide) rfl (fun ls hl => ?_)
          refine lv_iload_n hx hb dX0_readText_26 rfl (lv_at hl 0 rfl) ?_
          refine vp_callSi (W.runS (As := [.int (xDec tx n fr)]) (rest := []) ⟨hx, hb, hml, hown, hts⟩ (c_X0_faultOf l t0 t1 t2 t3 (xDec tx n fr)) (va_cwS 1 hts gX0_readText_X0_faultOf rfl rfl rfl (by decide +kernel) ⟨Nat.le_of_ble_eq_true rfl, Nat.le_of_ble_eq_true rfl⟩) ⟨xtab_blind, fun U hU hW => ⟨rfl, xtab_call hT hS hU hW (fun _ q => q.elim)⟩⟩ rfl rfl hl.1 rfl (lv_room (Nat.le_of_ble_eq_true rfl)) dX0_readText_27 ⟨Nat.le_of_ble_eq_true rfl, Nat.le_of_ble_eq_true rfl⟩) (fun r_5 er_5 => ?_)
          obtain rfl : r_5 = xFault (xDec tx n fr) := er_5
          refine lv_istore (lv' := [(4, .int (xFault (xDec tx n fr))), (3, .int (xDec tx n fr)), (2, .int (nI fr)), (1, .int (nI nx)), (0, .ref h0)]) hx hb dX0_readText_30 hl (by decide) rfl (fun ls hl => ?_)
          refine lv_iload hx hb dX0_readText_32 (lv_at hl 0 rfl) ?_
          refine lv_if_eq (tgt := 45) hx hb dX0_readText_34 (by decide) (fun c_6 => ?_) (fun c_6 => ?_)
          · refine lv_aload_n hx hb dX0_readText_45 rfl (lv_at hl 4 rfl) ?_
            refine lv_iload_n hx hb dX0_readText_46 rfl (lv_at hl 1 rfl) ?_
            refine lv_iload_n hx hb dX0_readText_47 rfl (lv_at hl 2 rfl) ?_
            refine vp_callSi (W.runV (As := [.int (xDec tx n fr), .int (nI fr)]) (rest := []) ⟨hx, hb, hml, hown, hts⟩ (c_X0_isLeftOut l dC dI h0 h1 h2 h3 cA t0 t1 t2 t3 tx n ch2 pl2 k2 rd fp (xDec tx n fr) fr (by omega)) (cwV 2 hts gX0_readText_X0_isLeftOut rfl rfl rfl (by decide +kernel) ⟨Nat.le_of_ble_eq_true rfl, Nat.le_of_ble_eq_true rfl⟩) ⟨xpre_blind, va_recv hK hP (ci := 0) (q0 := 0) rfl rfl, fun U hU hW => ⟨rfl, xpre_of hP hK hT hS hU hW⟩⟩ rfl rfl hl.1 rfl (lv_room (Nat.le_of_ble_eq_true rfl)) dX0_readText_48 ⟨Nat.le_of_ble_eq_true rfl, Nat.le_of_ble_eq_true rfl⟩) (fun r_7 er_7 => ?_)
            obtain rfl : r_7 = bI (xLeft tx (xDec tx n fr) fr) := er_7
            refine lv_if_ne (tgt := 71) hx hb dX0_readText_51 (by decide) (fun c_8 => ?_) (fun c_8 => ?_)
            · have c_8 := bI_n0 c_8
              refine lv_iload_n hx hb dX0_readText_71 rfl (lv_at hl 2 rfl) ?_
              refine lv_iload_n hx hb dX0_readText_72 rfl (lv_at hl 1 rfl) ?_
              refine vp_callSi (W.runS (As := [.int (xDec tx n fr)]) (rest := [.int (nI fr)]) ⟨hx, hb, hml, hown, hts⟩ (c_X0_widthOf l (xDec tx n fr)) (va_cwS 1 hts gX0_readText_X0_widthOf rfl rfl rfl (by decide +kernel) ⟨Nat.le_of_ble_eq_true rfl, Nat.le_of_ble_eq_true rfl⟩) ⟨fun _ _ _ _ q => q, fun U hU hW => ⟨rfl, trivial⟩⟩ rfl rfl hl.1 rfl (lv_room (Nat.le_of_ble_eq_true rfl)) dX0_readText_73 ⟨Nat.le_of_ble_eq_true rfl, Nat.le_of_ble_eq_true rfl⟩) (fun r_9 er_9 => ?_)
              obtain rfl : r_9 = xWidth (xDec tx n fr) := er_9
              obtain ⟨wd, hw4, hwd⟩ := xWidth_nat (xDec tx n fr)
              rw [hwd]
              refine lv_iadd hx hb dX0_readText_76 ?_
              refine lv_topi (fun x_10 ex_10 => ?_)
              obtain rfl : x_10 = nI (fr + wd) := ex_10.trans (nI_add _ _)
              refine lv_istore_n (lv' := [(1, .int (nI (fr + wd))), (4, .int (xFault (xDec tx n fr))), (3, .int (xDec tx n fr)), (2, .int (nI fr)), (0, .ref h0)]) hx hb dX0_readText_77 rfl hl (by decide) rfl (fun ls hl => ?_)
              refine lv_iinc (v := nI (fr + 1)) (lv' := [(2, .int (nI (fr + 1))), (1, .int (nI (fr + wd))), (4, .int (xFault (xDec tx n fr))), (3, .int (xDec tx n fr)), (0, .ref h0)]) hx hb dX0_readText_78 hl (k := 3) rfl (nI_1 _) (by decide) rfl (fun ls hl => ?_)
              refine lv_goto (tgt := 4) hx hb dX0_readText_81 (by decide) ?_
              exact ih (fr + 1) (fr + wd) ch2 pl2 k2 H locs ls (by omega) (by omega) (by omega) (by rw [← hRR, xRt, if_neg hge, if_pos c_6, if_pos c_8, hwd, nI_cl3 (fo := wd) (by omega)]) hP hD hS (lv_sub hl [0, 1, 4] rfl)
            · have c_8 := bI_0 c_8
              refine lv_aload_n hx hb dX0_readText_54 rfl (lv_at hl 4 rfl) ?_
              refine lv_iload_n hx hb dX0_readText_55 rfl (lv_at hl 1 rfl) ?_
              refine lv_bipush (v := 13) hx hb dX0_readText_56 (by decide) ?_
              refine lv_icmp_ne (tgt := 66) hx hb dX0_readText_58 (by decide) (fun c_11 => ?_) (fun c_11 => ?_)
              · refine lv_iload_n hx hb dX0_readText_66 rfl (lv_at hl 1 rfl) ?_
                refine lv_iload_n hx hb dX0_readText_67 rfl (lv_at hl 2 rfl) ?_
                have hFc := va_free (wc := xw h0 h1 h2 h3 cA (tx, n, ch2, pl2, k2, rd, fp)) hD hS hA [0, 1, 2, 3] rfl
                refine va_callv (va_runV (As := [.int (xDec tx n fr), .int (nI fr)]) (rest := []) ⟨hx, hb, hml, hown, hts⟩ (c_X0_keep l dC dI h0 h1 h2 h3 cA t0 t1 t2 t3 H.size tx n ch2 pl2 k2 rd fp (xDec tx n fr) fr (by omega)) (cwV 2 hts gX0_readText_X0_keep rfl rfl rfl (by decide +kernel) ⟨Nat.le_of_ble_eq_true rfl, Nat.le_of_ble_eq_true rfl⟩) ⟨xmut_blind, va_recv hK hP (ci := 0) (q0 := 0) rfl rfl, fun U hU hW => ⟨rfl, xmut_of hP hK hD hT hS hFc hU hW⟩⟩ rfl rfl hl.1 rfl (lv_room (Nat.le_of_ble_eq_true rfl)) dX0_readText_68 ⟨Nat.le_of_ble_eq_true rfl, Nat.le_of_ble_eq_true rfl⟩) hS (fun q _ h => hFc q h) hFc (fun u_12 t_12 H1 locs ht hvm hw hB hz1 hk1 hS => ?_)
                obtain rfl : u_12 = (tx, n, (upd ch2 k2 (xDec tx n fr)), (upd pl2 k2 (nI fr)), (k2 + 1), rd, fp) := hw
                obtain ⟨hP1, hK1, hD1⟩ := hB
                rw [ht] at hP1
                obtain ⟨hP, hD⟩ := va_join (wr := []) (w1 := xw h0 h1 h2 h3 cA (tx, n, (upd ch2 k2 (xDec tx n fr)), (upd pl2 k2 (nI fr)), (k2 + 1), rd, fp)) hP hD [0, 1, 2, 3] [] rfl rfl (by decide) (by decide) hk1 hFc hP1 hD1
                generalize H1 = H at hP hS ⊢
                have hP : va_P (dC, dI) vwCl [(h0, .inr (0, [.ref h1, .int (nI n), .ref h2, .ref h3, .int (nI (k2 + 1)), .int (bI rd), .int fp])), (h1, .inl (cA, 1000, .inl tx)), (h2, .inl (cA, 1000, .inl (upd ch2 k2 (xDec tx n fr)))), (h3, .inl (cA, 1001, .inl (upd pl2 k2 (nI fr))))] H := hP
                have hD : va_D A [(h0, .inr (0, [.ref h1, .int (nI n), .ref h2, .ref h3, .int (nI (k2 + 1)), .int (bI rd), .int fp])), (h1, .inl (cA, 1000, .inl tx)), (h2, .inl (cA, 1000, .inl (upd ch2 k2 (xDec tx n fr)))), (h3, .inl (cA, 1001, .inl (upd pl2 k2 (nI fr))))] := hD
                refine lv_iload_n hx hb dX0_readText_71 rfl (lv_at hl 2 rfl) ?_
                refine lv_iload_n hx hb dX0_readText_72 rfl (lv_at hl 1 rfl) ?_
                refine vp_callSi (W.runS (As := [.int (xDec tx n fr)]) (rest := [.int (nI fr)]) ⟨hx, hb, hml, hown, hts⟩ (c_X0_widthOf l (xDec tx n fr)) (va_cwS 1 hts gX0_readText_X0_widthOf rfl rfl rfl (by decide +kernel) ⟨Nat.le_of_ble_eq_true rfl, Nat.le_of_ble_eq_true rfl⟩) ⟨fun _ _ _ _ q => q, fun U hU hW => ⟨rfl, trivial⟩⟩ rfl rfl hl.1 rfl (lv_room (Nat.le_of_ble_eq_true rfl)) dX0_readText_73 ⟨Nat.le_of_ble_eq_true rfl, Nat.le_of_ble_eq_true rfl⟩) (fun r_13 er_13 => ?_)
                obtain rfl : r_13 = xWidth (xDec tx n fr) := er_13
                obtain ⟨wd, hw4, hwd⟩ := xWidth_nat (xDec tx n fr)
                rw [hwd]
                refine lv_iadd hx hb dX0_readText_76 ?_
                refine lv_topi (fun x_14 ex_14 => ?_)
                obtain rfl : x_14 = nI (fr + wd) := ex_14.trans (nI_add _ _)
                refine lv_istore_n (lv' := [(1, .int (nI (fr + wd))), (4, .int (xFault (xDec tx n fr))), (3, .int (xDec tx n fr)), (2, .int (nI fr)), (0, .ref h0)]) hx hb dX0_readText_77 rfl hl (by decide) rfl (fun ls hl => ?_)
                refine lv_iinc (v := nI (fr + 1)) (lv' := [(2, .int (nI (fr + 1))), (1, .int (nI (fr + wd))), (4, .int (xFault (xDec tx n fr))), (3, .int (xDec tx n fr)), (0, .ref h0)]) hx hb dX0_readText_78 hl (k := 3) rfl (nI_1 _) (by decide) rfl (fun ls hl => ?_)
                refine lv_goto (tgt := 4) hx hb dX0_readText_81 (by decide) ?_
                exact ih (fr + 1) (fr + wd) (upd ch2 k2 (xDec tx n fr)) (upd pl2 k2 (nI fr)) (k2 + 1) H locs ls (by omega) (by omega) (by omega) (by rw [← hRR, xRt, if_neg hge, if_pos c_6, if_neg c_8, if_neg c_11, hwd, nI_cl3 (fo := wd) (by omega)]) hP hD hS (lv_sub hl [0, 1, 4] rfl)
              · refine lv_bipush (v := 10) hx hb dX0_readText_61 (by decide) ?_
                refine lv_goto (tgt := 67) hx hb dX0_readText_63 (by decide) ?_
                refine lv_iload_n hx hb dX0_readText_67 rfl (lv_at hl 2 rfl) ?_
                have hFc := va_free (wc := xw h0 h1 h2 h3 cA (tx, n, ch2, pl2, k2, rd, fp)) hD hS hA [0, 1, 2, 3] rfl
                refine va_callv (va_runV (As := [.int 10, .int (nI fr)]) (rest := []) ⟨hx, hb, hml, hown, hts⟩ (c_X0_keep l dC dI h0 h1 h2 h3 cA t0 t1 t2 t3 H.size tx n ch2 pl2 k2 rd fp 10 fr (by omega)) (cwV 2 hts gX0_readText_X0_keep rfl rfl rfl (by decide +kernel) ⟨Nat.le_of_ble_eq_true rfl, Nat.le_of_ble_eq_true rfl⟩) ⟨xmut_blind, va_recv hK hP (ci := 0) (q0 := 0) rfl rfl, fun U hU hW => ⟨rfl, xmut_of hP hK hD hT hS hFc hU hW⟩⟩ rfl rfl hl.1 rfl (lv_room (Nat.le_of_ble_eq_true rfl)) dX0_readText_68 ⟨Nat.le_of_ble_eq_true rfl, Nat.le_of_ble_eq_true rfl⟩) hS (fun q _ h => hFc q h) hFc (fun u_15 t_15 H1 locs ht hvm hw hB hz1 hk1 hS => ?_)
                obtain rfl : u_15 = (tx, n, (upd ch2 k2 10), (upd pl2 k2 (nI fr)), (k2 + 1), rd, fp) := hw
                obtain ⟨hP1, hK1, hD1⟩ := hB
                rw [ht] at hP1
                obtain ⟨hP, hD⟩ := va_join (wr := []) (w1 := xw h0 h1 h2 h3 cA (tx, n, (upd ch2 k2 10), (upd pl2 k2 (nI fr)), (k2 + 1), rd, fp)) hP hD [0, 1, 2, 3] [] rfl rfl (by decide) (by decide) hk1 hFc hP1 hD1
                generalize H1 = H at hP hS ⊢
                have hP : va_P (dC, dI) vwCl [(h0, .inr (0, [.ref h1, .int (nI n), .ref h2, .ref h3, .int (nI (k2 + 1)), .int (bI rd), .int fp])), (h1, .inl (cA, 1000, .inl tx)), (h2, .inl (cA, 1000, .inl (upd ch2 k2 10))), (h3, .inl (cA, 1001, .inl (upd pl2 k2 (nI fr))))] H := hP
                have hD : va_D A [(h0, .inr (0, [.ref h1, .int (nI n), .ref h2, .ref h3, .int (nI (k2 + 1)), .int (bI rd), .int fp])), (h1, .inl (cA, 1000, .inl tx)), (h2, .inl (cA, 1000, .inl (upd ch2 k2 10))), (h3, .inl (cA, 1001, .inl (upd pl2 k2 (nI fr))))] := hD
                refine lv_iload_n hx hb dX0_readText_71 rfl (lv_at hl 2 rfl) ?_
                refine lv_iload_n hx hb dX0_readText_72 rfl (lv_at hl 1 rfl) ?_
                refine vp_callSi (W.runS (As := [.int (xDec tx n fr)]) (rest := [.int (nI fr)]) ⟨hx, hb, hml, hown, hts⟩ (c_X0_widthOf l (xDec tx n fr)) (va_cwS 1 hts gX0_readText_X0_widthOf rfl rfl rfl (by decide +kernel) ⟨Nat.le_of_ble_eq_true rfl, Nat.le_of_ble_eq_true rfl⟩) ⟨fun _ _ _ _ q => q, fun U hU hW => ⟨rfl, trivial⟩⟩ rfl rfl hl.1 rfl (lv_room (Nat.le_of_ble_eq_true rfl)) dX0_readText_73 ⟨Nat.le_of_ble_eq_true rfl, Nat.le_of_ble_eq_true rfl⟩) (fun r_16 er_16 => ?_)
                obtain rfl : r_16 = xWidth (xDec tx n fr) := er_16
                obtain ⟨wd, hw4, hwd⟩ := xWidth_nat (xDec tx n fr)
                rw [hwd]
                refine lv_iadd hx hb dX0_readText_76 ?_
                refine lv_topi (fun x_17 ex_17 => ?_)
                obtain rfl : x_17 = nI (fr + wd) := ex_17.trans (nI_add _ _)
                refine lv_istore_n (lv' := [(1, .int (nI (fr + wd))), (4, .int (xFault (xDec tx n fr))), (3, .int (xDec tx n fr)), (2, .int (nI fr)), (0, .ref h0)]) hx hb dX0_readText_77 rfl hl (by decide) rfl (fun ls hl => ?_)
                refine lv_iinc (v := nI (fr + 1)) (lv' := [(2, .int (nI (fr + 1))), (1, .int (nI (fr + wd))), (4, .int (xFault (xDec tx n fr))), (3, .int (xDec tx n fr)), (0, .ref h0)]) hx hb dX0_readText_78 hl (k := 3) rfl (nI_1 _) (by decide) rfl (fun ls hl => ?_)
                refine lv_goto (tgt := 4) hx hb dX0_readText_81 (by decide) ?_
                exact ih (fr + 1) (fr + wd) (upd ch2 k2 10) (upd pl2 k2 (nI fr)) (k2 + 1) H locs ls (by omega) (by omega) (by omega) (by rw [← hRR, xRt, if_neg hge, if_pos c_6, if_neg c_8, if_pos c_11, hwd, nI_cl3 (fo := wd) (by omega)]) hP hD hS (lv_sub hl [0, 1, 4] rfl)
          · refine lv_aload_n hx hb dX0_readText_37 rfl (lv_at hl 4 rfl) ?_
            refine lv_iload_n hx hb dX0_readText_38 rfl (lv_at hl 2 rfl) ?_
            refine va_put (D := (dC, dI)) (ci := 0) (v := .int (nI fr)) (ty := .int) (C := RX0) (T := TX0) (N := 7) hx hb hts hIn tyX0 tyX0_ok nmX0 hown hK hP hD hS 0 rfl rfl 6 (by decide) (hts (.fieldLink RX0 30 RX0 "faultPlace" "I") (by decide +kernel)) (fun _ h9 => h9) rfl (by decide +kernel) rfl rfl (Nat.le_of_ble_eq_true rfl) dX0_readText_39 (fun H locs hP hD hS => ?_)
            have hP : va_P (dC, dI) vwCl [(h0, .inr (0, [.ref h1, .int (nI n), .ref h2, .ref h3, .int (nI k2), .int (bI rd), .int (nI fr)])), (h1, .inl (cA, 1000, .inl tx)), (h2, .inl (cA, 1000, .inl ch2)), (h3, .inl (cA, 1001, .inl pl2))] H := hP
            have hD : va_D A [(h0, .inr (0, [.ref h1, .int (nI n), .ref h2, .ref h3, .int (nI k2), .int (bI rd), .int (nI fr)])), (h1, .inl (cA, 1000, .inl tx)), (h2, .inl (cA, 1000, .inl ch2)), (h3, .inl (cA, 1001, .inl pl2))] := hD
            refine lv_iload hx hb dX0_readText_42 (lv_at hl 0 rfl) ?_
            have hP9 : va_P (dC, dI) vwCl (xw h0 h1 h2 h3 cA (tx, n, ch2, pl2, k2, rd, (nI fr))) H := hP
            have hD9 : va_D A (xw h0 h1 h2 h3 cA (tx, n, ch2, pl2, k2, rd, (nI fr))) := hD
            exact W.iret (v := xFault (xDec tx n fr)) hx hb hr (fun t ht hW => ⟨⟨xFault (xDec tx n fr), (tx, n, ch2, pl2, k2, rd, (nI fr)), rfl, (by rw [← hRR, xRt, if_neg hge, if_neg c_6]; exact ⟨rfl, rfl⟩), by rw [ht]; exact hP9, va_K.moved hW.alike hK, hD9⟩, hS.F ht⟩) hS.2.2 dX0_readText_44
        · have hge : fr < nx := Nat.not_le.mp (fun z => c_3 ((nI_leI (by omega) (by omega)).mpr z))
          refine lv_goto (tgt := 78) hx hb dX0_readText_17 (by decide) ?_
          refine lv_iinc (v := nI (fr + 1)) (lv' := [(2, .int (nI (fr + 1))), (1, .int (nI nx)), (0, .ref h0)]) hx hb dX0_readText_78 hl (k := 0) rfl (nI_1 _) (by decide) rfl (fun ls hl => ?_)
          refine lv_goto (tgt := 4) hx hb dX0_readText_81 (by decide) ?_
          exact ih (fr + 1) nx ch2 pl2 k2 H locs ls (by omega) (by omega) (by omega) (by rw [← hRR, xRt, if_pos hge]) hP hD hS (lv_sub hl [0, 1, 2] rfl)
  refine lv_iconst (v := 0) hx hb dX0_readText_0 (by decide) ?_
  refine lv_istore_n (lv' := [(1, .int 0), (0, .ref h0)]) hx hb dX0_readText_1 rfl hl (by decide) rfl (fun ls hl => ?_)
  refine lv_iconst (v := 0) hx hb dX0_readText_2 (by decide) ?_
  refine lv_istore_n (lv' := [(2, .int 0), (1, .int 0), (0, .ref h0)]) hx hb dX0_readText_3 rfl hl (by decide) rfl (fun ls hl => ?_)
  exact loop n 0 0 ch pl k s.heap [] ls (by omega) (by omega) (by omega) hR hP hD hS (lv_sub hl [0, 1, 2] rfl)
set_option maxHeartbeats 4000000 in
set_option maxRecDepth 100000 in
theorem c_X0_read (l : Launch) (dC : Nat → ClassId) (dI : Nat → Nat → Nat) (h0 h1 h2 h3 : Nat) (cA : ClassId) (t0 t1 t2 t3 : Nat) (sz : Nat) (tx : Nat → Int32) (n : Nat) (ch pl : Nat → Int32) (k : Nat) (rd : Bool) (fp : Int32) (hn : n ≤ 1000) : Met l yX0_read wsX0_read ({ frames := 3, cells := 0, slots := 0, locals := 70 }) (va_Pc [.ref h0] (fun U => xmut dC dI h0 h1 h2 h3 cA t0 t1 t2 t3 sz (tx, n, ch, pl, k, rd, fp) U)) (va_Qi (fun (r : Int32) (u : XS) => r = xRead (xRt tx n n 0 ch pl 0 0 (-1)) ∧ u = xReadU tx n (xRt tx n n 0 ch pl 0 0 (-1))) (xatt dC dI h0 h1 h2 h3 cA (va_A (xw h0 h1 h2 h3 cA (tx, n, ch, pl, k, rd, fp)) sz)) (va_A (xw h0 h1 h2 h3 cA (tx, n, ch, pl, k, rd, fp)) sz)) 0 0 (va_A (xw h0 h1 h2 h3 cA (tx, n, ch, pl, k, rd, fp)) sz) := by
  refine Met.ofW (cc := cX0_read) (maxL := 2) (ret := (some .int)) (by decide) rfl ?_
  intro p e s m args below meth c s₁ B hml hv
  obtain ⟨rfl, hsz, hP, hK, hD0, hT⟩ := hv
  have hx := B.exec
  have hb := B.bytes
  have hr := B.returns
  have hts := atoms_spec (ws := wsX0_read) B.pre
  have hown : s.vm.findClass RX0 = some m.cls := findClass_of_methodNamed B.named
  subst hsz
  have hD := hD0.self (sz := s.heap.size)
  generalize hAe : va_A (xw h0 h1 h2 h3 cA (tx, n, ch, pl, k, rd, fp)) s.heap.size = A at hD hT ⊢
  have hA : ∀ q : Nat, s.heap.size ≤ q → A q := fun q h => by rw [← hAe]; exact Or.inr h
  have hS : va_S A s.heap s.heap [] := va_S.rf
  have hP : va_P (dC, dI) vwCl [(h0, .inr (0, [.ref h1, .int (nI n), .ref h2, .ref h3, .int (nI k), .int (bI rd), .int fp])), (h1, .inl (cA, 1000, .inl tx)), (h2, .inl (cA, 1000, .inl ch)), (h3, .inl (cA, 1001, .inl pl))] s.heap := hP
  have hD : va_D A [(h0, .inr (0, [.ref h1, .int (nI n), .ref h2, .ref h3, .int (nI k), .int (bI rd), .int fp])), (h1, .inl (cA, 1000, .inl tx)), (h2, .inl (cA, 1000, .inl ch)), (h3, .inl (cA, 1001, .inl pl))] := hD
  have hIn : ∀ w ∈ wsX00, w ∈ wsX0_read := by decide +kernel
  obtain ⟨hz0, ht0, hz1, ht1, hz2, ht2, hz3, ht3⟩ := id hT
  have hl := lv_entry ([.ref h0]) (n := 2) (Nat.le_of_ble_eq_true rfl)
  rw [lg_entry_eq]
  generalize (lg_sl ([.ref h0]) ++ List.replicate (2 - (lg_sl ([.ref h0])).length) Slot.unset).toArray = ls at hl ⊢
  have hl : lv_has ls 2 [(0, .ref h0)] := hl
  refine lv_aload_n hx hb dX0_read_0 rfl (lv_at hl 0 rfl) ?_
  have hFc := va_free (wc := xw h0 h1 h2 h3 cA (tx, n, ch, pl, k, rd, fp)) hD hS hA [0, 1, 2, 3] rfl
  refine va_callv (va_runV (As := []) (rest := []) ⟨hx, hb, hml, hown, hts⟩ (c_X0_forgetReading l dC dI h0 h1 h2 h3 cA t0 t1 t2 t3 s.heap.size tx n ch pl k rd fp) (cwV 0 hts gX0_read_X0_forgetReading rfl rfl rfl (by decide +kernel) ⟨Nat.le_of_ble_eq_true rfl, Nat.le_of_ble_eq_true rfl⟩) ⟨xmut_blind, va_recv hK hP (ci := 0) (q0 := 0) rfl rfl, fun U hU hW => ⟨rfl, xmut_of hP hK hD hT hS hFc hU hW⟩⟩ rfl rfl hl.1 rfl (lv_room (Nat.le_of_ble_eq_true rfl)) dX0_read_1 ⟨Nat.le_of_ble_eq_true rfl, Nat.le_of_ble_eq_true rfl⟩) hS (fun q _ h => hFc q h) hFc (fun u_1 t_1 H1 locs ht hvm hw hB hz1 hk1 hS => ?_)
  obtain rfl : u_1 = (tx, n, ch, pl, 0, false, (-1)) := hw
  obtain ⟨hP1, hK1, hD1⟩ := hB
  rw [ht] at hP1
  obtain ⟨hP, hD⟩ := va_join (wr := []) (w1 := xw h0 h1 h2 h3 cA (tx, n, ch, pl, 0, false, (-1))) hP hD [0, 1, 2, 3] [] rfl rfl (by decide) (by decide) hk1 hFc hP1 hD1
  generalize H1 = H at hP hS ⊢
  have hP : va_P (dC, dI) vwCl [(h0, .inr (0, [.ref h1, .int (nI n), .ref h2, .ref h3, .int (nI 0), .int (bI false), .int (-1)])), (h1, .inl (cA, 1000, .inl tx)), (h2, .inl (cA, 1000, .inl ch)), (h3, .inl (cA, 1001, .inl pl))] H := hP
  have hD : va_D A [(h0, .inr (0, [.ref h1, .int (nI n), .ref h2, .ref h3, .int (nI 0), .int (bI false), .int (-1)])), (h1, .inl (cA, 1000, .inl tx)), (h2, .inl (cA, 1000, .inl ch)), (h3, .inl (cA, 1001, .inl pl))] := hD
  refine lv_aload_n hx hb dX0_read_4 rfl (lv_at hl 0 rfl) ?_
  have hRk := xRt_k tx n n 0 ch pl 0 0 (-1)
  have hFc := va_free (wc := xw h0 h1 h2 h3 cA (tx, n, ch, pl, 0, false, (-1))) hD hS hA [0, 1, 2, 3] rfl
  refine va_calli (va_runV (As := []) (rest := []) ⟨hx, hb, hml, hown, hts⟩ (c_X0_readText l dC dI h0 h1 h2 h3 cA t0 t1 t2 t3 H.size tx n ch pl 0 false (-1) hn rfl) (cwV 0 hts gX0_read_X0_readText rfl rfl rfl (by decide +kernel) ⟨Nat.le_of_ble_eq_true rfl, Nat.le_of_ble_eq_true rfl⟩) ⟨xmut_blind, va_recv hK hP (ci := 0) (q0 := 0) rfl rfl, fun U hU hW => ⟨rfl, xmut_of hP hK hD hT hS hFc hU hW⟩⟩ rfl rfl hl.1 rfl (lv_room (Nat.le_of_ble_eq_true rfl)) dX0_read_5 ⟨Nat.le_of_ble_eq_true rfl, Nat.le_of_ble_eq_true rfl⟩) hS (fun q _ h => hFc q h) hFc (fun r_2 u_2 t_2 H1 locs ht hvm hw hB hz1 hk1 hS => ?_)
  generalize hR : xRt tx n n 0 ch pl 0 0 (-1) = RR at hw hRk
  obtain ⟨hw0, hw1⟩ := hw
  obtain rfl : r_2 = RR.1 := hw0
  obtain rfl : u_2 = (tx, n, RR.2.1, RR.2.2.1, RR.2.2.2.1, false, RR.2.2.2.2) := hw1
  obtain ⟨hP1, hK1, hD1⟩ := hB
  rw [ht] at hP1
  obtain ⟨hP, hD⟩ := va_join (wr := []) (w1 := xw h0 h1 h2 h3 cA (tx, n, RR.2.1, RR.2.2.1, RR.2.2.2.1, false, RR.2.2.2.2)) hP hD [0, 1, 2, 3] [] rfl rfl (by decide) (by decide) hk1 hFc hP1 hD1
  generalize H1 = H at hP hS ⊢
  have hP : va_P (dC, dI) vwCl [(h0, .inr (0, [.ref h1, .int (nI n), .ref h2, .ref h3, .int (nI RR.2.2.2.1), .int (bI false), .int RR.2.2.2.2])), (h1, .inl (cA, 1000, .inl tx)), (h2, .inl (cA, 1000, .inl RR.2.1)), (h3, .inl (cA, 1001, .inl RR.2.2.1))] H := hP
  have hD : va_D A [(h0, .inr (0, [.ref h1, .int (nI n), .ref h2, .ref h3, .int (nI RR.2.2.2.1), .int (bI false), .int RR.2.2.2.2])), (h1, .inl (cA, 1000, .inl tx)), (h2, .inl (cA, 1000, .inl RR.2.1)), (h3, .inl (cA, 1001, .inl RR.2.2.1))] := hD
  refine lv_istore_n (lv' := [(1, .int RR.1), (0, .ref h0)]) hx hb dX0_read_8 rfl hl (by decide) rfl (fun ls hl => ?_)
  refine lv_iload_n hx hb dX0_read_9 rfl (lv_at hl 0 rfl) ?_
  refine lv_if_ne (tgt := 34) hx hb dX0_read_10 (by decide) (fun c_3 => ?_) (fun c_3 => ?_)
  · refine lv_aload_n hx hb dX0_read_34 rfl (lv_at hl 1 rfl) ?_
    refine lv_iconst (v := 0) hx hb dX0_read_35 (by decide) ?_
    refine va_put (D := (dC, dI)) (ci := 0) (v := .int 0) (ty := .int) (C := RX0) (T := TX0) (N := 7) hx hb hts hIn tyX0 tyX0_ok nmX0 hown hK hP hD hS 0 rfl rfl 4 (by decide) (hts (.fieldLink RX0 23 RX0 "count" "I") (by decide +kernel)) (fun _ h9 => h9) rfl (by decide +kernel) rfl rfl (Nat.le_of_ble_eq_true rfl) dX0_read_36 (fun H locs hP hD hS => ?_)
    have hP : va_P (dC, dI) vwCl [(h0, .inr (0, [.ref h1, .int (nI n), .ref h2, .ref h3, .int 0, .int (bI false), .int RR.2.2.2.2])), (h1, .inl (cA, 1000, .inl tx)), (h2, .inl (cA, 1000, .inl RR.2.1)), (h3, .inl (cA, 1001, .inl RR.2.2.1))] H := hP
    have hD : va_D A [(h0, .inr (0, [.ref h1, .int (nI n), .ref h2, .ref h3, .int 0, .int (bI false), .int RR.2.2.2.2])), (h1, .inl (cA, 1000, .inl tx)), (h2, .inl (cA, 1000, .inl RR.2.1)), (h3, .inl (cA, 1001, .inl RR.2.2.1))] := hD
    refine lv_aload_n hx hb dX0_read_39 rfl (lv_at hl 1 rfl) ?_
    refine lv_iconst (v := 0) hx hb dX0_read_40 (by decide) ?_
    refine va_put (D := (dC, dI)) (ci := 0) (v := .int 0) (ty := .int) (C := RX0) (T := TX0) (N := 7) hx hb hts hIn tyX0 tyX0_ok nmX0 hown hK hP hD hS 0 rfl rfl 1 (by decide) (hts (.fieldLink RX0 19 RX0 "textLength" "I") (by decide +kernel)) (fun _ h9 => h9) rfl (by decide +kernel) rfl rfl (Nat.le_of_ble_eq_true rfl) dX0_read_41 (fun H locs hP hD hS => ?_)
    have hP : va_P (dC, dI) vwCl [(h0, .inr (0, [.ref h1, .int 0, .ref h2, .ref h3, .int 0, .int (bI false), .int RR.2.2.2.2])), (h1, .inl (cA, 1000, .inl tx)), (h2, .inl (cA, 1000, .inl RR.2.1)), (h3, .inl (cA, 1001, .inl RR.2.2.1))] H := hP
    have hD : va_D A [(h0, .inr (0, [.ref h1, .int 0, .ref h2, .ref h3, .int 0, .int (bI false), .int RR.2.2.2.2])), (h1, .inl (cA, 1000, .inl tx)), (h2, .inl (cA, 1000, .inl RR.2.1)), (h3, .inl (cA, 1001, .inl RR.2.2.1))] := hD
    refine lv_iload_n hx hb dX0_read_44 rfl (lv_at hl 0 rfl) ?_
    refine lv_if_ne (tgt := 55) hx hb dX0_read_45 (by decide) (fun c_4 => ?_) (fun c_4 => ?_)
    · refine lv_iconst (v := -1) hx hb dX0_read_55 (by decide) ?_
      refine lv_iload_n hx hb dX0_read_56 rfl (lv_at hl 0 rfl) ?_
      refine lv_isub hx hb dX0_read_57 ?_
      have hP9 : va_P (dC, dI) vwCl (xw h0 h1 h2 h3 cA (tx, 0, RR.2.1, RR.2.2.1, 0, false, RR.2.2.2.2)) H := hP
      have hD9 : va_D A (xw h0 h1 h2 h3 cA (tx, 0, RR.2.1, RR.2.2.1, 0, false, RR.2.2.2.2)) := hD
      exact W.iret (v := (-1) - RR.1) hx hb hr (fun t ht hW => ⟨⟨(-1) - RR.1, (tx, 0, RR.2.1, RR.2.2.1, 0, false, RR.2.2.2.2), rfl, (by refine ⟨?_, ?_⟩ <;> simp only [xRead, xReadU, if_neg c_3, if_neg c_4]), by rw [ht]; exact hP9, va_K.moved hW.alike hK, hD9⟩, hS.F ht⟩) hS.2.2 dX0_read_58
    · exact absurd c_4 c_3
  · refine lv_aload_n hx hb dX0_read_13 rfl (lv_at hl 1 rfl) ?_
    refine va_get (D := (dC, dI)) (ci := 0) (v := .ref h3) (C := RX0) (T := TX0) (N := 7) hx hb hts hIn hown hK hP 0 rfl rfl 3 (by decide) (hts (.fieldLink RX0 16 RX0 "places" "[I") (by decide +kernel)) (fun _ h9 => h9) rfl dX0_read_14 ?_
    refine lv_aload_n hx hb dX0_read_17 rfl (lv_at hl 1 rfl) ?_
    refine va_get (D := (dC, dI)) (ci := 0) (v := .int (nI RR.2.2.2.1)) (C := RX0) (T := TX0) (N := 7) hx hb hts hIn hown hK hP 0 rfl rfl 4 (by decide) (hts (.fieldLink RX0 23 RX0 "count" "I") (by decide +kernel)) (fun _ h9 => h9) rfl dX0_read_18 ?_
    refine lv_aload_n hx hb dX0_read_21 rfl (lv_at hl 1 rfl) ?_
    refine va_get (D := (dC, dI)) (ci := 0) (v := .int (nI n)) (C := RX0) (T := TX0) (N := 7) hx hb hts hIn hown hK hP 0 rfl rfl 1 (by decide) (hts (.fieldLink RX0 19 RX0 "textLength" "I") (by decide +kernel)) (fun _ h9 => h9) rfl dX0_read_22 ?_
    refine va_iast hx hb hK hP hD hS 3 0 rfl rfl (vp_in_nI (by omega) (by omega)) dX0_read_25 (fun H locs hP hD hS => ?_)
    rw [nI_clamp (by omega)] at hP hD
    have hP : va_P (dC, dI) vwCl [(h0, .inr (0, [.ref h1, .int (nI n), .ref h2, .ref h3, .int (nI RR.2.2.2.1), .int (bI false), .int RR.2.2.2.2])), (h1, .inl (cA, 1000, .inl tx)), (h2, .inl (cA, 1000, .inl RR.2.1)), (h3, .inl (cA, 1001, .inl (upd RR.2.2.1 RR.2.2.2.1 (nI n))))] H := hP
    have hD : va_D A [(h0, .inr (0, [.ref h1, .int (nI n), .ref h2, .ref h3, .int (nI RR.2.2.2.1), .int (bI false), .int RR.2.2.2.2])), (h1, .inl (cA, 1000, .inl tx)), (h2, .inl (cA, 1000, .inl RR.2.1)), (h3, .inl (cA, 1001, .inl (upd RR.2.2.1 RR.2.2.2.1 (nI n))))] := hD
    refine lv_aload_n hx hb dX0_read_26 rfl (lv_at hl 1 rfl) ?_
    refine lv_iconst (v := 1) hx hb dX0_read_27 (by decide) ?_
    refine va_put (D := (dC, dI)) (ci := 0) (v := .int 1) (ty := .boolean) (C := RX0) (T := TX0) (N := 7) hx hb hts hIn tyX0 tyX0_ok nmX0 hown hK hP hD hS 0 rfl rfl 5 (by decide) (hts (.fieldLink RX0 26 RX0 "hasReading" "Z") (by decide +kernel)) (fun _ h9 => h9) rfl (by decide +kernel) rfl rfl (Nat.le_of_ble_eq_true rfl) dX0_read_28 (fun H locs hP hD hS => ?_)
    have hP : va_P (dC, dI) vwCl [(h0, .inr (0, [.ref h1, .int (nI n), .ref h2, .ref h3, .int (nI RR.2.2.2.1), .int 1, .int RR.2.2.2.2])), (h1, .inl (cA, 1000, .inl tx)), (h2, .inl (cA, 1000, .inl RR.2.1)), (h3, .inl (cA, 1001, .inl (upd RR.2.2.1 RR.2.2.2.1 (nI n))))] H := hP
    have hD : va_D A [(h0, .inr (0, [.ref h1, .int (nI n), .ref h2, .ref h3, .int (nI RR.2.2.2.1), .int 1, .int RR.2.2.2.2])), (h1, .inl (cA, 1000, .inl tx)), (h2, .inl (cA, 1000, .inl RR.2.1)), (h3, .inl (cA, 1001, .inl (upd RR.2.2.1 RR.2.2.2.1 (nI n))))] := hD
    refine lv_goto (tgt := 39) hx hb dX0_read_31 (by decide) ?_
    refine lv_aload_n hx hb dX0_read_39 rfl (lv_at hl 1 rfl) ?_
    refine lv_iconst (v := 0) hx hb dX0_read_40 (by decide) ?_
    refine va_put (D := (dC, dI)) (ci := 0) (v := .int 0) (ty := .int) (C := RX0) (T := TX0) (N := 7) hx hb hts hIn tyX0 tyX0_ok nmX0 hown hK hP hD hS 0 rfl rfl 1 (by decide) (hts (.fieldLink RX0 19 RX0 "textLength" "I") (by decide +kernel)) (fun _ h9 => h9) rfl (by decide +kernel) rfl rfl (Nat.le_of_ble_eq_true rfl) dX0_read_41 (fun H locs hP hD hS => ?_)
    have hP : va_P (dC, dI) vwCl [(h0, .inr (0, [.ref h1, .int 0, .ref h2, .ref h3, .int (nI RR.2.2.2.1), .int 1, .int RR.2.2.2.2])), (h1, .inl (cA, 1000, .inl tx)), (h2, .inl (cA, 1000, .inl RR.2.1)), (h3, .inl (cA, 1001, .inl (upd RR.2.2.1 RR.2.2.2.1 (nI n))))] H := hP
    have hD : va_D A [(h0, .inr (0, [.ref h1, .int 0, .ref h2, .ref h3, .int (nI RR.2.2.2.1), .int 1, .int RR.2.2.2.2])), (h1, .inl (cA, 1000, .inl tx)), (h2, .inl (cA, 1000, .inl RR.2.1)), (h3, .inl (cA, 1001, .inl (upd RR.2.2.1 RR.2.2.2.1 (nI n))))] := hD
    refine lv_iload_n hx hb dX0_read_44 rfl (lv_at hl 0 rfl) ?_
    refine lv_if_ne (tgt := 55) hx hb dX0_read_45 (by decide) (fun c_5 => ?_) (fun c_5 => ?_)
    · exact absurd c_3 c_5
    · refine lv_aload_n hx hb dX0_read_48 rfl (lv_at hl 1 rfl) ?_
      refine va_get (D := (dC, dI)) (ci := 0) (v := .int (nI RR.2.2.2.1)) (C := RX0) (T := TX0) (N := 7) hx hb hts hIn hown hK hP 0 rfl rfl 4 (by decide) (hts (.fieldLink RX0 23 RX0 "count" "I") (by decide +kernel)) (fun _ h9 => h9) rfl dX0_read_49 ?_
      refine lv_goto (tgt := 58) hx hb dX0_read_52 (by decide) ?_
      have hP9 : va_P (dC, dI) vwCl (xw h0 h1 h2 h3 cA (tx, 0, RR.2.1, (upd RR.2.2.1 RR.2.2.2.1 (nI n)), RR.2.2.2.1, true, RR.2.2.2.2)) H := hP
      have hD9 : va_D A (xw h0 h1 h2 h3 cA (tx, 0, RR.2.1, (upd RR.2.2.1 RR.2.2.2.1 (nI n)), RR.2.2.2.1, true, RR.2.2.2.2)) := hD
      exact W.iret (v := nI RR.2.2.2.1) hx hb hr (fun t ht hW => ⟨⟨nI RR.2.2.2.1, (tx, 0, RR.2.1, (upd RR.2.2.1 RR.2.2.2.1 (nI n)), RR.2.2.2.1, true, RR.2.2.2.2), rfl, (by refine ⟨?_, ?_⟩ <;> simp only [xRead, xReadU, if_pos c_3, if_pos c_5]), by rw [ht]; exact hP9, va_K.moved hW.alike hK, hD9⟩, hS.F ht⟩) hS.2.2 dX0_read_58
end
section
theorem nz_cell (n : Nat) (cA : ClassId) : vp_cell cA (n, .inl (fun _ => 0)) = arrV cA n (fun _ => defaultValue .int) := rfl
set_option maxHeartbeats 4000000 in
set_option maxRecDepth 100000 in
/-- CharDesk() -/
theorem c_X0_init (l : Launch) (dC : Nat → ClassId) (dI : Nat → Nat → Nat) (h0 : Nat) (sz : Nat) : Met l yX0_init wsX0_init ({ frames := 1, cells := 3, slots := 3001, locals := 20 }) (va_Pc [.ref h0] (fun U => U.heap.size = sz ∧ va_P (dC, dI) vwCl [(h0, .inr (0, [.null, .int 0, .null, .null, .int 0, .int 0, .int 0]))] U.heap ∧ va_K (dC, dI) vwCl [] U ∧ va_D (fun _ => True) [(h0, .inr (0, [.null, .int 0, .null, .null, .int 0, .int 0, .int 0]))])) (va_Qv (fun u : XS => u = (fun _ => 0, 0, fun _ => 0, fun _ => 0, 0, false, -1)) (xatt0 dC dI h0 (va_A [(h0, .inr (0, [.null, .int 0, .null, .null, .int 0, .int 0, .int 0]))] sz)) (va_A [(h0, .inr (0, [.null, .int 0, .null, .null, .int 0, .int 0, .int 0]))] sz)) 3 3001 (va_A [(h0, .inr (0, [.null, .int 0, .null, .null, .int 0, .int 0, .int 0]))] sz) := by
  refine Met.ofW (cc := cX0_init) (maxL := 1) (ret := none) (by decide) rfl ?_
  intro p e s m args below meth c s₁ B hml hv
  obtain ⟨rfl, hsz, hP, hK, hD0⟩ := hv
  have hx := B.exec
  have hb := B.bytes
  have hr := B.returns
  have hts := atoms_spec (ws := wsX0_init) B.pre
  have hown : s.vm.findClass RX0 = some m.cls := findClass_of_methodNamed B.named
  have hin : meth.name = "<init>" := (name_of_methodNamed B.named B.method).1
  subst hsz
  have hD := hD0.self (sz := s.heap.size)
  generalize hAe : va_A [(h0, .inr (0, [.null, .int 0, .null, .null, .int 0, .int 0, .int 0]))] s.heap.size = A at hD ⊢
  have hA : ∀ q : Nat, s.heap.size ≤ q → A q := fun q h => by rw [← hAe]; exact Or.inr h
  have hS : va_S A s.heap s.heap [] := va_S.rf
  have hP : va_P (dC, dI) vwCl [(h0, .inr (0, [.null, .int 0, .null, .null, .int 0, .int 0, .int 0]))] s.heap := hP
  have hD : va_D A [(h0, .inr (0, [.null, .int 0, .null, .null, .int 0, .int 0, .int 0]))] := hD
  have hIn : ∀ w ∈ wsX00, w ∈ wsX0_init := by decide +kernel
  have hl := lv_entry ([.ref h0]) (n := 1) (Nat.le_of_ble_eq_true rfl)
  rw [lg_entry_eq]
  generalize (lg_sl ([.ref h0]) ++ List.replicate (1 - (lg_sl ([.ref h0])).length) Slot.unset).toArray = ls at hl ⊢
  have hl : lv_has ls 1 [(0, .ref h0)] := hl
  refine lv_aload_n hx hb dX0_init_0 rfl (lv_at hl 0 rfl) ?_
  refine W.objInit hx hb hown (hts (.methodLink RX0 1 objectInit) (by decide +kernel)) (hts (.instanceMethod objectInit) (by decide +kernel)) (hts (.code objectInit ⟨#[0xb1]⟩ 1 none) (by decide +kernel)) rfl (by rw [hml]; exact hl.1) rfl dX0_init_1 (Nat.le_of_ble_eq_true rfl) (Nat.le_of_ble_eq_true rfl) ?_
  refine W.eq (g2 := F0 m 4 ls []) rfl ?_
  refine lv_aload_n hx hb dX0_init_4 rfl (lv_at hl 0 rfl) ?_
  refine lv_sipush (v := 1000) hx hb dX0_init_5 (by decide) ?_
  refine va_newa (atype := .int) (ty := .int) (a0 := (1000, .inl (fun _ => 0))) (N' := 1000) hx hb (hts (.arrayClass .int) (by decide +kernel)) rfl hK hP hD hS hA (nz_cell 1000) (by decide) (by decide) (by decide) (Nat.le_of_ble_eq_true rfl) (Nat.le_of_ble_eq_true rfl) dX0_init_8 (fun a_1 cA_1 H hK hP hD hS => ?_)
  have hK : va_K (dC, dI) vwCl [(cA_1, .int)] s := hK
  have hP : va_P (dC, dI) vwCl [(h0, .inr (0, [.null, .int 0, .null, .null, .int 0, .int 0, .int 0])), (a_1, .inl (cA_1, 1000, .inl (fun _ => 0)))] H := hP
  have hD : va_D A [(h0, .inr (0, [.null, .int 0, .null, .null, .int 0, .int 0, .int 0])), (a_1, .inl (cA_1, 1000, .inl (fun _ => 0)))] := hD
  refine va_putF (D := (dC, dI)) (ci := 0) (v := .ref a_1) (ty := (.array .int)) (C := RX0) (T := TX0) (N := 7) hx hb hts hIn tyX0 tyX0_ok nmX0 hown hK hP hD hS 0 rfl rfl 0 (by decide) (hts (.fieldLink RX0 9 RX0 "text" "[I") (by decide +kernel)) (fun _ h9 => h9) rfl hin rfl (by decide +kernel) rfl rfl (Nat.le_of_ble_eq_true rfl) dX0_init_10 (fun H locs hP hD hS => ?_)
  have hP : va_P (dC, dI) vwCl [(h0, .inr (0, [.ref a_1, .int 0, .null, .null, .int 0, .int 0, .int 0])), (a_1, .inl (cA_1, 1000, .inl (fun _ => 0)))] H := hP
  have hD : va_D A [(h0, .inr (0, [.ref a_1, .int 0, .null, .null, .int 0, .int 0, .int 0])), (a_1, .inl (cA_1, 1000, .inl (fun _ => 0)))] := hD
  refine lv_aload_n hx hb dX0_init_13 rfl (lv_at hl 0 rfl) ?_
  refine lv_sipush (v := 1000) hx hb dX0_init_14 (by decide) ?_
  refine va_newa (atype := .int) (ty := .int) (a0 := (1000, .inl (fun _ => 0))) (N' := 1000) hx hb (hts (.arrayClass .int) (by decide +kernel)) rfl hK hP hD hS hA (nz_cell 1000) (by decide) (by decide) (by decide) (Nat.le_of_ble_eq_true rfl) (Nat.le_of_ble_eq_true rfl) dX0_init_17 (fun a_2 cA_2 H hK hP hD hS => ?_)
  have hK : va_K (dC, dI) vwCl [(cA_1, .int), (cA_2, .int)] s := hK
  have hP : va_P (dC, dI) vwCl [(h0, .inr (0, [.ref a_1, .int 0, .null, .null, .int 0, .int 0, .int 0])), (a_1, .inl (cA_1, 1000, .inl (fun _ => 0))), (a_2, .inl (cA_2, 1000, .inl (fun _ => 0)))] H := hP
  have hD : va_D A [(h0, .inr (0, [.ref a_1, .int 0, .null, .null, .int 0, .int 0, .int 0])), (a_1, .inl (cA_1, 1000, .inl (fun _ => 0))), (a_2, .inl (cA_2, 1000, .inl (fun _ => 0)))] := hD
  obtain rfl : cA_1 = cA_2 := va_cAeq hK
  have hK : va_K (dC, dI) vwCl [(cA_1, .int)] s := hK.sub [0] rfl
  have hP : va_P (dC, dI) vwCl [(h0, .inr (0, [.ref a_1, .int 0, .null, .null, .int 0, .int 0, .int 0])), (a_1, .inl (cA_1, 1000, .inl (fun _ => 0))), (a_2, .inl (cA_1, 1000, .inl (fun _ => 0)))] H := hP
  have hD : va_D A [(h0, .inr (0, [.ref a_1, .int 0, .null, .null, .int 0, .int 0, .int 0])), (a_1, .inl (cA_1, 1000, .inl (fun _ => 0))), (a_2, .inl (cA_1, 1000, .inl (fun _ => 0)))] := hD
  refine va_putF (D := (dC, dI)) (ci := 0) (v := .ref a_2) (ty := (.array .int)) (C := RX0) (T := TX0) (N := 7) hx hb hts hIn tyX0 tyX0_ok nmX0 hown hK hP hD hS 0 rfl rfl 2 (by decide) (hts (.fieldLink RX0 13 RX0 "characters" "[I") (by decide +kernel)) (fun _ h9 => h9) rfl hin rfl (by decide +kernel) rfl rfl (Nat.le_of_ble_eq_true rfl) dX0_init_19 (fun H locs hP hD hS => ?_)
  have hP : va_P (dC, dI) vwCl [(h0, .inr (0, [.ref a_1, .int 0, .ref a_2, .null, .int 0, .int 0, .int 0])), (a_1, .inl (cA_1, 1000, .inl (fun _ => 0))), (a_2, .inl (cA_1, 1000, .inl (fun _ => 0)))] H := hP
  have hD : va_D A [(h0, .inr (0, [.ref a_1, .int 0, .ref a_2, .null, .int 0, .int 0, .int 0])), (a_1, .inl (cA_1, 1000, .inl (fun _ => 0))), (a_2, .inl (cA_1, 1000, .inl (fun _ => 0)))] := hD
  refine lv_aload_n hx hb dX0_init_22 rfl (lv_at hl 0 rfl) ?_
  refine lv_sipush (v := 1001) hx hb dX0_init_23 (by decide) ?_
  refine va_newa (atype := .int) (ty := .int) (a0 := (1001, .inl (fun _ => 0))) (N' := 1001) hx hb (hts (.arrayClass .int) (by decide +kernel)) rfl hK hP hD hS hA (nz_cell 1001) (by decide) (by decide) (by decide) (Nat.le_of_ble_eq_true rfl) (Nat.le_of_ble_eq_true rfl) dX0_init_26 (fun a_3 cA_3 H hK hP hD hS => ?_)
  have hK : va_K (dC, dI) vwCl [(cA_1, .int), (cA_3, .int)] s := hK
  have hP : va_P (dC, dI) vwCl [(h0, .inr (0, [.ref a_1, .int 0, .ref a_2, .null, .int 0, .int 0, .int 0])), (a_1, .inl (cA_1, 1000, .inl (fun _ => 0))), (a_2, .inl (cA_1, 1000, .inl (fun _ => 0))), (a_3, .inl (cA_3, 1001, .inl (fun _ => 0)))] H := hP
  have hD : va_D A [(h0, .inr (0, [.ref a_1, .int 0, .ref a_2, .null, .int 0, .int 0, .int 0])), (a_1, .inl (cA_1, 1000, .inl (fun _ => 0))), (a_2, .inl (cA_1, 1000, .inl (fun _ => 0))), (a_3, .inl (cA_3, 1001, .inl (fun _ => 0)))] := hD
  obtain rfl : cA_1 = cA_3 := va_cAeq hK
  have hK : va_K (dC, dI) vwCl [(cA_1, .int)] s := hK.sub [0] rfl
  have hP : va_P (dC, dI) vwCl [(h0, .inr (0, [.ref a_1, .int 0, .ref a_2, .null, .int 0, .int 0, .int 0])), (a_1, .inl (cA_1, 1000, .inl (fun _ => 0))), (a_2, .inl (cA_1, 1000, .inl (fun _ => 0))), (a_3, .inl (cA_1, 1001, .inl (fun _ => 0)))] H := hP
  have hD : va_D A [(h0, .inr (0, [.ref a_1, .int 0, .ref a_2, .null, .int 0, .int 0, .int 0])), (a_1, .inl (cA_1, 1000, .inl (fun _ => 0))), (a_2, .inl (cA_1, 1000, .inl (fun _ => 0))), (a_3, .inl (cA_1, 1001, .inl (fun _ => 0)))] := hD
  refine va_putF (D := (dC, dI)) (ci := 0) (v := .ref a_3) (ty := (.array .int)) (C := RX0) (T := TX0) (N := 7) hx hb hts hIn tyX0 tyX0_ok nmX0 hown hK hP hD hS 0 rfl rfl 3 (by decide) (hts (.fieldLink RX0 16 RX0 "places" "[I") (by decide +kernel)) (fun _ h9 => h9) rfl hin rfl (by decide +kernel) rfl rfl (Nat.le_of_ble_eq_true rfl) dX0_init_28 (fun H locs hP hD hS => ?_)
  have hP : va_P (dC, dI) vwCl [(h0, .inr (0, [.ref a_1, .int 0, .ref a_2, .ref a_3, .int 0, .int 0, .int 0])), (a_1, .inl (cA_1, 1000, .inl (fun _ => 0))), (a_2, .inl (cA_1, 1000, .inl (fun _ => 0))), (a_3, .inl (cA_1, 1001, .inl (fun _ => 0)))] H := hP
  have hD : va_D A [(h0, .inr (0, [.ref a_1, .int 0, .ref a_2, .ref a_3, .int 0, .int 0, .int 0])), (a_1, .inl (cA_1, 1000, .inl (fun _ => 0))), (a_2, .inl (cA_1, 1000, .inl (fun _ => 0))), (a_3, .inl (cA_1, 1001, .inl (fun _ => 0)))] := hD
  refine lv_aload_n hx hb dX0_init_31 rfl (lv_at hl 0 rfl) ?_
  refine lv_iconst (v := 0) hx hb dX0_init_32 (by decide) ?_
  refine va_put (D := (dC, dI)) (ci := 0) (v := .int 0) (ty := .int) (C := RX0) (T := TX0) (N := 7) hx hb hts hIn tyX0 tyX0_ok nmX0 hown hK hP hD hS 0 rfl rfl 1 (by decide) (hts (.fieldLink RX0 19 RX0 "textLength" "I") (by decide +kernel)) (fun _ h9 => h9) rfl (by decide +kernel) rfl rfl (Nat.le_of_ble_eq_true rfl) dX0_init_33 (fun H locs hP hD hS => ?_)
  have hP : va_P (dC, dI) vwCl [(h0, .inr (0, [.ref a_1, .int 0, .ref a_2, .ref a_3, .int 0, .int 0, .int 0])), (a_1, .inl (cA_1, 1000, .inl (fun _ => 0))), (a_2, .inl (cA_1, 1000, .inl (fun _ => 0))), (a_3, .inl (cA_1, 1001, .inl (fun _ => 0)))] H := hP
  have hD : va_D A [(h0, .inr (0, [.ref a_1, .int 0, .ref a_2, .ref a_3, .int 0, .int 0, .int 0])), (a_1, .inl (cA_1, 1000, .inl (fun _ => 0))), (a_2, .inl (cA_1, 1000, .inl (fun _ => 0))), (a_3, .inl (cA_1, 1001, .inl (fun _ => 0)))] := hD
  refine lv_aload_n hx hb dX0_init_36 rfl (lv_at hl 0 rfl) ?_
  refine lv_iconst (v := 0) hx hb dX0_init_37 (by decide) ?_
  refine va_put (D := (dC, dI)) (ci := 0) (v := .int 0) (ty := .int) (C := RX0) (T := TX0) (N := 7) hx hb hts hIn tyX0 tyX0_ok nmX0 hown hK hP hD hS 0 rfl rfl 4 (by decide) (hts (.fieldLink RX0 23 RX0 "count" "I") (by decide +kernel)) (fun _ h9 => h9) rfl (by decide +kernel) rfl rfl (Nat.le_of_ble_eq_true rfl) dX0_init_38 (fun H locs hP hD hS => ?_)
  have hP : va_P (dC, dI) vwCl [(h0, .inr (0, [.ref a_1, .int 0, .ref a_2, .ref a_3, .int 0, .int 0, .int 0])), (a_1, .inl (cA_1, 1000, .inl (fun _ => 0))), (a_2, .inl (cA_1, 1000, .inl (fun _ => 0))), (a_3, .inl (cA_1, 1001, .inl (fun _ => 0)))] H := hP
  have hD : va_D A [(h0, .inr (0, [.ref a_1, .int 0, .ref a_2, .ref a_3, .int 0, .int 0, .int 0])), (a_1, .inl (cA_1, 1000, .inl (fun _ => 0))), (a_2, .inl (cA_1, 1000, .inl (fun _ => 0))), (a_3, .inl (cA_1, 1001, .inl (fun _ => 0)))] := hD
  refine lv_aload_n hx hb dX0_init_41 rfl (lv_at hl 0 rfl) ?_
  refine lv_iconst (v := 0) hx hb dX0_init_42 (by decide) ?_
  refine va_put (D := (dC, dI)) (ci := 0) (v := .int 0) (ty := .boolean) (C := RX0) (T := TX0) (N := 7) hx hb hts hIn tyX0 tyX0_ok nmX0 hown hK hP hD hS 0 rfl rfl 5 (by decide) (hts (.fieldLink RX0 26 RX0 "hasReading" "Z") (by decide +kernel)) (fun _ h9 => h9) rfl (by decide +kernel) rfl rfl (Nat.le_of_ble_eq_true rfl) dX0_init_43 (fun H locs hP hD hS => ?_)
  have hP : va_P (dC, dI) vwCl [(h0, .inr (0, [.ref a_1, .int 0, .ref a_2, .ref a_3, .int 0, .int 0, .int 0])), (a_1, .inl (cA_1, 1000, .inl (fun _ => 0))), (a_2, .inl (cA_1, 1000, .inl (fun _ => 0))), (a_3, .inl (cA_1, 1001, .inl (fun _ => 0)))] H := hP
  have hD : va_D A [(h0, .inr (0, [.ref a_1, .int 0, .ref a_2, .ref a_3, .int 0, .int 0, .int 0])), (a_1, .inl (cA_1, 1000, .inl (fun _ => 0))), (a_2, .inl (cA_1, 1000, .inl (fun _ => 0))), (a_3, .inl (cA_1, 1001, .inl (fun _ => 0)))] := hD
  refine lv_aload_n hx hb dX0_init_46 rfl (lv_at hl 0 rfl) ?_
  refine lv_iconst (v := -1) hx hb dX0_init_47 (by decide) ?_
  refine va_put (D := (dC, dI)) (ci := 0) (v := .int (-1)) (ty := .int) (C := RX0) (T := TX0) (N := 7) hx hb hts hIn tyX0 tyX0_ok nmX0 hown hK hP hD hS 0 rfl rfl 6 (by decide) (hts (.fieldLink RX0 30 RX0 "faultPlace" "I") (by decide +kernel)) (fun _ h9 => h9) rfl (by decide +kernel) rfl rfl (Nat.le_of_ble_eq_true rfl) dX0_init_48 (fun H locs hP hD hS => ?_)
  have hP : va_P (dC, dI) vwCl [(h0, .inr (0, [.ref a_1, .int 0, .ref a_2, .ref a_3, .int 0, .int 0, .int (-1)])), (a_1, .inl (cA_1, 1000, .inl (fun _ => 0))), (a_2, .inl (cA_1, 1000, .inl (fun _ => 0))), (a_3, .inl (cA_1, 1001, .inl (fun _ => 0)))] H := hP
  have hD : va_D A [(h0, .inr (0, [.ref a_1, .int 0, .ref a_2, .ref a_3, .int 0, .int 0, .int (-1)])), (a_1, .inl (cA_1, 1000, .inl (fun _ => 0))), (a_2, .inl (cA_1, 1000, .inl (fun _ => 0))), (a_3, .inl (cA_1, 1001, .inl (fun _ => 0)))] := hD
  have hP9 : va_P (dC, dI) vwCl (xw h0 a_1 a_2 a_3 cA_1 ((fun _ => 0), 0, (fun _ => 0), (fun _ => 0), 0, false, (-1))) H := hP
  have hD9 : va_D A (xw h0 a_1 a_2 a_3 cA_1 ((fun _ => 0), 0, (fun _ => 0), (fun _ => 0), 0, false, (-1))) := hD
  refine W.widen (k := 3) (n := 3001) (Nat.le_of_ble_eq_true rfl) (Nat.le_of_ble_eq_true rfl) ?_
  exact W.vret hx hb hr (fun t ht hW => ⟨⟨((fun _ => 0), 0, (fun _ => 0), (fun _ => 0), 0, false, (-1)), rfl, rfl, a_1, a_2, a_3, cA_1, by rw [ht]; exact hP9, va_K.moved hW.alike hK, hD9⟩, hS.F ht⟩) hS.2.2 dX0_init_51
end
section
abbrev cX1_within : ByteArray := prog_3_method_16_code
def yX1_within : MethodName := ⟨RX1, "within", "(III)Z"⟩
abbrev cX1_isBlank : ByteArray := prog_3_method_15_code
def yX1_isBlank : MethodName := ⟨RX1, "isBlank", "(I)Z"⟩
abbrev cX1_isBegin : ByteArray := prog_3_method_17_code
def yX1_isBegin : MethodName := ⟨RX1, "isBegin", "(I)Z"⟩
abbrev cX1_isPart : ByteArray := prog_3_method_18_code
def yX1_isPart : MethodName := ⟨RX1, "isPart", "(I)Z"⟩
abbrev cX1_kind : ByteArray := prog_3_method_19_code
def yX1_kind : MethodName := ⟨RX1, "kind", "(I)I"⟩
abbrev cX1_placeOf : ByteArray := prog_3_method_14_code
def yX1_placeOf : MethodName := ⟨RX1, "placeOf", "(I)I"⟩
abbrev cX1_run : ByteArray := prog_3_method_20_code
def yX1_run : MethodName := ⟨RX1, "run", "(II)I"⟩
abbrev cX1_compare : ByteArray := prog_3_method_21_code
def yX1_compare : MethodName := ⟨RX1, "compare", "(III)I"⟩
abbrev cX1_bytes : ByteArray := prog_3_method_22_code
def yX1_bytes : MethodName := ⟨RX1, "bytes", "(I)J"⟩
def wsX1_within : List Cond := .code yX1_within cX1_within 3 (some .boolean) :: (([] : List Cond))
def wsX1_isBlank : List Cond := .code yX1_isBlank cX1_isBlank 1 (some .boolean) :: (([] : List Cond))
def wsX1_isBegin : List Cond := .code yX1_isBegin cX1_isBegin 3 (some .boolean) :: (([.methodLink RX1 74 yX1_within, .static yX1_within, .initialized RX1, .constant RX1 78 (55295), .constant RX1 79 (63744), .constant RX1 80 (64975), .constant RX1 81 (65008), .constant RX1 82 (65533), .constant RX1 49 (65536), .constant RX1 83 (983039)] : List Cond) ++ wsX1_within)
def wsX1_isPart : List Cond := .code yX1_isPart cX1_isPart 1 (some .boolean) :: (([.methodLink RX1 84 yX1_isBegin, .static yX1_isBegin, .initialized RX1, .methodLink RX1 74 yX1_within, .static yX1_within] : List Cond) ++ wsX1_isBegin ++ wsX1_within)
def wsX1_kind : List Cond := .code yX1_kind cX1_kind 3 (some .int) :: (([.methodLink RX1 64 yX1_isAllowed, .static yX1_isAllowed, .initialized RX1, .methodLink RX1 87 yX1_isBlank, .static yX1_isBlank, .methodLink RX1 84 yX1_isBegin, .static yX1_isBegin, .methodLink RX1 90 yX1_isPart, .static yX1_isPart] : List Cond) ++ wsX1_isAllowed ++ wsX1_isBlank ++ wsX1_isBegin ++ wsX1_isPart)
def wsX1_placeOf : List Cond := .code yX1_placeOf cX1_placeOf 2 (some .int) :: (([.methodLink RX1 71 yX1_go, .instanceMethod yX1_go, .selects RX1 yX1_go yX1_go, .initialized RX1, .fieldLink RX1 50 "CharDeskModel" "began" "I", .fieldLink RX1 60 "CharDeskModel" "read" "Z", .fieldLink RX1 44 "CharDeskModel" "length" "I"] : List Cond) ++ wsX1_go ++ wsX10)
def wsX1_run : List Cond := .code yX1_run cX1_run 6 (some .int) :: (([.methodLink RX1 71 yX1_go, .instanceMethod yX1_go, .selects RX1 yX1_go yX1_go, .initialized RX1, .fieldLink RX1 57 "CharDeskModel" "met" "I", .methodLink RX1 84 yX1_isBegin, .static yX1_isBegin, .methodLink RX1 90 yX1_isPart, .static yX1_isPart, .methodLink RX1 87 yX1_isBlank, .static yX1_isBlank, .methodLink RX1 67 yX1_next, .instanceMethod yX1_next, .selects RX1 yX1_next yX1_next] : List Cond) ++ wsX1_go ++ wsX1_isBegin ++ wsX1_isPart ++ wsX1_isBlank ++ wsX1_next ++ wsX10)
def wsX1_compare : List Cond := .code yX1_compare cX1_compare 7 (some .int) :: (([.fieldLink RX1 60 "CharDeskModel" "read" "Z", .fieldLink RX1 41 "CharDeskModel" "stand" "I", .methodLink RX1 67 yX1_next, .instanceMethod yX1_next, .selects RX1 yX1_next yX1_next, .initialized RX1, .methodLink RX1 71 yX1_go, .instanceMethod yX1_go, .selects RX1 yX1_go yX1_go, .fieldLink RX1 57 "CharDeskModel" "met" "I"] : List Cond) ++ wsX1_next ++ wsX1_go ++ wsX10)
def wsX1_bytes : List Cond := .code yX1_bytes cX1_bytes 5 (some .long) :: (([.methodLink RX1 33 yX1_has, .static yX1_has, .initialized RX1, .methodLink RX1 29 yX1_sizeOf, .static yX1_sizeOf, .constantLong RX1 93 (256), .methodLink RX1 37 yX1_byteOf, .static yX1_byteOf] : List Cond) ++ wsX1_has ++ wsX1_sizeOf ++ wsX1_byteOf)
set_option maxRecDepth 20000 in
theorem gX1_isBegin_X1_within : GoodIn wsX1_isBegin (va_wsS RX1 74 yX1_within wsX1_within) := goodIn_sub (by decide +kernel) (by decide +kernel)
set_option maxRecDepth 20000 in
theorem gX1_isPart_X1_isBegin : GoodIn wsX1_isPart (va_wsS RX1 84 yX1_isBegin wsX1_isBegin) := goodIn_sub (by decide +kernel) (by decide +kernel)
set_option maxRecDepth 20000 in
theorem gX1_isPart_X1_within : GoodIn wsX1_isPart (va_wsS RX1 74 yX1_within wsX1_within) := goodIn_sub (by decide +kernel) (by decide +kernel)
set_option maxRecDepth 20000 in
theorem gX1_kind_X1_isAllowed : GoodIn wsX1_kind (va_wsS RX1 64 yX1_isAllowed wsX1_isAllowed) := goodIn_sub (by decide +kernel) (by decide +kernel)
set_option maxRecDepth 20000 in
theorem gX1_kind_X1_isBlank : GoodIn wsX1_kind (va_wsS RX1 87 yX1_isBlank wsX1_isBlank) := goodIn_sub (by decide +kernel) (by decide +kernel)
set_option maxRecDepth 20000 in
theorem gX1_kind_X1_isBegin : GoodIn wsX1_kind (va_wsS RX1 84 yX1_isBegin wsX1_isBegin) := goodIn_sub (by decide +kernel) (by decide +kernel)
set_option maxRecDepth 20000 in
theorem gX1_kind_X1_isPart : GoodIn wsX1_kind (va_wsS RX1 90 yX1_isPart wsX1_isPart) := goodIn_sub (by decide +kernel) (by decide +kernel)
set_option maxRecDepth 20000 in
theorem gX1_placeOf_X1_go : GoodIn wsX1_placeOf (wsV RX1 71 RX1 yX1_go wsX1_go) := goodIn_sub (by decide +kernel) (by decide +kernel)
set_option maxRecDepth 20000 in
theorem gX1_run_X1_go : GoodIn wsX1_run (wsV RX1 71 RX1 yX1_go wsX1_go) := goodIn_sub (by decide +kernel) (by decide +kernel)
set_option maxRecDepth 20000 in
theorem gX1_run_X1_isBegin : GoodIn wsX1_run (va_wsS RX1 84 yX1_isBegin wsX1_isBegin) := goodIn_sub (by decide +kernel) (by decide +kernel)
set_option maxRecDepth 20000 in
theorem gX1_run_X1_isPart : GoodIn wsX1_run (va_wsS RX1 90 yX1_isPart wsX1_isPart) := goodIn_sub (by decide +kernel) (by decide +kernel)
set_option maxRecDepth 20000 in
theorem gX1_run_X1_isBlank : GoodIn wsX1_run (va_wsS RX1 87 yX1_isBlank wsX1_isBlank) := goodIn_sub (by decide +kernel) (by decide +kernel)
set_option maxRecDepth 20000 in
theorem gX1_run_X1_next : GoodIn wsX1_run (wsV RX1 67 RX1 yX1_next wsX1_next) := goodIn_sub (by decide +kernel) (by decide +kernel)
set_option maxRecDepth 20000 in
theorem gX1_compare_X1_next : GoodIn wsX1_compare (wsV RX1 67 RX1 yX1_next wsX1_next) := goodIn_sub (by decide +kernel) (by decide +kernel)
set_option maxRecDepth 20000 in
theorem gX1_compare_X1_go : GoodIn wsX1_compare (wsV RX1 71 RX1 yX1_go wsX1_go) := goodIn_sub (by decide +kernel) (by decide +kernel)
set_option maxRecDepth 20000 in
theorem gX1_bytes_X1_has : GoodIn wsX1_bytes (va_wsS RX1 33 yX1_has wsX1_has) := goodIn_sub (by decide +kernel) (by decide +kernel)
set_option maxRecDepth 20000 in
theorem gX1_bytes_X1_sizeOf : GoodIn wsX1_bytes (va_wsS RX1 29 yX1_sizeOf wsX1_sizeOf) := goodIn_sub (by decide +kernel) (by decide +kernel)
set_option maxRecDepth 20000 in
theorem gX1_bytes_X1_byteOf : GoodIn wsX1_bytes (va_wsS RX1 37 yX1_byteOf wsX1_byteOf) := goodIn_sub (by decide +kernel) (by decide +kernel)
theorem dX1_within_0 : decode cX1_within 0 = .ok (.iload_n 0, 1) := by decide +kernel
theorem dX1_within_1 : decode cX1_within 1 = .ok (.iload_n 1, 1) := by decide +kernel
theorem dX1_within_2 : decode cX1_within 2 = .ok (.if_icmp .lt 12, 3) := by decide +kernel
theorem dX1_within_5 : decode cX1_within 5 = .ok (.iload_n 0, 1) := by decide +kernel
theorem dX1_within_6 : decode cX1_within 6 = .ok (.iload_n 2, 1) := by decide +kernel
theorem dX1_within_7 : decode cX1_within 7 = .ok (.if_icmp .gt 7, 3) := by decide +kernel
theorem dX1_within_10 : decode cX1_within 10 = .ok (.iconst 1, 1) := by decide +kernel
theorem dX1_within_11 : decode cX1_within 11 = .ok (.goto 4, 3) := by decide +kernel
theorem dX1_within_14 : decode cX1_within 14 = .ok (.iconst 0, 1) := by decide +kernel
theorem dX1_within_15 : decode cX1_within 15 = .ok (.ireturn, 1) := by decide +kernel
theorem dX1_isBlank_0 : decode cX1_isBlank 0 = .ok (.iload_n 0, 1) := by decide +kernel
theorem dX1_isBlank_1 : decode cX1_isBlank 1 = .ok (.bipush 32, 2) := by decide +kernel
theorem dX1_isBlank_3 : decode cX1_isBlank 3 = .ok (.if_icmp .eq 21, 3) := by decide +kernel
theorem dX1_isBlank_6 : decode cX1_isBlank 6 = .ok (.iload_n 0, 1) := by decide +kernel
theorem dX1_isBlank_7 : decode cX1_isBlank 7 = .ok (.bipush 9, 2) := by decide +kernel
theorem dX1_isBlank_9 : decode cX1_isBlank 9 = .ok (.if_icmp .eq 15, 3) := by decide +kernel
theorem dX1_isBlank_12 : decode cX1_isBlank 12 = .ok (.iload_n 0, 1) := by decide +kernel
theorem dX1_isBlank_13 : decode cX1_isBlank 13 = .ok (.bipush 13, 2) := by decide +kernel
theorem dX1_isBlank_15 : decode cX1_isBlank 15 = .ok (.if_icmp .eq 9, 3) := by decide +kernel
theorem dX1_isBlank_18 : decode cX1_isBlank 18 = .ok (.iload_n 0, 1) := by decide +kernel
theorem dX1_isBlank_19 : decode cX1_isBlank 19 = .ok (.bipush 10, 2) := by decide +kernel
theorem dX1_isBlank_21 : decode cX1_isBlank 21 = .ok (.if_icmp .ne 7, 3) := by decide +kernel
theorem dX1_isBlank_24 : decode cX1_isBlank 24 = .ok (.iconst 1, 1) := by decide +kernel
theorem dX1_isBlank_25 : decode cX1_isBlank 25 = .ok (.goto 4, 3) := by decide +kernel
theorem dX1_isBlank_28 : decode cX1_isBlank 28 = .ok (.iconst 0, 1) := by decide +kernel
theorem dX1_isBlank_29 : decode cX1_isBlank 29 = .ok (.ireturn, 1) := by decide +kernel
theorem dX1_isBegin_0 : decode cX1_isBegin 0 = .ok (.iload_n 0, 1) := by decide +kernel
theorem dX1_isBegin_1 : decode cX1_isBegin 1 = .ok (.bipush 58, 2) := by decide +kernel
theorem dX1_isBegin_3 : decode cX1_isBegin 3 = .ok (.if_icmp .eq 70, 3) := by decide +kernel
theorem dX1_isBegin_6 : decode cX1_isBegin 6 = .ok (.iload_n 0, 1) := by decide +kernel
theorem dX1_isBegin_7 : decode cX1_isBegin 7 = .ok (.bipush 95, 2) := by decide +kernel
theorem dX1_isBegin_9 : decode cX1_isBegin 9 = .ok (.if_icmp .eq 64, 3) := by decide +kernel
theorem dX1_isBegin_12 : decode cX1_isBegin 12 = .ok (.iload_n 0, 1) := by decide +kernel
theorem dX1_isBegin_13 : decode cX1_isBegin 13 = .ok (.bipush 65, 2) := by decide +kernel
theorem dX1_isBegin_15 : decode cX1_isBegin 15 = .ok (.bipush 90, 2) := by decide +kernel
theorem dX1_isBegin_17 : decode cX1_isBegin 17 = .ok (.invokestatic 74, 3) := by decide +kernel
theorem dX1_isBegin_20 : decode cX1_isBegin 20 = .ok (.ifCond .ne 53, 3) := by decide +kernel
theorem dX1_isBegin_23 : decode cX1_isBegin 23 = .ok (.iload_n 0, 1) := by decide +kernel
theorem dX1_isBegin_24 : decode cX1_isBegin 24 = .ok (.bipush 97, 2) := by decide +kernel
theorem dX1_isBegin_26 : decode cX1_isBegin 26 = .ok (.bipush 122, 2) := by decide +kernel
theorem dX1_isBegin_28 : decode cX1_isBegin 28 = .ok (.invokestatic 74, 3) := by decide +kernel
theorem dX1_isBegin_31 : decode cX1_isBegin 31 = .ok (.ifCond .ne 42, 3) := by decide +kernel
theorem dX1_isBegin_34 : decode cX1_isBegin 34 = .ok (.iload_n 0, 1) := by decide +kernel
theorem dX1_isBegin_35 : decode cX1_isBegin 35 = .ok (.sipush 192, 3) := by decide +kernel
theorem dX1_isBegin_38 : decode cX1_isBegin 38 = .ok (.sipush 214, 3) := by decide +kernel
theorem dX1_isBegin_41 : decode cX1_isBegin 41 = .ok (.invokestatic 74, 3) := by decide +kernel
theorem dX1_isBegin_44 : decode cX1_isBegin 44 = .ok (.ifCond .ne 29, 3) := by decide +kernel
theorem dX1_isBegin_47 : decode cX1_isBegin 47 = .ok (.iload_n 0, 1) := by decide +kernel
theorem dX1_isBegin_48 : decode cX1_isBegin 48 = .ok (.sipush 216, 3) := by decide +kernel
theorem dX1_isBegin_51 : decode cX1_isBegin 51 = .ok (.sipush 246, 3) := by decide +kernel
theorem dX1_isBegin_54 : decode cX1_isBegin 54 = .ok (.invokestatic 74, 3) := by decide +kernel
theorem dX1_isBegin_57 : decode cX1_isBegin 57 = .ok (.ifCond .ne 16, 3) := by decide +kernel
theorem dX1_isBegin_60 : decode cX1_isBegin 60 = .ok (.iload_n 0, 1) := by decide +kernel
theorem dX1_isBegin_61 : decode cX1_isBegin 61 = .ok (.sipush 248, 3) := by decide +kernel
theorem dX1_isBegin_64 : decode cX1_isBegin 64 = .ok (.sipush 767, 3) := by decide +kernel
theorem dX1_isBegin_67 : decode cX1_isBegin 67 = .ok (.invokestatic 74, 3) := by decide +kernel
theorem dX1_isBegin_70 : decode cX1_isBegin 70 = .ok (.ifCond .eq 7, 3) := by decide +kernel
theorem dX1_isBegin_73 : decode cX1_isBegin 73 = .ok (.iconst 1, 1) := by decide +kernel
theorem dX1_isBegin_74 : decode cX1_isBegin 74 = .ok (.goto 4, 3) := by decide +kernel
theorem dX1_isBegin_77 : decode cX1_isBegin 77 = .ok (.iconst 0, 1) := by decide +kernel
theorem dX1_isBegin_78 : decode cX1_isBegin 78 = .ok (.istore_n 1, 1) := by decide +kernel
theorem dX1_isBegin_79 : decode cX1_isBegin 79 = .ok (.iload_n 0, 1) := by decide +kernel
theorem dX1_isBegin_80 : decode cX1_isBegin 80 = .ok (.sipush 880, 3) := by decide +kernel
theorem dX1_isBegin_83 : decode cX1_isBegin 83 = .ok (.sipush 893, 3) := by decide +kernel
theorem dX1_isBegin_86 : decode cX1_isBegin 86 = .ok (.invokestatic 74, 3) := by decide +kernel
theorem dX1_isBegin_89 : decode cX1_isBegin 89 = .ok (.ifCond .ne 55, 3) := by decide +kernel
theorem dX1_isBegin_92 : decode cX1_isBegin 92 = .ok (.iload_n 0, 1) := by decide +kernel
theorem dX1_isBegin_93 : decode cX1_isBegin 93 = .ok (.sipush 895, 3) := by decide +kernel
theorem dX1_isBegin_96 : decode cX1_isBegin 96 = .ok (.sipush 8191, 3) := by decide +kernel
theorem dX1_isBegin_99 : decode cX1_isBegin 99 = .ok (.invokestatic 74, 3) := by decide +kernel
theorem dX1_isBegin_102 : decode cX1_isBegin 102 = .ok (.ifCond .ne 42, 3) := by decide +kernel
theorem dX1_isBegin_105 : decode cX1_isBegin 105 = .ok (.iload_n 0, 1) := by decide +kernel
theorem dX1_isBegin_106 : decode cX1_isBegin 106 = .ok (.sipush 8204, 3) := by decide +kernel
theorem dX1_isBegin_109 : decode cX1_isBegin 109 = .ok (.sipush 8205, 3) := by decide +kernel
theorem dX1_isBegin_112 : decode cX1_isBegin 112 = .ok (.invokestatic 74, 3) := by decide +kernel
theorem dX1_isBegin_115 : decode cX1_isBegin 115 = .ok (.ifCond .ne 29, 3) := by decide +kernel
theorem dX1_isBegin_118 : decode cX1_isBegin 118 = .ok (.iload_n 0, 1) := by decide +kernel
theorem dX1_isBegin_119 : decode cX1_isBegin 119 = .ok (.sipush 8304, 3) := by decide +kernel
theorem dX1_isBegin_122 : decode cX1_isBegin 122 = .ok (.sipush 8591, 3) := by decide +kernel
theorem dX1_isBegin_125 : decode cX1_isBegin 125 = .ok (.invokestatic 74, 3) := by decide +kernel
theorem dX1_isBegin_128 : decode cX1_isBegin 128 = .ok (.ifCond .ne 16, 3) := by decide +kernel
theorem dX1_isBegin_131 : decode cX1_isBegin 131 = .ok (.iload_n 0, 1) := by decide +kernel
theorem dX1_isBegin_132 : decode cX1_isBegin 132 = .ok (.sipush 11264, 3) := by decide +kernel
theorem dX1_isBegin_135 : decode cX1_isBegin 135 = .ok (.sipush 12271, 3) := by decide +kernel
theorem dX1_isBegin_138 : decode cX1_isBegin 138 = .ok (.invokestatic 74, 3) := by decide +kernel
theorem dX1_isBegin_141 : decode cX1_isBegin 141 = .ok (.ifCond .eq 7, 3) := by decide +kernel
theorem dX1_isBegin_144 : decode cX1_isBegin 144 = .ok (.iconst 1, 1) := by decide +kernel
theorem dX1_isBegin_145 : decode cX1_isBegin 145 = .ok (.goto 4, 3) := by decide +kernel
theorem dX1_isBegin_148 : decode cX1_isBegin 148 = .ok (.iconst 0, 1) := by decide +kernel
theorem dX1_isBegin_149 : decode cX1_isBegin 149 = .ok (.istore_n 2, 1) := by decide +kernel
theorem dX1_isBegin_150 : decode cX1_isBegin 150 = .ok (.iload_n 1, 1) := by decide +kernel
theorem dX1_isBegin_151 : decode cX1_isBegin 151 = .ok (.ifCond .ne 52, 3) := by decide +kernel
theorem dX1_isBegin_154 : decode cX1_isBegin 154 = .ok (.iload_n 2, 1) := by decide +kernel
theorem dX1_isBegin_155 : decode cX1_isBegin 155 = .ok (.ifCond .ne 48, 3) := by decide +kernel
theorem dX1_isBegin_158 : decode cX1_isBegin 158 = .ok (.iload_n 0, 1) := by decide +kernel
theorem dX1_isBegin_159 : decode cX1_isBegin 159 = .ok (.sipush 12289, 3) := by decide +kernel
theorem dX1_isBegin_162 : decode cX1_isBegin 162 = .ok (.ldc 78, 2) := by decide +kernel
theorem dX1_isBegin_164 : decode cX1_isBegin 164 = .ok (.invokestatic 74, 3) := by decide +kernel
theorem dX1_isBegin_167 : decode cX1_isBegin 167 = .ok (.ifCond .ne 36, 3) := by decide +kernel
theorem dX1_isBegin_170 : decode cX1_isBegin 170 = .ok (.iload_n 0, 1) := by decide +kernel
theorem dX1_isBegin_171 : decode cX1_isBegin 171 = .ok (.ldc 79, 2) := by decide +kernel
theorem dX1_isBegin_173 : decode cX1_isBegin 173 = .ok (.ldc 80, 2) := by decide +kernel
theorem dX1_isBegin_175 : decode cX1_isBegin 175 = .ok (.invokestatic 74, 3) := by decide +kernel
theorem dX1_isBegin_178 : decode cX1_isBegin 178 = .ok (.ifCond .ne 25, 3) := by decide +kernel
theorem dX1_isBegin_181 : decode cX1_isBegin 181 = .ok (.iload_n 0, 1) := by decide +kernel
theorem dX1_isBegin_182 : decode cX1_isBegin 182 = .ok (.ldc 81, 2) := by decide +kernel
theorem dX1_isBegin_184 : decode cX1_isBegin 184 = .ok (.ldc 82, 2) := by decide +kernel
theorem dX1_isBegin_186 : decode cX1_isBegin 186 = .ok (.invokestatic 74, 3) := by decide +kernel
theorem dX1_isBegin_189 : decode cX1_isBegin 189 = .ok (.ifCond .ne 14, 3) := by decide +kernel
theorem dX1_isBegin_192 : decode cX1_isBegin 192 = .ok (.iload_n 0, 1) := by decide +kernel
theorem dX1_isBegin_193 : decode cX1_isBegin 193 = .ok (.ldc 49, 2) := by decide +kernel
theorem dX1_isBegin_195 : decode cX1_isBegin 195 = .ok (.ldc 83, 2) := by decide +kernel
theorem dX1_isBegin_197 : decode cX1_isBegin 197 = .ok (.invokestatic 74, 3) := by decide +kernel
theorem dX1_isBegin_200 : decode cX1_isBegin 200 = .ok (.ifCond .eq 7, 3) := by decide +kernel
theorem dX1_isBegin_203 : decode cX1_isBegin 203 = .ok (.iconst 1, 1) := by decide +kernel
theorem dX1_isBegin_204 : decode cX1_isBegin 204 = .ok (.goto 4, 3) := by decide +kernel
theorem dX1_isBegin_207 : decode cX1_isBegin 207 = .ok (.iconst 0, 1) := by decide +kernel
theorem dX1_isBegin_208 : decode cX1_isBegin 208 = .ok (.ireturn, 1) := by decide +kernel
theorem dX1_isPart_0 : decode cX1_isPart 0 = .ok (.iload_n 0, 1) := by decide +kernel
theorem dX1_isPart_1 : decode cX1_isPart 1 = .ok (.invokestatic 84, 3) := by decide +kernel
theorem dX1_isPart_4 : decode cX1_isPart 4 = .ok (.ifCond .ne 59, 3) := by decide +kernel
theorem dX1_isPart_7 : decode cX1_isPart 7 = .ok (.iload_n 0, 1) := by decide +kernel
theorem dX1_isPart_8 : decode cX1_isPart 8 = .ok (.bipush 45, 2) := by decide +kernel
theorem dX1_isPart_10 : decode cX1_isPart 10 = .ok (.if_icmp .eq 53, 3) := by decide +kernel
theorem dX1_isPart_13 : decode cX1_isPart 13 = .ok (.iload_n 0, 1) := by decide +kernel
theorem dX1_isPart_14 : decode cX1_isPart 14 = .ok (.bipush 46, 2) := by decide +kernel
theorem dX1_isPart_16 : decode cX1_isPart 16 = .ok (.if_icmp .eq 47, 3) := by decide +kernel
theorem dX1_isPart_19 : decode cX1_isPart 19 = .ok (.iload_n 0, 1) := by decide +kernel
theorem dX1_isPart_20 : decode cX1_isPart 20 = .ok (.bipush 48, 2) := by decide +kernel
theorem dX1_isPart_22 : decode cX1_isPart 22 = .ok (.bipush 57, 2) := by decide +kernel
theorem dX1_isPart_24 : decode cX1_isPart 24 = .ok (.invokestatic 74, 3) := by decide +kernel
theorem dX1_isPart_27 : decode cX1_isPart 27 = .ok (.ifCond .ne 36, 3) := by decide +kernel
theorem dX1_isPart_30 : decode cX1_isPart 30 = .ok (.iload_n 0, 1) := by decide +kernel
theorem dX1_isPart_31 : decode cX1_isPart 31 = .ok (.sipush 183, 3) := by decide +kernel
theorem dX1_isPart_34 : decode cX1_isPart 34 = .ok (.if_icmp .eq 29, 3) := by decide +kernel
theorem dX1_isPart_37 : decode cX1_isPart 37 = .ok (.iload_n 0, 1) := by decide +kernel
theorem dX1_isPart_38 : decode cX1_isPart 38 = .ok (.sipush 768, 3) := by decide +kernel
theorem dX1_isPart_41 : decode cX1_isPart 41 = .ok (.sipush 879, 3) := by decide +kernel
theorem dX1_isPart_44 : decode cX1_isPart 44 = .ok (.invokestatic 74, 3) := by decide +kernel
theorem dX1_isPart_47 : decode cX1_isPart 47 = .ok (.ifCond .ne 16, 3) := by decide +kernel
theorem dX1_isPart_50 : decode cX1_isPart 50 = .ok (.iload_n 0, 1) := by decide +kernel
theorem dX1_isPart_51 : decode cX1_isPart 51 = .ok (.sipush 8255, 3) := by decide +kernel
theorem dX1_isPart_54 : decode cX1_isPart 54 = .ok (.sipush 8256, 3) := by decide +kernel
theorem dX1_isPart_57 : decode cX1_isPart 57 = .ok (.invokestatic 74, 3) := by decide +kernel
theorem dX1_isPart_60 : decode cX1_isPart 60 = .ok (.ifCond .eq 7, 3) := by decide +kernel
theorem dX1_isPart_63 : decode cX1_isPart 63 = .ok (.iconst 1, 1) := by decide +kernel
theorem dX1_isPart_64 : decode cX1_isPart 64 = .ok (.goto 4, 3) := by decide +kernel
theorem dX1_isPart_67 : decode cX1_isPart 67 = .ok (.iconst 0, 1) := by decide +kernel
theorem dX1_isPart_68 : decode cX1_isPart 68 = .ok (.ireturn, 1) := by decide +kernel
theorem dX1_kind_0 : decode cX1_kind 0 = .ok (.iload_n 1, 1) := by decide +kernel
theorem dX1_kind_1 : decode cX1_kind 1 = .ok (.invokestatic 64, 3) := by decide +kernel
theorem dX1_kind_4 : decode cX1_kind 4 = .ok (.ifCond .eq 7, 3) := by decide +kernel
theorem dX1_kind_7 : decode cX1_kind 7 = .ok (.iconst 1, 1) := by decide +kernel
theorem dX1_kind_8 : decode cX1_kind 8 = .ok (.goto 4, 3) := by decide +kernel
theorem dX1_kind_11 : decode cX1_kind 11 = .ok (.iconst 0, 1) := by decide +kernel
theorem dX1_kind_12 : decode cX1_kind 12 = .ok (.istore_n 2, 1) := by decide +kernel
theorem dX1_kind_13 : decode cX1_kind 13 = .ok (.iload_n 1, 1) := by decide +kernel
theorem dX1_kind_14 : decode cX1_kind 14 = .ok (.invokestatic 87, 3) := by decide +kernel
theorem dX1_kind_17 : decode cX1_kind 17 = .ok (.ifCond .eq 9, 3) := by decide +kernel
theorem dX1_kind_20 : decode cX1_kind 20 = .ok (.iload_n 2, 1) := by decide +kernel
theorem dX1_kind_21 : decode cX1_kind 21 = .ok (.iconst 2, 1) := by decide +kernel
theorem dX1_kind_22 : decode cX1_kind 22 = .ok (.iadd, 1) := by decide +kernel
theorem dX1_kind_23 : decode cX1_kind 23 = .ok (.goto 4, 3) := by decide +kernel
theorem dX1_kind_26 : decode cX1_kind 26 = .ok (.iload_n 2, 1) := by decide +kernel
theorem dX1_kind_27 : decode cX1_kind 27 = .ok (.istore_n 2, 1) := by decide +kernel
theorem dX1_kind_28 : decode cX1_kind 28 = .ok (.iload_n 1, 1) := by decide +kernel
theorem dX1_kind_29 : decode cX1_kind 29 = .ok (.invokestatic 84, 3) := by decide +kernel
theorem dX1_kind_32 : decode cX1_kind 32 = .ok (.ifCond .eq 9, 3) := by decide +kernel
theorem dX1_kind_35 : decode cX1_kind 35 = .ok (.iload_n 2, 1) := by decide +kernel
theorem dX1_kind_36 : decode cX1_kind 36 = .ok (.iconst 4, 1) := by decide +kernel
theorem dX1_kind_37 : decode cX1_kind 37 = .ok (.iadd, 1) := by decide +kernel
theorem dX1_kind_38 : decode cX1_kind 38 = .ok (.goto 4, 3) := by decide +kernel
theorem dX1_kind_41 : decode cX1_kind 41 = .ok (.iload_n 2, 1) := by decide +kernel
theorem dX1_kind_42 : decode cX1_kind 42 = .ok (.istore_n 2, 1) := by decide +kernel
theorem dX1_kind_43 : decode cX1_kind 43 = .ok (.iload_n 1, 1) := by decide +kernel
theorem dX1_kind_44 : decode cX1_kind 44 = .ok (.invokestatic 90, 3) := by decide +kernel
theorem dX1_kind_47 : decode cX1_kind 47 = .ok (.ifCond .eq 10, 3) := by decide +kernel
theorem dX1_kind_50 : decode cX1_kind 50 = .ok (.iload_n 2, 1) := by decide +kernel
theorem dX1_kind_51 : decode cX1_kind 51 = .ok (.bipush 8, 2) := by decide +kernel
theorem dX1_kind_53 : decode cX1_kind 53 = .ok (.iadd, 1) := by decide +kernel
theorem dX1_kind_54 : decode cX1_kind 54 = .ok (.goto 4, 3) := by decide +kernel
theorem dX1_kind_57 : decode cX1_kind 57 = .ok (.iload_n 2, 1) := by decide +kernel
theorem dX1_kind_58 : decode cX1_kind 58 = .ok (.ireturn, 1) := by decide +kernel
theorem dX1_placeOf_0 : decode cX1_placeOf 0 = .ok (.aload_n 0, 1) := by decide +kernel
theorem dX1_placeOf_1 : decode cX1_placeOf 1 = .ok (.iload_n 1, 1) := by decide +kernel
theorem dX1_placeOf_2 : decode cX1_placeOf 2 = .ok (.invokevirtual 71, 3) := by decide +kernel
theorem dX1_placeOf_5 : decode cX1_placeOf 5 = .ok (.ifCond .eq 8, 3) := by decide +kernel
theorem dX1_placeOf_8 : decode cX1_placeOf 8 = .ok (.aload_n 0, 1) := by decide +kernel
theorem dX1_placeOf_9 : decode cX1_placeOf 9 = .ok (.getfield 50, 3) := by decide +kernel
theorem dX1_placeOf_12 : decode cX1_placeOf 12 = .ok (.ireturn, 1) := by decide +kernel
theorem dX1_placeOf_13 : decode cX1_placeOf 13 = .ok (.aload_n 0, 1) := by decide +kernel
theorem dX1_placeOf_14 : decode cX1_placeOf 14 = .ok (.getfield 60, 3) := by decide +kernel
theorem dX1_placeOf_17 : decode cX1_placeOf 17 = .ok (.ifCond .eq 36, 3) := by decide +kernel
theorem dX1_placeOf_20 : decode cX1_placeOf 20 = .ok (.iload_n 1, 1) := by decide +kernel
theorem dX1_placeOf_21 : decode cX1_placeOf 21 = .ok (.ifCond .eq 13, 3) := by decide +kernel
theorem dX1_placeOf_24 : decode cX1_placeOf 24 = .ok (.aload_n 0, 1) := by decide +kernel
theorem dX1_placeOf_25 : decode cX1_placeOf 25 = .ok (.iload_n 1, 1) := by decide +kernel
theorem dX1_placeOf_26 : decode cX1_placeOf 26 = .ok (.iconst 1, 1) := by decide +kernel
theorem dX1_placeOf_27 : decode cX1_placeOf 27 = .ok (.isub, 1) := by decide +kernel
theorem dX1_placeOf_28 : decode cX1_placeOf 28 = .ok (.invokevirtual 71, 3) := by decide +kernel
theorem dX1_placeOf_31 : decode cX1_placeOf 31 = .ok (.ifCond .eq 22, 3) := by decide +kernel
theorem dX1_placeOf_34 : decode cX1_placeOf 34 = .ok (.iload_n 1, 1) := by decide +kernel
theorem dX1_placeOf_35 : decode cX1_placeOf 35 = .ok (.ifCond .lt 18, 3) := by decide +kernel
theorem dX1_placeOf_38 : decode cX1_placeOf 38 = .ok (.aload_n 0, 1) := by decide +kernel
theorem dX1_placeOf_39 : decode cX1_placeOf 39 = .ok (.iload_n 1, 1) := by decide +kernel
theorem dX1_placeOf_40 : decode cX1_placeOf 40 = .ok (.invokevirtual 71, 3) := by decide +kernel
theorem dX1_placeOf_43 : decode cX1_placeOf 43 = .ok (.ifCond .ne 10, 3) := by decide +kernel
theorem dX1_placeOf_46 : decode cX1_placeOf 46 = .ok (.aload_n 0, 1) := by decide +kernel
theorem dX1_placeOf_47 : decode cX1_placeOf 47 = .ok (.getfield 44, 3) := by decide +kernel
theorem dX1_placeOf_50 : decode cX1_placeOf 50 = .ok (.goto 4, 3) := by decide +kernel
theorem dX1_placeOf_53 : decode cX1_placeOf 53 = .ok (.iconst (-1), 1) := by decide +kernel
theorem dX1_placeOf_54 : decode cX1_placeOf 54 = .ok (.ireturn, 1) := by decide +kernel
theorem dX1_run_0 : decode cX1_run 0 = .ok (.iload_n 1, 1) := by decide +kernel
theorem dX1_run_1 : decode cX1_run 1 = .ok (.ifCond .lt 16, 3) := by decide +kernel
theorem dX1_run_4 : decode cX1_run 4 = .ok (.iload_n 1, 1) := by decide +kernel
theorem dX1_run_5 : decode cX1_run 5 = .ok (.iconst 2, 1) := by decide +kernel
theorem dX1_run_6 : decode cX1_run 6 = .ok (.if_icmp .gt 11, 3) := by decide +kernel
theorem dX1_run_9 : decode cX1_run 9 = .ok (.aload_n 0, 1) := by decide +kernel
theorem dX1_run_10 : decode cX1_run 10 = .ok (.iload_n 2, 1) := by decide +kernel
theorem dX1_run_11 : decode cX1_run 11 = .ok (.invokevirtual 71, 3) := by decide +kernel
theorem dX1_run_14 : decode cX1_run 14 = .ok (.ifCond .ne 5, 3) := by decide +kernel
theorem dX1_run_17 : decode cX1_run 17 = .ok (.iconst 0, 1) := by decide +kernel
theorem dX1_run_18 : decode cX1_run 18 = .ok (.ireturn, 1) := by decide +kernel
theorem dX1_run_19 : decode cX1_run 19 = .ok (.iconst 0, 1) := by decide +kernel
theorem dX1_run_20 : decode cX1_run 20 = .ok (.istore_n 3, 1) := by decide +kernel
theorem dX1_run_21 : decode cX1_run 21 = .ok (.iconst 1, 1) := by decide +kernel
theorem dX1_run_22 : decode cX1_run 22 = .ok (.istore 4, 2) := by decide +kernel
theorem dX1_run_24 : decode cX1_run 24 = .ok (.iload 4, 2) := by decide +kernel
theorem dX1_run_26 : decode cX1_run 26 = .ok (.ifCond .eq 90, 3) := by decide +kernel
theorem dX1_run_29 : decode cX1_run 29 = .ok (.iload_n 1, 1) := by decide +kernel
theorem dX1_run_30 : decode cX1_run 30 = .ok (.ifCond .ne 27, 3) := by decide +kernel
theorem dX1_run_33 : decode cX1_run 33 = .ok (.iload_n 3, 1) := by decide +kernel
theorem dX1_run_34 : decode cX1_run 34 = .ok (.ifCond .ne 13, 3) := by decide +kernel
theorem dX1_run_37 : decode cX1_run 37 = .ok (.aload_n 0, 1) := by decide +kernel
theorem dX1_run_38 : decode cX1_run 38 = .ok (.getfield 57, 3) := by decide +kernel
theorem dX1_run_41 : decode cX1_run 41 = .ok (.invokestatic 84, 3) := by decide +kernel
theorem dX1_run_44 : decode cX1_run 44 = .ok (.goto 35, 3) := by decide +kernel
theorem dX1_run_47 : decode cX1_run 47 = .ok (.aload_n 0, 1) := by decide +kernel
theorem dX1_run_48 : decode cX1_run 48 = .ok (.getfield 57, 3) := by decide +kernel
theorem dX1_run_51 : decode cX1_run 51 = .ok (.invokestatic 90, 3) := by decide +kernel
theorem dX1_run_54 : decode cX1_run 54 = .ok (.goto 25, 3) := by decide +kernel
theorem dX1_run_57 : decode cX1_run 57 = .ok (.iload_n 1, 1) := by decide +kernel
theorem dX1_run_58 : decode cX1_run 58 = .ok (.iconst 1, 1) := by decide +kernel
theorem dX1_run_59 : decode cX1_run 59 = .ok (.if_icmp .ne 13, 3) := by decide +kernel
theorem dX1_run_62 : decode cX1_run 62 = .ok (.aload_n 0, 1) := by decide +kernel
theorem dX1_run_63 : decode cX1_run 63 = .ok (.getfield 57, 3) := by decide +kernel
theorem dX1_run_66 : decode cX1_run 66 = .ok (.invokestatic 90, 3) := by decide +kernel
theorem dX1_run_69 : decode cX1_run 69 = .ok (.goto 10, 3) := by decide +kernel
theorem dX1_run_72 : decode cX1_run 72 = .ok (.aload_n 0, 1) := by decide +kernel
theorem dX1_run_73 : decode cX1_run 73 = .ok (.getfield 57, 3) := by decide +kernel
theorem dX1_run_76 : decode cX1_run 76 = .ok (.invokestatic 87, 3) := by decide +kernel
theorem dX1_run_79 : decode cX1_run 79 = .ok (.istore 5, 2) := by decide +kernel
theorem dX1_run_81 : decode cX1_run 81 = .ok (.iload 5, 2) := by decide +kernel
theorem dX1_run_83 : decode cX1_run 83 = .ok (.ifCond .eq 9, 3) := by decide +kernel
theorem dX1_run_86 : decode cX1_run 86 = .ok (.iload_n 3, 1) := by decide +kernel
theorem dX1_run_87 : decode cX1_run 87 = .ok (.iconst 1, 1) := by decide +kernel
theorem dX1_run_88 : decode cX1_run 88 = .ok (.iadd, 1) := by decide +kernel
theorem dX1_run_89 : decode cX1_run 89 = .ok (.goto 4, 3) := by decide +kernel
theorem dX1_run_92 : decode cX1_run 92 = .ok (.iload_n 3, 1) := by decide +kernel
theorem dX1_run_93 : decode cX1_run 93 = .ok (.istore_n 3, 1) := by decide +kernel
theorem dX1_run_94 : decode cX1_run 94 = .ok (.iload 5, 2) := by decide +kernel
theorem dX1_run_96 : decode cX1_run 96 = .ok (.ifCond .eq 14, 3) := by decide +kernel
theorem dX1_run_99 : decode cX1_run 99 = .ok (.aload_n 0, 1) := by decide +kernel
theorem dX1_run_100 : decode cX1_run 100 = .ok (.invokevirtual 67, 3) := by decide +kernel
theorem dX1_run_103 : decode cX1_run 103 = .ok (.ifCond .eq 7, 3) := by decide +kernel
theorem dX1_run_106 : decode cX1_run 106 = .ok (.iconst 1, 1) := by decide +kernel
theorem dX1_run_107 : decode cX1_run 107 = .ok (.goto 4, 3) := by decide +kernel
theorem dX1_run_110 : decode cX1_run 110 = .ok (.iconst 0, 1) := by decide +kernel
theorem dX1_run_111 : decode cX1_run 111 = .ok (.istore 4, 2) := by decide +kernel
theorem dX1_run_113 : decode cX1_run 113 = .ok (.goto (-89), 3) := by decide +kernel
theorem dX1_run_116 : decode cX1_run 116 = .ok (.iload_n 3, 1) := by decide +kernel
theorem dX1_run_117 : decode cX1_run 117 = .ok (.ireturn, 1) := by decide +kernel
theorem dX1_compare_0 : decode cX1_compare 0 = .ok (.aload_n 0, 1) := by decide +kernel
theorem dX1_compare_1 : decode cX1_compare 1 = .ok (.getfield 60, 3) := by decide +kernel
theorem dX1_compare_4 : decode cX1_compare 4 = .ok (.ifCond .eq 15, 3) := by decide +kernel
theorem dX1_compare_7 : decode cX1_compare 7 = .ok (.iload_n 3, 1) := by decide +kernel
theorem dX1_compare_8 : decode cX1_compare 8 = .ok (.ifCond .lt 11, 3) := by decide +kernel
theorem dX1_compare_11 : decode cX1_compare 11 = .ok (.iload_n 1, 1) := by decide +kernel
theorem dX1_compare_12 : decode cX1_compare 12 = .ok (.ifCond .lt 7, 3) := by decide +kernel
theorem dX1_compare_15 : decode cX1_compare 15 = .ok (.iload_n 2, 1) := by decide +kernel
theorem dX1_compare_16 : decode cX1_compare 16 = .ok (.ifCond .ge 6, 3) := by decide +kernel
theorem dX1_compare_19 : decode cX1_compare 19 = .ok (.bipush (-2), 2) := by decide +kernel
theorem dX1_compare_21 : decode cX1_compare 21 = .ok (.ireturn, 1) := by decide +kernel
theorem dX1_compare_22 : decode cX1_compare 22 = .ok (.iconst 0, 1) := by decide +kernel
theorem dX1_compare_23 : decode cX1_compare 23 = .ok (.istore 4, 2) := by decide +kernel
theorem dX1_compare_25 : decode cX1_compare 25 = .ok (.aload_n 0, 1) := by decide +kernel
theorem dX1_compare_26 : decode cX1_compare 26 = .ok (.iconst 0, 1) := by decide +kernel
theorem dX1_compare_27 : decode cX1_compare 27 = .ok (.putfield 41, 3) := by decide +kernel
theorem dX1_compare_30 : decode cX1_compare 30 = .ok (.aload_n 0, 1) := by decide +kernel
theorem dX1_compare_31 : decode cX1_compare 31 = .ok (.invokevirtual 67, 3) := by decide +kernel
theorem dX1_compare_34 : decode cX1_compare 34 = .ok (.ifCond .eq 9, 3) := by decide +kernel
theorem dX1_compare_37 : decode cX1_compare 37 = .ok (.iinc 4 1, 3) := by decide +kernel
theorem dX1_compare_40 : decode cX1_compare 40 = .ok (.goto (-10), 3) := by decide +kernel
theorem dX1_compare_43 : decode cX1_compare 43 = .ok (.iload_n 3, 1) := by decide +kernel
theorem dX1_compare_44 : decode cX1_compare 44 = .ok (.iload 4, 2) := by decide +kernel
theorem dX1_compare_46 : decode cX1_compare 46 = .ok (.iload_n 1, 1) := by decide +kernel
theorem dX1_compare_47 : decode cX1_compare 47 = .ok (.isub, 1) := by decide +kernel
theorem dX1_compare_48 : decode cX1_compare 48 = .ok (.if_icmp .gt 11, 3) := by decide +kernel
theorem dX1_compare_51 : decode cX1_compare 51 = .ok (.iload_n 3, 1) := by decide +kernel
theorem dX1_compare_52 : decode cX1_compare 52 = .ok (.iload 4, 2) := by decide +kernel
theorem dX1_compare_54 : decode cX1_compare 54 = .ok (.iload_n 2, 1) := by decide +kernel
theorem dX1_compare_55 : decode cX1_compare 55 = .ok (.isub, 1) := by decide +kernel
theorem dX1_compare_56 : decode cX1_compare 56 = .ok (.if_icmp .le 6, 3) := by decide +kernel
theorem dX1_compare_59 : decode cX1_compare 59 = .ok (.bipush (-2), 2) := by decide +kernel
theorem dX1_compare_61 : decode cX1_compare 61 = .ok (.ireturn, 1) := by decide +kernel
theorem dX1_compare_62 : decode cX1_compare 62 = .ok (.iconst 0, 1) := by decide +kernel
theorem dX1_compare_63 : decode cX1_compare 63 = .ok (.istore 5, 2) := by decide +kernel
theorem dX1_compare_65 : decode cX1_compare 65 = .ok (.iload 5, 2) := by decide +kernel
theorem dX1_compare_67 : decode cX1_compare 67 = .ok (.iload_n 3, 1) := by decide +kernel
theorem dX1_compare_68 : decode cX1_compare 68 = .ok (.if_icmp .ge 57, 3) := by decide +kernel
theorem dX1_compare_71 : decode cX1_compare 71 = .ok (.aload_n 0, 1) := by decide +kernel
theorem dX1_compare_72 : decode cX1_compare 72 = .ok (.iload_n 1, 1) := by decide +kernel
theorem dX1_compare_73 : decode cX1_compare 73 = .ok (.iload 5, 2) := by decide +kernel
theorem dX1_compare_75 : decode cX1_compare 75 = .ok (.iadd, 1) := by decide +kernel
theorem dX1_compare_76 : decode cX1_compare 76 = .ok (.invokevirtual 71, 3) := by decide +kernel
theorem dX1_compare_79 : decode cX1_compare 79 = .ok (.pop, 1) := by decide +kernel
theorem dX1_compare_80 : decode cX1_compare 80 = .ok (.aload_n 0, 1) := by decide +kernel
theorem dX1_compare_81 : decode cX1_compare 81 = .ok (.getfield 57, 3) := by decide +kernel
theorem dX1_compare_84 : decode cX1_compare 84 = .ok (.istore 6, 2) := by decide +kernel
theorem dX1_compare_86 : decode cX1_compare 86 = .ok (.aload_n 0, 1) := by decide +kernel
theorem dX1_compare_87 : decode cX1_compare 87 = .ok (.iload_n 2, 1) := by decide +kernel
theorem dX1_compare_88 : decode cX1_compare 88 = .ok (.iload 5, 2) := by decide +kernel
theorem dX1_compare_90 : decode cX1_compare 90 = .ok (.iadd, 1) := by decide +kernel
theorem dX1_compare_91 : decode cX1_compare 91 = .ok (.invokevirtual 71, 3) := by decide +kernel
theorem dX1_compare_94 : decode cX1_compare 94 = .ok (.pop, 1) := by decide +kernel
theorem dX1_compare_95 : decode cX1_compare 95 = .ok (.iload 6, 2) := by decide +kernel
theorem dX1_compare_97 : decode cX1_compare 97 = .ok (.aload_n 0, 1) := by decide +kernel
theorem dX1_compare_98 : decode cX1_compare 98 = .ok (.getfield 57, 3) := by decide +kernel
theorem dX1_compare_101 : decode cX1_compare 101 = .ok (.if_icmp .eq 18, 3) := by decide +kernel
theorem dX1_compare_104 : decode cX1_compare 104 = .ok (.iload 6, 2) := by decide +kernel
theorem dX1_compare_106 : decode cX1_compare 106 = .ok (.aload_n 0, 1) := by decide +kernel
theorem dX1_compare_107 : decode cX1_compare 107 = .ok (.getfield 57, 3) := by decide +kernel
theorem dX1_compare_110 : decode cX1_compare 110 = .ok (.if_icmp .ge 7, 3) := by decide +kernel
theorem dX1_compare_113 : decode cX1_compare 113 = .ok (.iconst (-1), 1) := by decide +kernel
theorem dX1_compare_114 : decode cX1_compare 114 = .ok (.goto 4, 3) := by decide +kernel
theorem dX1_compare_117 : decode cX1_compare 117 = .ok (.iconst 1, 1) := by decide +kernel
theorem dX1_compare_118 : decode cX1_compare 118 = .ok (.ireturn, 1) := by decide +kernel
theorem dX1_compare_119 : decode cX1_compare 119 = .ok (.iinc 5 1, 3) := by decide +kernel
theorem dX1_compare_122 : decode cX1_compare 122 = .ok (.goto (-57), 3) := by decide +kernel
theorem dX1_compare_125 : decode cX1_compare 125 = .ok (.iconst 0, 1) := by decide +kernel
theorem dX1_compare_126 : decode cX1_compare 126 = .ok (.ireturn, 1) := by decide +kernel
theorem dX1_bytes_0 : decode cX1_bytes 0 = .ok (.iload_n 1, 1) := by decide +kernel
theorem dX1_bytes_1 : decode cX1_bytes 1 = .ok (.invokestatic 33, 3) := by decide +kernel
theorem dX1_bytes_4 : decode cX1_bytes 4 = .ok (.ifCond .ne 5, 3) := by decide +kernel
theorem dX1_bytes_7 : decode cX1_bytes 7 = .ok (.lconst 0, 1) := by decide +kernel
theorem dX1_bytes_8 : decode cX1_bytes 8 = .ok (.lreturn, 1) := by decide +kernel
theorem dX1_bytes_9 : decode cX1_bytes 9 = .ok (.iload_n 1, 1) := by decide +kernel
theorem dX1_bytes_10 : decode cX1_bytes 10 = .ok (.invokestatic 29, 3) := by decide +kernel
theorem dX1_bytes_13 : decode cX1_bytes 13 = .ok (.i2l, 1) := by decide +kernel
theorem dX1_bytes_14 : decode cX1_bytes 14 = .ok (.lstore_n 2, 1) := by decide +kernel
theorem dX1_bytes_15 : decode cX1_bytes 15 = .ok (.iconst 0, 1) := by decide +kernel
theorem dX1_bytes_16 : decode cX1_bytes 16 = .ok (.istore 4, 2) := by decide +kernel
theorem dX1_bytes_18 : decode cX1_bytes 18 = .ok (.iload 4, 2) := by decide +kernel
theorem dX1_bytes_20 : decode cX1_bytes 20 = .ok (.bipush 7, 2) := by decide +kernel
theorem dX1_bytes_22 : decode cX1_bytes 22 = .ok (.if_icmp .ge 36, 3) := by decide +kernel
theorem dX1_bytes_25 : decode cX1_bytes 25 = .ok (.lload_n 2, 1) := by decide +kernel
theorem dX1_bytes_26 : decode cX1_bytes 26 = .ok (.ldc2_w 93, 3) := by decide +kernel
theorem dX1_bytes_29 : decode cX1_bytes 29 = .ok (.lmul, 1) := by decide +kernel
theorem dX1_bytes_30 : decode cX1_bytes 30 = .ok (.iload 4, 2) := by decide +kernel
theorem dX1_bytes_32 : decode cX1_bytes 32 = .ok (.iload_n 1, 1) := by decide +kernel
theorem dX1_bytes_33 : decode cX1_bytes 33 = .ok (.invokestatic 29, 3) := by decide +kernel
theorem dX1_bytes_36 : decode cX1_bytes 36 = .ok (.if_icmp .ge 12, 3) := by decide +kernel
theorem dX1_bytes_39 : decode cX1_bytes 39 = .ok (.iload_n 1, 1) := by decide +kernel
theorem dX1_bytes_40 : decode cX1_bytes 40 = .ok (.iload 4, 2) := by decide +kernel
theorem dX1_bytes_42 : decode cX1_bytes 42 = .ok (.invokestatic 37, 3) := by decide +kernel
theorem dX1_bytes_45 : decode cX1_bytes 45 = .ok (.goto 4, 3) := by decide +kernel
theorem dX1_bytes_48 : decode cX1_bytes 48 = .ok (.iconst 0, 1) := by decide +kernel
theorem dX1_bytes_49 : decode cX1_bytes 49 = .ok (.i2l, 1) := by decide +kernel
theorem dX1_bytes_50 : decode cX1_bytes 50 = .ok (.ladd, 1) := by decide +kernel
theorem dX1_bytes_51 : decode cX1_bytes 51 = .ok (.lstore_n 2, 1) := by decide +kernel
theorem dX1_bytes_52 : decode cX1_bytes 52 = .ok (.iinc 4 1, 3) := by decide +kernel
theorem dX1_bytes_55 : decode cX1_bytes 55 = .ok (.goto (-37), 3) := by decide +kernel
theorem dX1_bytes_58 : decode cX1_bytes 58 = .ok (.lload_n 2, 1) := by decide +kernel
theorem dX1_bytes_59 : decode cX1_bytes 59 = .ok (.lreturn, 1) := by decide +kernel
end
section
set_option maxRecDepth 20000 in
theorem gL_law_X1_placeOf : GoodIn lw_tbl (wsV RL 42 RX1 yX1_placeOf wsX1_placeOf) := goodIn_sub (by decide +kernel) (by decide +kernel)
set_option maxRecDepth 20000 in
theorem gL_law_X1_kind : GoodIn lw_tbl (wsV RL 46 RX1 yX1_kind wsX1_kind) := goodIn_sub (by decide +kernel) (by decide +kernel)
set_option maxRecDepth 20000 in
theorem gL_law_X1_run : GoodIn lw_tbl (wsV RL 51 RX1 yX1_run wsX1_run) := goodIn_sub (by decide +kernel) (by decide +kernel)
set_option maxRecDepth 20000 in
theorem gL_law_X1_compare : GoodIn lw_tbl (wsV RL 56 RX1 yX1_compare wsX1_compare) := goodIn_sub (by decide +kernel) (by decide +kernel)
set_option maxRecDepth 20000 in
theorem gL_law_X1_bytes : GoodIn lw_tbl (wsV RL 61 RX1 yX1_bytes wsX1_bytes) := goodIn_sub (by decide +kernel) (by decide +kernel)
end
section
/-! The reference: its cells, and the functions that its methods compute. -/
def updN (f : Nat → Nat) (i b : Nat) : Nat → Nat := fun j => if j = i then b else f j
theorem upd_nI (f : Nat → Nat) (i b : Nat) : upd (fun j => nI (f j)) i (nI b) = fun j => nI (updN f i b j) := by
  funext j
  by_cases h : j = i
  · rw [h, pk_us, updN, if_pos rfl]
  · rw [pk_un h, updN, if_neg h]
abbrev MS : Type := (Nat → Nat) × Nat × (Nat → Nat) × Nat × Bool × Int32 × Nat × Int32 × Int32
def mw (g0 g1 g2 : Nat) (cA : ClassId) (u : MS) : va_W := [(g0, .inr (1, [.ref g1, .int (nI u.2.1), .ref g2, .int (nI u.2.2.2.1), .int (bI u.2.2.2.2.1), .int u.2.2.2.2.2.1, .int (nI u.2.2.2.2.2.2.1), .int u.2.2.2.2.2.2.2.1, .int u.2.2.2.2.2.2.2.2])), (g1, .inl (cA, 1000, .inl (fun j => nI (u.1 j)))), (g2, .inl (cA, 1000, .inl (fun j => nI (u.2.2.1 j))))]
def mpre (dC : Nat → ClassId) (dI : Nat → Nat → Nat) (g0 g1 g2 : Nat) (cA : ClassId) (u : MS) (U : State) : Prop :=
  va_P (dC, dI) vwCl (mw g0 g1 g2 cA u) U.heap ∧ va_K (dC, dI) vwCl [(cA, .int)] U
theorem mpre_blind {dC : Nat → ClassId} {dI : Nat → Nat → Nat} {g0 g1 g2 : Nat} {cA : ClassId} {u : MS} {av : List Value} : FrameBlind (va_Pc av (fun U => mpre dC dI g0 g1 g2 cA u U)) :=
  fun a U g mk q => ⟨q.1, q.2.1, va_K.moved (u := U) (U := U.calling g mk a) (Vm.Alike.refl U.vm) q.2.2⟩
theorem mpre_of {dC : Nat → ClassId} {dI : Nat → Nat → Nat} {g0 g1 g2 : Nat} {cA : ClassId} {u : MS} {s U : State} {H : Heap} (hP : va_P (dC, dI) vwCl (mw g0 g1 g2 cA u) H) (hK : va_K (dC, dI) vwCl [(cA, .int)] s) (hU : U.heap = H) (hW : s.WarmedH U.vm) : mpre dC dI g0 g1 g2 cA u U :=
  ⟨by rw [hU]; exact hP, va_K.moved hW.alike hK⟩
def mmut (dC : Nat → ClassId) (dI : Nat → Nat → Nat) (g0 g1 g2 : Nat) (cA : ClassId) (sz : Nat) (u : MS) (U : State) : Prop :=
  U.heap.size = sz ∧ va_P (dC, dI) vwCl (mw g0 g1 g2 cA u) U.heap ∧ va_K (dC, dI) vwCl [(cA, .int)] U ∧ va_D (fun _ => True) (mw g0 g1 g2 cA u)
theorem mmut_blind {dC : Nat → ClassId} {dI : Nat → Nat → Nat} {g0 g1 g2 : Nat} {cA : ClassId} {sz : Nat} {u : MS} {av : List Value} : FrameBlind (va_Pc av (fun U => mmut dC dI g0 g1 g2 cA sz u U)) :=
  fun a U g mk q => ⟨q.1, q.2.1, q.2.2.1, va_K.moved (u := U) (U := U.calling g mk a) (Vm.Alike.refl U.vm) q.2.2.2.1, q.2.2.2.2⟩
theorem mmut_of {dC : Nat → ClassId} {dI : Nat → Nat → Nat} {g0 g1 g2 : Nat} {cA : ClassId} {u : MS} {A : Nat → Prop} {s U : State} {H : Heap} (hP : va_P (dC, dI) vwCl (mw g0 g1 g2 cA u) H) (hK : va_K (dC, dI) vwCl [(cA, .int)] s) (hD : va_D A (mw g0 g1 g2 cA u)) (hU : U.heap = H) (hW : s.WarmedH U.vm) : mmut dC dI g0 g1 g2 cA H.size u U :=
  ⟨by rw [hU], by rw [hU]; exact hP, va_K.moved hW.alike hK, hD.weaken (fun _ _ _ _ => trivial)⟩
def matt (dC : Nat → ClassId) (dI : Nat → Nat → Nat) (g0 g1 g2 : Nat) (cA : ClassId) (A : Nat → Prop) (u : MS) (t : State) : Prop :=
  va_P (dC, dI) vwCl (mw g0 g1 g2 cA u) t.heap ∧ va_K (dC, dI) vwCl [(cA, .int)] t ∧ va_D A (mw g0 g1 g2 cA u)
def matt0 (dC : Nat → ClassId) (dI : Nat → Nat → Nat) (g0 : Nat) (A : Nat → Prop) (u : MS) (t : State) : Prop :=
  ∃ (g1 g2 : Nat) (cA : ClassId), matt dC dI g0 g1 g2 cA A u t
-- the functions
def mH2 (v : Int32) : Bool := if v ≤ 57343 then false else if 1114112 ≤ v then false else true
def mHas (v : Int32) : Bool := if v < 0 then mH2 v else if v < 55296 then true else mH2 v
def mSize (v : Int32) : Int32 := if v ≤ 65535 then (if v ≤ 2047 then (if v ≤ 127 then 1 else 2) else 3) else 4
def mA3 (v : Int32) : Bool := if v < 65536 then false else if 1114112 ≤ v then false else true
def mA2 (v : Int32) : Bool := if v < 57344 then mA3 v else if v < 65534 then true else mA3 v
def mAll (v : Int32) : Bool := if v = 9 then true else if v = 10 then true else if v = 13 then true else if v < 32 then mA2 v else if v < 55296 then true else mA2 v
def mBlank (v : Int32) : Bool := if v = 32 then true else if v = 9 then true else if v = 13 then true else if v = 10 then true else false
def mWith (v a b : Int32) : Bool := if v < a then false else if b < v then false else true
def mLow (v : Int32) : Bool := if v = 58 then true else if v = 95 then true else if mWith v 65 90 then true else if mWith v 97 122 then true else if mWith v 192 214 then true else if mWith v 216 246 then true else if mWith v 248 767 then true else false
def mMid (v : Int32) : Bool := if mWith v 880 893 then true else if mWith v 895 8191 then true else if mWith v 8204 8205 then true else if mWith v 8304 8591 then true else if mWith v 11264 12271 then true else false
def mBeg (v : Int32) : Bool := if mLow v then true else if mMid v then true else if mWith v 12289 55295 then true else if mWith v 63744 64975 then true else if mWith v 65008 65533 then true else if mWith v 65536 983039 then true else false
def mPart (v : Int32) : Bool := if mBeg v then true else if v = 45 then true else if v = 46 then true else if mWith v 48 57 then true else if v = 183 then true else if mWith v 768 879 then true else if mWith v 8255 8256 then true else false
def mKind (v : Int32) : Int32 := (if mAll v then 1 else 0) + (if mBlank v then 2 else 0) + (if mBeg v then 4 else 0) + (if mPart v then 8 else 0)
-- one character's bytes, read
def finN (v n : Nat) (m : Int32) : Option (Nat × Nat) := if mHas (nI v) then (if mSize (nI v) = m then some (v, n) else none) else none
def seq1 (kb : Nat → Nat) (ln st : Nat) : Option (Nat × Nat) := if st + 1 ≤ ln then finN (kb st) 1 1 else none
def seq2 (kb : Nat → Nat) (ln st : Nat) : Option (Nat × Nat) := if st + 2 ≤ ln then (if kb (st + 1) < 128 then none else if kb (st + 1) ≤ 191 then finN (64 * (kb st - 192) + kb (st + 1) - 128) 2 2 else none) else none
def seq3 (kb : Nat → Nat) (ln st : Nat) : Option (Nat × Nat) := if st + 3 ≤ ln then (if kb (st + 1) < 128 then none else if kb (st + 1) ≤ 191 then (if kb (st + 2) < 128 then none else if kb (st + 2) ≤ 191 then finN (64 * (64 * (kb st - 224) + kb (st + 1) - 128) + kb (st + 2) - 128) 3 3 else none) else none) else none
def seq4 (kb : Nat → Nat) (ln st : Nat) : Option (Nat × Nat) := if st + 4 ≤ ln then (if kb (st + 1) < 128 then none else if kb (st + 1) ≤ 191 then (if kb (st + 2) < 128 then none else if kb (st + 2) ≤ 191 then (if kb (st + 3) < 128 then none else if kb (st + 3) ≤ 191 then finN (64 * (64 * (64 * (kb st - 240) + kb (st + 1) - 128) + kb (st + 2) - 128) + kb (st + 3) - 128) 4 4 else none) else none) else none) else none
def seqN (kb : Nat → Nat) (ln st : Nat) : Option (Nat × Nat) :=
  if 128 ≤ kb st then (if 192 ≤ kb st then (if 224 ≤ kb st then (if 240 ≤ kb st then (if 248 ≤ kb st then none else seq4 kb ln st) else seq3 kb ln st) else seq2 kb ln st) else none) else seq1 kb ln st
def seqR : Option (Nat × Nat) → Int32
  | none => -1
  | some q => nI q.1
def seqS (st : Nat) : Option (Nat × Nat) → Nat
  | none => st
  | some q => st + q.2
theorem seqR_n : seqR none = -1 := rfl
theorem seqR_s (a b : Nat) : seqR (some (a, b)) = nI a := rfl
theorem seqS_n (st : Nat) : seqS st none = st := rfl
theorem seqS_s (st a b : Nat) : seqS st (some (a, b)) = st + b := rfl
theorem finN_lt {v n : Nat} {m : Int32} {q : Nat × Nat} (hv : v < 2 ^ 31) (h : finN v n m = some q) : q = (v, n) ∧ v < 1114112 := by
  unfold finN at h
  split at h
  · rename_i h1
    split at h
    · refine ⟨(Option.some.inj h).symm, ?_⟩
      unfold mHas mH2 at h1
      split at h1
      · rename_i h2; exact absurd h2 (nI_pos hv)
      · split at h1
        · rename_i h3
          have := (nI_ltI (a := v) (b := 55296) hv (by decide)).mp h3
          omega
        · split at h1
          · exact absurd h1 (by decide)
          · split at h1
            · exact absurd h1 (by decide)
            · rename_i h4
              have : ¬ 1114112 ≤ v := fun z => h4 ((nI_leI (a := 1114112) (b := v) (by decide) hv).mpr z)
              omega
    · exact absurd h (by simp)
  · exact absurd h (by simp)
theorem ite_n {p : Prop} [Decidable p] {a : Option (Nat × Nat)} {x : Nat × Nat} (h : (if p then a else none) = some x) : p ∧ a = some x := by
  by_cases q : p
  · rw [if_pos q] at h; exact ⟨q, h⟩
  · rw [if_neg q] at h; exact absurd h (by simp)
theorem ite_m {p : Prop} [Decidable p] {a : Option (Nat × Nat)} {x : Nat × Nat} (h : (if p then none else a) = some x) : ¬ p ∧ a = some x := by
  by_cases q : p
  · rw [if_pos q] at h; exact absurd h (by simp)
  · rw [if_neg q] at h; exact ⟨q, h⟩
theorem seqN_lt {kb : Nat → Nat} {ln st : Nat} {v w : Nat} (hkb : ∀ j, kb j < 256) (h : seqN kb ln st = some (v, w)) : v < 1114112 ∧ 1 ≤ w ∧ w ≤ 4 ∧ st + w ≤ ln := by
  have a0 := hkb st; have a1 := hkb (st + 1); have a2 := hkb (st + 2); have a3 := hkb (st + 3)
  unfold seqN at h
  by_cases c1 : 128 ≤ kb st
  · rw [if_pos c1] at h
    obtain ⟨c2, h⟩ := ite_n h
    by_cases c3 : 224 ≤ kb st
    · rw [if_pos c3] at h
      by_cases c4 : 240 ≤ kb st
      · rw [if_pos c4] at h
        obtain ⟨c5, h⟩ := ite_m h
        obtain ⟨b1, h⟩ := ite_n h
        obtain ⟨b2, h⟩ := ite_m h
        obtain ⟨b3, h⟩ := ite_n h
        obtain ⟨b4, h⟩ := ite_m h
        obtain ⟨b5, h⟩ := ite_n h
        obtain ⟨b6, h⟩ := ite_m h
        obtain ⟨b7, h⟩ := ite_n h
        obtain ⟨e, q⟩ := finN_lt (by omega) h
        have e1 := (Prod.mk.inj e).1; have e2 := (Prod.mk.inj e).2
        exact ⟨by omega, by omega, by omega, by omega⟩
      · rw [if_neg c4] at h
        obtain ⟨b1, h⟩ := ite_n h
        obtain ⟨b2, h⟩ := ite_m h
        obtain ⟨b3, h⟩ := ite_n h
        obtain ⟨b4, h⟩ := ite_m h
        obtain ⟨b5, h⟩ := ite_n h
        obtain ⟨e, q⟩ := finN_lt (by omega) h
        have e1 := (Prod.mk.inj e).1; have e2 := (Prod.mk.inj e).2
        exact ⟨by omega, by omega, by omega, by omega⟩
    · rw [if_neg c3] at h
      obtain ⟨b1, h⟩ := ite_n h
      obtain ⟨b2, h⟩ := ite_m h
      obtain ⟨b3, h⟩ := ite_n h
      obtain ⟨e, q⟩ := finN_lt (by omega) h
      have e1 := (Prod.mk.inj e).1; have e2 := (Prod.mk.inj e).2
      exact ⟨by omega, by omega, by omega, by omega⟩
  · rw [if_neg c1] at h
    obtain ⟨b1, h⟩ := ite_n h
    obtain ⟨e, q⟩ := finN_lt (by omega) h
    have e1 := (Prod.mk.inj e).1; have e2 := (Prod.mk.inj e).2
    exact ⟨by omega, by omega, by omega, by omega⟩
-- the next character
def s0N (kb : Nat → Nat) (ln st : Nat) : Nat := if st = 0 then (if ln ≤ 2 then st else if kb 0 = 239 then (if kb 1 = 187 then (if kb 2 = 191 then 3 else st) else st) else st) else st
def nxM (v : Nat) : Nat := if v = 13 then 10 else v
def nxS (kb : Nat → Nat) (ln st v : Nat) : Nat := if v = 13 then (if ln ≤ st then st else if kb st = 10 then st + 1 else st) else st
/-- what was read: k characters, mf and bf what each is and where it stands, sg the places between -/
def Chain (kb : Nat → Nat) (ln k : Nat) (mf bf sg : Nat → Nat) : Prop :=
  sg 0 = 0 ∧ (∀ j, j < k → ¬ ln ≤ s0N kb ln (sg j) ∧ ∃ v w, seqN kb ln (s0N kb ln (sg j)) = some (v, w) ∧ mf j = nxM v ∧ bf j = s0N kb ln (sg j) ∧ sg (j + 1) = nxS kb ln (s0N kb ln (sg j) + w) v) ∧ ln ≤ s0N kb ln (sg k)
-- one character's bytes, written
def szN (v : Nat) : Nat := if v ≤ 65535 then (if v ≤ 2047 then (if v ≤ 127 then 1 else 2) else 3) else 4
theorem szN_in (v : Nat) : 1 ≤ szN v ∧ szN v ≤ 4 := by
  unfold szN
  repeat' split
  all_goals omega
theorem mSize_nI {v : Nat} (hv : v < 2 ^ 31) : mSize (nI v) = nI (szN v) := by
  have e1 : nI v ≤ 65535 ↔ v ≤ 65535 := nI_leI (b := 65535) hv (by decide)
  have e2 : nI v ≤ 2047 ↔ v ≤ 2047 := nI_leI (b := 2047) hv (by decide)
  have e3 : nI v ≤ 127 ↔ v ≤ 127 := nI_leI (b := 127) hv (by decide)
  unfold mSize szN
  by_cases h1 : v ≤ 65535
  · rw [if_pos h1, if_pos (e1.mpr h1)]
    by_cases h2 : v ≤ 2047
    · rw [if_pos h2, if_pos (e2.mpr h2)]
      by_cases h3 : v ≤ 127
      · rw [if_pos h3, if_pos (e3.mpr h3)]; rfl
      · rw [if_neg h3, if_neg (fun q => h3 (e3.mp q))]; rfl
    · rw [if_neg h2, if_neg (fun q => h2 (e2.mp q))]; rfl
  · rw [if_neg h1, if_neg (fun q => h1 (e1.mp q))]; rfl
def encN (v j : Nat) : Nat := if j ≤ 0 then (if szN v = 1 then v else if szN v = 2 then 192 + v / 64 ^ (szN v - 1 - j) else if szN v = 3 then 224 + v / 64 ^ (szN v - 1 - j) else 240 + v / 64 ^ (szN v - 1 - j)) else 128 + v / 64 ^ (szN v - 1 - j) % 64
def putN (tb : Nat → Nat) (n : Nat) (g : Nat → Nat) : Nat → (Nat → Nat)
  | 0 => tb
  | i + 1 => updN (putN tb n g i) (n + i) (g i)
def mPb (v : Int64) (d : Nat) : Int32 := ((v >>> ((nI (8 * d)).toInt64 &&& 63)) &&& 255).toInt32
def pbN (v : Int64) (d : Nat) : Nat := (v >>> ((nI (8 * d)).toInt64 &&& 63)).toBitVec.toNat % 256
theorem mPb_nI (v : Int64) (d : Nat) : mPb v d = nI (pbN v d) := by
  unfold mPb pbN
  generalize v >>> ((nI (8 * d)).toInt64 &&& 63) = x
  apply Int32.toBitVec_inj.mp
  apply BitVec.eq_of_toNat_eq
  have h1 : (x &&& 255).toInt32.toBitVec.toNat = (x &&& 255).toBitVec.toNat % 2 ^ 32 := by
    rw [Int64.toBitVec_toInt32, BitVec.signExtend_eq_setWidth_of_le _ (by decide), BitVec.toNat_setWidth]
  rw [h1, pk_tn (by omega), Int64.toBitVec_and, BitVec.toNat_and, show (255 : Int64).toBitVec.toNat = 2 ^ 8 - 1 from by decide, Nat.and_two_pow_sub_one_eq_mod]
  omega
theorem pbN_lt (v : Int64) (d : Nat) : pbN v d < 256 := Nat.mod_lt _ (by decide)
def mPutOk (n : Nat) (q : Int32) : Bool := if q < 1 then false else if 8 < q then false else if nI n + q ≤ 1000 then true else false
def mChOk (n : Nat) (v : Int32) : Bool := if mHas v then (if nI n + mSize v ≤ 1000 then true else false) else false
end
section
set_option maxHeartbeats 4000000 in
set_option maxRecDepth 100000 in
theorem c_X1_has (l : Launch) (v : Int32) : Met l yX1_has wsX1_has ({ frames := 0, cells := 0, slots := 0, locals := 0 }) (va_Pc [.int v] (fun U => True)) (vp_Si (fun r => r = bI (mHas v))) 0 0 (fun _ => False) := by
  refine Met.ofW (cc := cX1_has) (maxL := 1) (ret := (some .boolean)) (by decide) rfl ?_
  intro p e s m args below meth c s₁ B hml hv
  obtain ⟨rfl, -⟩ := hv
  have hx := B.exec
  have hb := B.bytes
  have hr := B.returns
  have hts := atoms_spec (ws := wsX1_has) B.pre
  have hown : s.vm.findClass RX1 = some m.cls := findClass_of_methodNamed B.named
  have hS : va_S (fun _ => False) s.heap s.heap [] := va_S.rf
  have hl := lv_entry ([.int v]) (n := 1) (Nat.le_of_ble_eq_true rfl)
  rw [lg_entry_eq]
  generalize (lg_sl ([.int v]) ++ List.replicate (1 - (lg_sl ([.int v])).length) Slot.unset).toArray = ls at hl ⊢
  have hl : lv_has ls 1 [(0, .int v)] := hl
  refine lv_iload_n hx hb dX1_has_0 rfl (lv_at hl 0 rfl) ?_
  refine lv_if_lt (tgt := 10) hx hb dX1_has_1 (by decide) (fun c_1 => ?_) (fun c_1 => ?_)
  · refine lv_iload_n hx hb dX1_has_10 rfl (lv_at hl 0 rfl) ?_
    refine lv_ldc (own := RX1) (v := 57343) hx hb hown (hts (.constant RX1 26 57343) (by decide +kernel)) dX1_has_11 ?_
    refine lv_icmp_le (tgt := 26) hx hb dX1_has_13 (by decide) (fun c_2 => ?_) (fun c_2 => ?_)
    · refine lv_iconst (v := 0) hx hb dX1_has_26 (by decide) ?_
      exact W.zret (v := 0) (ty := .boolean) hx hb hr (rfl) (fun t ht hW => ⟨0, rfl, by first | (simp only [mHas, mH2, if_pos c_1, if_pos c_2, bI_t, bI_f]; done) | (simp only [mHas, mH2, if_pos c_1, if_pos c_2, bI_t, bI_f]; rfl), ht⟩) hS.2.2 dX1_has_27
    · refine lv_iload_n hx hb dX1_has_16 rfl (lv_at hl 0 rfl) ?_
      refine lv_ldc (own := RX1) (v := 1114112) hx hb hown (hts (.constant RX1 27 1114112) (by decide +kernel)) dX1_has_17 ?_
      refine lv_icmp_ge (tgt := 26) hx hb dX1_has_19 (by decide) (fun c_3 => ?_) (fun c_3 => ?_)
      · refine lv_iconst (v := 0) hx hb dX1_has_26 (by decide) ?_
        exact W.zret (v := 0) (ty := .boolean) hx hb hr (rfl) (fun t ht hW => ⟨0, rfl, by first | (simp only [mHas, mH2, if_pos c_1, if_neg c_2, if_pos c_3, bI_t, bI_f]; done) | (simp only [mHas, mH2, if_pos c_1, if_neg c_2, if_pos c_3, bI_t, bI_f]; rfl), ht⟩) hS.2.2 dX1_has_27
      · refine lv_iconst (v := 1) hx hb dX1_has_22 (by decide) ?_
        refine lv_goto (tgt := 27) hx hb dX1_has_23 (by decide) ?_
        exact W.zret (v := 1) (ty := .boolean) hx hb hr (rfl) (fun t ht hW => ⟨1, rfl, by first | (simp only [mHas, mH2, if_pos c_1, if_neg c_2, if_neg c_3, bI_t, bI_f]; done) | (simp only [mHas, mH2, if_pos c_1, if_neg c_2, if_neg c_3, bI_t, bI_f]; rfl), ht⟩) hS.2.2 dX1_has_27
  · refine lv_iload_n hx hb dX1_has_4 rfl (lv_at hl 0 rfl) ?_
    refine lv_ldc (own := RX1) (v := 55296) hx hb hown (hts (.constant RX1 25 55296) (by decide +kernel)) dX1_has_5 ?_
    refine lv_icmp_lt (tgt := 22) hx hb dX1_has_7 (by decide) (fun c_4 => ?_) (fun c_4 => ?_)
    · refine lv_iconst (v := 1) hx hb dX1_has_22 (by decide) ?_
      refine lv_goto (tgt := 27) hx hb dX1_has_23 (by decide) ?_
      exact W.zret (v := 1) (ty := .boolean) hx hb hr (rfl) (fun t ht hW => ⟨1, rfl, by first | (simp only [mHas, mH2, if_neg c_1, if_pos c_4, bI_t, bI_f]; done) | (simp only [mHas, mH2, if_neg c_1, if_pos c_4, bI_t, bI_f]; rfl), ht⟩) hS.2.2 dX1_has_27
    · refine lv_iload_n hx hb dX1_has_10 rfl (lv_at hl 0 rfl) ?_
      refine lv_ldc (own := RX1) (v := 57343) hx hb hown (hts (.constant RX1 26 57343) (by decide +kernel)) dX1_has_11 ?_
      refine lv_icmp_le (tgt := 26) hx hb dX1_has_13 (by decide) (fun c_5 => ?_) (fun c_5 => ?_)
      · refine lv_iconst (v := 0) hx hb dX1_has_26 (by decide) ?_
        exact W.zret (v := 0) (ty := .boolean) hx hb hr (rfl) (fun t ht hW => ⟨0, rfl, by first | (simp only [mHas, mH2, if_neg c_1, if_neg c_4, if_pos c_5, bI_t, bI_f]; done) | (simp only [mHas, mH2, if_neg c_1, if_neg c_4, if_pos c_5, bI_t, bI_f]; rfl), ht⟩) hS.2.2 dX1_has_27
      · refine lv_iload_n hx hb dX1_has_16 rfl (lv_at hl 0 rfl) ?_
        refine lv_ldc (own := RX1) (v := 1114112) hx hb hown (hts (.constant RX1 27 1114112) (by decide +kernel)) dX1_has_17 ?_
        refine lv_icmp_ge (tgt := 26) hx hb dX1_has_19 (by decide) (fun c_6 => ?_) (fun c_6 => ?_)
        · refine lv_iconst (v := 0) hx hb dX1_has_26 (by decide) ?_
          exact W.zret (v := 0) (ty := .boolean) hx hb hr (rfl) (fun t ht hW => ⟨0, rfl, by first | (simp only [mHas, mH2, if_neg c_1, if_neg c_4, if_neg c_5, if_pos c_6, bI_t, bI_f]; done) | (simp only [mHas, mH2, if_neg c_1, if_neg c_4, if_neg c_5, if_pos c_6, bI_t, bI_f]; rfl), ht⟩) hS.2.2 dX1_has_27
        · refine lv_iconst (v := 1) hx hb dX1_has_22 (by decide) ?_
          refine lv_goto (tgt := 27) hx hb dX1_has_23 (by decide) ?_
          exact W.zret (v := 1) (ty := .boolean) hx hb hr (rfl) (fun t ht hW => ⟨1, rfl, by first | (simp only [mHas, mH2, if_neg c_1, if_neg c_4, if_neg c_5, if_neg c_6, bI_t, bI_f]; done) | (simp only [mHas, mH2, if_neg c_1, if_neg c_4, if_neg c_5, if_neg c_6, bI_t, bI_f]; rfl), ht⟩) hS.2.2 dX1_has_27
set_option maxHeartbeats 4000000 in
set_option maxRecDepth 100000 in
theorem c_X1_sizeOf (l : Launch) (v : Int32) : Met l yX1_sizeOf wsX1_sizeOf ({ frames := 0, cells := 0, slots := 0, locals := 0 }) (va_Pc [.int v] (fun U => True)) (vp_Si (fun r => r = mSize v)) 0 0 (fun _ => False) := by
  refine Met.ofW (cc := cX1_sizeOf) (maxL := 2) (ret := (some .int)) (by decide) rfl ?_
  intro p e s m args below meth c s₁ B hml hv
  obtain ⟨rfl, -⟩ := hv
  have hx := B.exec
  have hb := B.bytes
  have hr := B.returns
  have hts := atoms_spec (ws := wsX1_sizeOf) B.pre
  have hown : s.vm.findClass RX1 = some m.cls := findClass_of_methodNamed B.named
  have hS : va_S (fun _ => False) s.heap s.heap [] := va_S.rf
  have hl := lv_entry ([.int v]) (n := 2) (Nat.le_of_ble_eq_true rfl)
  rw [lg_entry_eq]
  generalize (lg_sl ([.int v]) ++ List.replicate (2 - (lg_sl ([.int v])).length) Slot.unset).toArray = ls at hl ⊢
  have hl : lv_has ls 2 [(0, .int v)] := hl
  refine lv_iconst (v := 1) hx hb dX1_sizeOf_0 (by decide) ?_
  refine lv_istore_n (lv' := [(1, .int 1), (0, .int v)]) hx hb dX1_sizeOf_1 rfl hl (by decide) rfl (fun ls hl => ?_)
  refine lv_iload_n hx hb dX1_sizeOf_2 rfl (lv_at hl 1 rfl) ?_
  refine lv_bipush (v := 127) hx hb dX1_sizeOf_3 (by decide) ?_
  refine lv_icmp_le (tgt := 12) hx hb dX1_sizeOf_5 (by decide) (fun c_1 => ?_) (fun c_1 => ?_)
  · refine lv_iload_n hx hb dX1_sizeOf_12 rfl (lv_at hl 0 rfl) ?_
    refine lv_istore_n (lv' := [(1, .int 1), (0, .int v)]) hx hb dX1_sizeOf_13 rfl hl (by decide) rfl (fun ls hl => ?_)
    refine lv_iload_n hx hb dX1_sizeOf_14 rfl (lv_at hl 1 rfl) ?_
    refine lv_sipush (v := 2047) hx hb dX1_sizeOf_15 (by decide) ?_
    refine lv_icmp_le (tgt := 25) hx hb dX1_sizeOf_18 (by decide) (fun c_2 => ?_) (fun c_2 => ?_)
    · refine lv_iload_n hx hb dX1_sizeOf_25 rfl (lv_at hl 0 rfl) ?_
      refine lv_istore_n (lv' := [(1, .int 1), (0, .int v)]) hx hb dX1_sizeOf_26 rfl hl (by decide) rfl (fun ls hl => ?_)
      refine lv_iload_n hx hb dX1_sizeOf_27 rfl (lv_at hl 1 rfl) ?_
      refine lv_ldc (own := RX1) (v := 65535) hx hb hown (hts (.constant RX1 28 65535) (by decide +kernel)) dX1_sizeOf_28 ?_
      refine lv_icmp_le (tgt := 37) hx hb dX1_sizeOf_30 (by decide) (fun c_3 => ?_) (fun c_3 => ?_)
      · refine lv_iload_n hx hb dX1_sizeOf_37 rfl (lv_at hl 0 rfl) ?_
        exact W.iret (v := 1) hx hb hr (fun t ht hW => ⟨1, rfl, by first | (simp only [mSize, if_pos c_1, if_pos c_2, if_pos c_3, bI_t, bI_f]; done) | (simp only [mSize, if_pos c_1, if_pos c_2, if_pos c_3, bI_t, bI_f]; rfl), ht⟩) hS.2.2 dX1_sizeOf_38
      · refine lv_iconst (v := 4) hx hb dX1_sizeOf_33 (by decide) ?_
        refine lv_goto (tgt := 38) hx hb dX1_sizeOf_34 (by decide) ?_
        exact W.iret (v := 4) hx hb hr (fun t ht hW => ⟨4, rfl, by first | (simp only [mSize, if_pos c_1, if_pos c_2, if_neg c_3, bI_t, bI_f]; done) | (simp only [mSize, if_pos c_1, if_pos c_2, if_neg c_3, bI_t, bI_f]; rfl), ht⟩) hS.2.2 dX1_sizeOf_38
    · refine lv_iconst (v := 3) hx hb dX1_sizeOf_21 (by decide) ?_
      refine lv_goto (tgt := 26) hx hb dX1_sizeOf_22 (by decide) ?_
      refine lv_istore_n (lv' := [(1, .int 3), (0, .int v)]) hx hb dX1_sizeOf_26 rfl hl (by decide) rfl (fun ls hl => ?_)
      refine lv_iload_n hx hb dX1_sizeOf_27 rfl (lv_at hl 1 rfl) ?_
      refine lv_ldc (own := RX1) (v := 65535) hx hb hown (hts (.constant RX1 28 65535) (by decide +kernel)) dX1_sizeOf_28 ?_
      refine lv_icmp_le (tgt := 37) hx hb dX1_sizeOf_30 (by decide) (fun c_4 => ?_) (fun c_4 => ?_)
      · refine lv_iload_n hx hb dX1_sizeOf_37 rfl (lv_at hl 0 rfl) ?_
        exact W.iret (v := 3) hx hb hr (fun t ht hW => ⟨3, rfl, by first | (simp only [mSize, if_pos c_1, if_neg c_2, if_pos c_4, bI_t, bI_f]; done) | (simp only [mSize, if_pos c_1, if_neg c_2, if_pos c_4, bI_t, bI_f]; rfl), ht⟩) hS.2.2 dX1_sizeOf_38
      · refine lv_iconst (v := 4) hx hb dX1_sizeOf_33 (by decide) ?_
        refine lv_goto (tgt := 38) hx hb dX1_sizeOf_34 (by decide) ?_
        exact W.iret (v := 4) hx hb hr (fun t ht hW => ⟨4, rfl, by first | (simp only [mSize, if_pos c_1, if_neg c_2, if_neg c_4, bI_t, bI_f]; done) | (simp only [mSize, if_pos c_1, if_neg c_2, if_neg c_4, bI_t, bI_f]; rfl), ht⟩) hS.2.2 dX1_sizeOf_38
  · refine lv_iconst (v := 2) hx hb dX1_sizeOf_8 (by decide) ?_
    refine lv_goto (tgt := 13) hx hb dX1_sizeOf_9 (by decide) ?_
    refine lv_istore_n (lv' := [(1, .int 2), (0, .int v)]) hx hb dX1_sizeOf_13 rfl hl (by decide) rfl (fun ls hl => ?_)
    refine lv_iload_n hx hb dX1_sizeOf_14 rfl (lv_at hl 1 rfl) ?_
    refine lv_sipush (v := 2047) hx hb dX1_sizeOf_15 (by decide) ?_
    refine lv_icmp_le (tgt := 25) hx hb dX1_sizeOf_18 (by decide) (fun c_5 => ?_) (fun c_5 => ?_)
    · refine lv_iload_n hx hb dX1_sizeOf_25 rfl (lv_at hl 0 rfl) ?_
      refine lv_istore_n (lv' := [(1, .int 2), (0, .int v)]) hx hb dX1_sizeOf_26 rfl hl (by decide) rfl (fun ls hl => ?_)
      refine lv_iload_n hx hb dX1_sizeOf_27 rfl (lv_at hl 1 rfl) ?_
      refine lv_ldc (own := RX1) (v := 65535) hx hb hown (hts (.constant RX1 28 65535) (by decide +kernel)) dX1_sizeOf_28 ?_
      refine lv_icmp_le (tgt := 37) hx hb dX1_sizeOf_30 (by decide) (fun c_6 => ?_) (fun c_6 => ?_)
      · refine lv_iload_n hx hb dX1_sizeOf_37 rfl (lv_at hl 0 rfl) ?_
        exact W.iret (v := 2) hx hb hr (fun t ht hW => ⟨2, rfl, by first | (simp only [mSize, if_neg c_1, if_pos c_5, if_pos c_6, bI_t, bI_f]; done) | (simp only [mSize, if_neg c_1, if_pos c_5, if_pos c_6, bI_t, bI_f]; rfl), ht⟩) hS.2.2 dX1_sizeOf_38
      · refine lv_iconst (v := 4) hx hb dX1_sizeOf_33 (by decide) ?_
        refine lv_goto (tgt := 38) hx hb dX1_sizeOf_34 (by decide) ?_
        exact W.iret (v := 4) hx hb hr (fun t ht hW => ⟨4, rfl, by first | (simp only [mSize, if_neg c_1, if_pos c_5, if_neg c_6, bI_t, bI_f]; done) | (simp only [mSize, if_neg c_1, if_pos c_5, if_neg c_6, bI_t, bI_f]; rfl), ht⟩) hS.2.2 dX1_sizeOf_38
    · refine lv_iconst (v := 3) hx hb dX1_sizeOf_21 (by decide) ?_
      refine lv_goto (tgt := 26) hx hb dX1_sizeOf_22 (by decide) ?_
      refine lv_istore_n (lv' := [(1, .int 3), (0, .int v)]) hx hb dX1_sizeOf_26 rfl hl (by decide) rfl (fun ls hl => ?_)
      refine lv_iload_n hx hb dX1_sizeOf_27 rfl (lv_at hl 1 rfl) ?_
      refine lv_ldc (own := RX1) (v := 65535) hx hb hown (hts (.constant RX1 28 65535) (by decide +kernel)) dX1_sizeOf_28 ?_
      refine lv_icmp_le (tgt := 37) hx hb dX1_sizeOf_30 (by decide) (fun c_7 => ?_) (fun c_7 => ?_)
      · refine lv_iload_n hx hb dX1_sizeOf_37 rfl (lv_at hl 0 rfl) ?_
        exact W.iret (v := 3) hx hb hr (fun t ht hW => ⟨3, rfl, by first | (simp only [mSize, if_neg c_1, if_neg c_5, if_pos c_7, bI_t, bI_f]; done) | (simp only [mSize, if_neg c_1, if_neg c_5, if_pos c_7, bI_t, bI_f]; rfl), ht⟩) hS.2.2 dX1_sizeOf_38
      · refine lv_iconst (v := 4) hx hb dX1_sizeOf_33 (by decide) ?_
        refine lv_goto (tgt := 38) hx hb dX1_sizeOf_34 (by decide) ?_
        exact W.iret (v := 4) hx hb hr (fun t ht hW => ⟨4, rfl, by first | (simp only [mSize, if_neg c_1, if_neg c_5, if_neg c_7, bI_t, bI_f]; done) | (simp only [mSize, if_neg c_1, if_neg c_5, if_neg c_7, bI_t, bI_f]; rfl), ht⟩) hS.2.2 dX1_sizeOf_38
set_option maxHeartbeats 4000000 in
set_option maxRecDepth 100000 in
theorem c_X1_isAllowed (l : Launch) (v : Int32) : Met l yX1_isAllowed wsX1_isAllowed ({ frames := 0, cells := 0, slots := 0, locals := 0 }) (va_Pc [.int v] (fun U => True)) (vp_Si (fun r => r = bI (mAll v))) 0 0 (fun _ => False) := by
  refine Met.ofW (cc := cX1_isAllowed) (maxL := 1) (ret := (some .boolean)) (by decide) rfl ?_
  intro p e s m args below meth c s₁ B hml hv
  obtain ⟨rfl, -⟩ := hv
  have hx := B.exec
  have hb := B.bytes
  have hr := B.returns
  have hts := atoms_spec (ws := wsX1_isAllowed) B.pre
  have hown : s.vm.findClass RX1 = some m.cls := findClass_of_methodNamed B.named
  have hS : va_S (fun _ => False) s.heap s.heap [] := va_S.rf
  have hl := lv_entry ([.int v]) (n := 1) (Nat.le_of_ble_eq_true rfl)
  rw [lg_entry_eq]
  generalize (lg_sl ([.int v]) ++ List.replicate (1 - (lg_sl ([.int v])).length) Slot.unset).toArray = ls at hl ⊢
  have hl : lv_has ls 1 [(0, .int v)] := hl
  refine lv_iload_n hx hb dX1_isAllowed_0 rfl (lv_at hl 0 rfl) ?_
  refine lv_bipush (v := 9) hx hb dX1_isAllowed_1 (by decide) ?_
  refine lv_icmp_eq (tgt := 54) hx hb dX1_isAllowed_3 (by decide) (fun c_1 => ?_) (fun c_1 => ?_)
  · refine lv_iconst (v := 1) hx hb dX1_isAllowed_54 (by decide) ?_
    refine lv_goto (tgt := 59) hx hb dX1_isAllowed_55 (by decide) ?_
    exact W.zret (v := 1) (ty := .boolean) hx hb hr (rfl) (fun t ht hW => ⟨1, rfl, by first | (simp only [mAll, mA2, mA3, if_pos c_1, bI_t, bI_f]; done) | (simp only [mAll, mA2, mA3, if_pos c_1, bI_t, bI_f]; rfl), ht⟩) hS.2.2 dX1_isAllowed_59
  · refine lv_iload_n hx hb dX1_isAllowed_6 rfl (lv_at hl 0 rfl) ?_
    refine lv_bipush (v := 10) hx hb dX1_isAllowed_7 (by decide) ?_
    refine lv_icmp_eq (tgt := 54) hx hb dX1_isAllowed_9 (by decide) (fun c_2 => ?_) (fun c_2 => ?_)
    · refine lv_iconst (v := 1) hx hb dX1_isAllowed_54 (by decide) ?_
      refine lv_goto (tgt := 59) hx hb dX1_isAllowed_55 (by decide) ?_
      exact W.zret (v := 1) (ty := .boolean) hx hb hr (rfl) (fun t ht hW => ⟨1, rfl, by first | (simp only [mAll, mA2, mA3, if_neg c_1, if_pos c_2, bI_t, bI_f]; done) | (simp only [mAll, mA2, mA3, if_neg c_1, if_pos c_2, bI_t, bI_f]; rfl), ht⟩) hS.2.2 dX1_isAllowed_59
    · refine lv_iload_n hx hb dX1_isAllowed_12 rfl (lv_at hl 0 rfl) ?_
      refine lv_bipush (v := 13) hx hb dX1_isAllowed_13 (by decide) ?_
      refine lv_icmp_eq (tgt := 54) hx hb dX1_isAllowed_15 (by decide) (fun c_3 => ?_) (fun c_3 => ?_)
      · refine lv_iconst (v := 1) hx hb dX1_isAllowed_54 (by decide) ?_
        refine lv_goto (tgt := 59) hx hb dX1_isAllowed_55 (by decide) ?_
        exact W.zret (v := 1) (ty := .boolean) hx hb hr (rfl) (fun t ht hW => ⟨1, rfl, by first | (simp only [mAll, mA2, mA3, if_neg c_1, if_neg c_2, if_pos c_3, bI_t, bI_f]; done) | (simp only [mAll, mA2, mA3, if_neg c_1, if_neg c_2, if_pos c_3, bI_t, bI_f]; rfl), ht⟩) hS.2.2 dX1_isAllowed_59
      · refine lv_iload_n hx hb dX1_isAllowed_18 rfl (lv_at hl 0 rfl) ?_
        refine lv_bipush (v := 32) hx hb dX1_isAllowed_19 (by decide) ?_
        refine lv_icmp_lt (tgt := 30) hx hb dX1_isAllowed_21 (by decide) (fun c_4 => ?_) (fun c_4 => ?_)
        · refine lv_iload_n hx hb dX1_isAllowed_30 rfl (lv_at hl 0 rfl) ?_
          refine lv_ldc (own := RX1) (v := 57344) hx hb hown (hts (.constant RX1 47 57344) (by decide +kernel)) dX1_isAllowed_31 ?_
          refine lv_icmp_lt (tgt := 42) hx hb dX1_isAllowed_33 (by decide) (fun c_5 => ?_) (fun c_5 => ?_)
          · refine lv_iload_n hx hb dX1_isAllowed_42 rfl (lv_at hl 0 rfl) ?_
            refine lv_ldc (own := RX1) (v := 65536) hx hb hown (hts (.constant RX1 49 65536) (by decide +kernel)) dX1_isAllowed_43 ?_
            refine lv_icmp_lt (tgt := 58) hx hb dX1_isAllowed_45 (by decide) (fun c_6 => ?_) (fun c_6 => ?_)
            · refine lv_iconst (v := 0) hx hb dX1_isAllowed_58 (by decide) ?_
              exact W.zret (v := 0) (ty := .boolean) hx hb hr (rfl) (fun t ht hW => ⟨0, rfl, by first | (simp only [mAll, mA2, mA3, if_neg c_1, if_neg c_2, if_neg c_3, if_pos c_4, if_pos c_5, if_pos c_6, bI_t, bI_f]; done) | (simp only [mAll, mA2, mA3, if_neg c_1, if_neg c_2, if_neg c_3, if_pos c_4, if_pos c_5, if_pos c_6, bI_t, bI_f]; rfl), ht⟩) hS.2.2 dX1_isAllowed_59
            · refine lv_iload_n hx hb dX1_isAllowed_48 rfl (lv_at hl 0 rfl) ?_
              refine lv_ldc (own := RX1) (v := 1114112) hx hb hown (hts (.constant RX1 27 1114112) (by decide +kernel)) dX1_isAllowed_49 ?_
              refine lv_icmp_ge (tgt := 58) hx hb dX1_isAllowed_51 (by decide) (fun c_7 => ?_) (fun c_7 => ?_)
              · refine lv_iconst (v := 0) hx hb dX1_isAllowed_58 (by decide) ?_
                exact W.zret (v := 0) (ty := .boolean) hx hb hr (rfl) (fun t ht hW => ⟨0, rfl, by first | (simp only [mAll, mA2, mA3, if_neg c_1, if_neg c_2, if_neg c_3, if_pos c_4, if_pos c_5, if_neg c_6, if_pos c_7, bI_t, bI_f]; done) | (simp only [mAll, mA2, mA3, if_neg c_1, if_neg c_2, if_neg c_3, if_pos c_4, if_pos c_5, if_neg c_6, if_pos c_7, bI_t, bI_f]; rfl), ht⟩) hS.2.2 dX1_isAllowed_59
              · refine lv_iconst (v := 1) hx hb dX1_isAllowed_54 (by decide) ?_
                refine lv_goto (tgt := 59) hx hb dX1_isAllowed_55 (by decide) ?_
                exact W.zret (v := 1) (ty := .boolean) hx hb hr (rfl) (fun t ht hW => ⟨1, rfl, by first | (simp only [mAll, mA2, mA3, if_neg c_1, if_neg c_2, if_neg c_3, if_pos c_4, if_pos c_5, if_neg c_6, if_neg c_7, bI_t, bI_f]; done) | (simp only [mAll, mA2, mA3, if_neg c_1, if_neg c_2, if_neg c_3, if_pos c_4, if_pos c_5, if_neg c_6, if_neg c_7, bI_t, bI_f]; rfl), ht⟩) hS.2.2 dX1_isAllowed_59
          · refine lv_iload_n hx hb dX1_isAllowed_36 rfl (lv_at hl 0 rfl) ?_
            refine lv_ldc (own := RX1) (v := 65534) hx hb hown (hts (.constant RX1 48 65534) (by decide +kernel)) dX1_isAllowed_37 ?_
            refine lv_icmp_lt (tgt := 54) hx hb dX1_isAllowed_39 (by decide) (fun c_8 => ?_) (fun c_8 => ?_)
            · refine lv_iconst (v := 1) hx hb dX1_isAllowed_54 (by decide) ?_
              refine lv_goto (tgt := 59) hx hb dX1_isAllowed_55 (by decide) ?_
              exact W.zret (v := 1) (ty := .boolean) hx hb hr (rfl) (fun t ht hW => ⟨1, rfl, by first | (simp only [mAll, mA2, mA3, if_neg c_1, if_neg c_2, if_neg c_3, if_pos c_4, if_neg c_5, if_pos c_8, bI_t, bI_f]; done) | (simp only [mAll, mA2, mA3, if_neg c_1, if_neg c_2, if_neg c_3, if_pos c_4, if_neg c_5, if_pos c_8, bI_t, bI_f]; rfl), ht⟩) hS.2.2 dX1_isAllowed_59
            · refine lv_iload_n hx hb dX1_isAllowed_42 rfl (lv_at hl 0 rfl) ?_
              refine lv_ldc (own := RX1) (v := 65536) hx hb hown (hts (.constant RX1 49 65536) (by decide +kernel)) dX1_isAllowed_43 ?_
              refine lv_icmp_lt (tgt := 58) hx hb dX1_isAllowed_45 (by decide) (fun c_9 => ?_) (fun c_9 => ?_)
              · refine lv_iconst (v := 0) hx hb dX1_isAllowed_58 (by decide) ?_
                exact W.zret (v := 0) (ty := .boolean) hx hb hr (rfl) (fun t ht hW => ⟨0, rfl, by first | (simp only [mAll, mA2, mA3, if_neg c_1, if_neg c_2, if_neg c_3, if_pos c_4, if_neg c_5, if_neg c_8, if_pos c_9, bI_t, bI_f]; done) | (simp only [mAll, mA2, mA3, if_neg c_1, if_neg c_2, if_neg c_3, if_pos c_4, if_neg c_5, if_neg c_8, if_pos c_9, bI_t, bI_f]; rfl), ht⟩) hS.2.2 dX1_isAllowed_59
              · refine lv_iload_n hx hb dX1_isAllowed_48 rfl (lv_at hl 0 rfl) ?_
                refine lv_ldc (own := RX1) (v := 1114112) hx hb hown (hts (.constant RX1 27 1114112) (by decide +kernel)) dX1_isAllowed_49 ?_
                refine lv_icmp_ge (tgt := 58) hx hb dX1_isAllowed_51 (by decide) (fun c_10 => ?_) (fun c_10 => ?_)
                · refine lv_iconst (v := 0) hx hb dX1_isAllowed_58 (by decide) ?_
                  exact W.zret (v := 0) (ty := .boolean) hx hb hr (rfl) (fun t ht hW => ⟨0, rfl, by first | (simp only [mAll, mA2, mA3, if_neg c_1, if_neg c_2, if_neg c_3, if_pos c_4, if_neg c_5, if_neg c_8, if_neg c_9, if_pos c_10, bI_t, bI_f]; done) | (simp only [mAll, mA2, mA3, if_neg c_1, if_neg c_2, if_neg c_3, if_pos c_4, if_neg c_5, if_neg c_8, if_neg c_9, if_pos c_10, bI_t, bI_f]; rfl), ht⟩) hS.2.2 dX1_isAllowed_59
                · refine lv_iconst (v := 1) hx hb dX1_isAllowed_54 (by decide) ?_
                  refine lv_goto (tgt := 59) hx hb dX1_isAllowed_55 (by decide) ?_
                  exact W.zret (v := 1) (ty := .boolean) hx hb hr (rfl) (fun t ht hW => ⟨1, rfl, by first | (simp only [mAll, mA2, mA3, if_neg c_1, if_neg c_2, if_neg c_3, if_pos c_4, if_neg c_5, if_neg c_8, if_neg c_9, if_neg c_10, bI_t, bI_f]; done) | (simp only [mAll, mA2, mA3, if_neg c_1, if_neg c_2, if_neg c_3, if_pos c_4, if_neg c_5, if_neg c_8, if_neg c_9, if_neg c_10, bI_t, bI_f]; rfl), ht⟩) hS.2.2 dX1_isAllowed_59
        · refine lv_iload_n hx hb dX1_isAllowed_24 rfl (lv_at hl 0 rfl) ?_
          refine lv_ldc (own := RX1) (v := 55296) hx hb hown (hts (.constant RX1 25 55296) (by decide +kernel)) dX1_isAllowed_25 ?_
          refine lv_icmp_lt (tgt := 54) hx hb dX1_isAllowed_27 (by decide) (fun c_11 => ?_) (fun c_11 => ?_)
          · refine lv_iconst (v := 1) hx hb dX1_isAllowed_54 (by decide) ?_
            refine lv_goto (tgt := 59) hx hb dX1_isAllowed_55 (by decide) ?_
            exact W.zret (v := 1) (ty := .boolean) hx hb hr (rfl) (fun t ht hW => ⟨1, rfl, by first | (simp only [mAll, mA2, mA3, if_neg c_1, if_neg c_2, if_neg c_3, if_neg c_4, if_pos c_11, bI_t, bI_f]; done) | (simp only [mAll, mA2, mA3, if_neg c_1, if_neg c_2, if_neg c_3, if_neg c_4, if_pos c_11, bI_t, bI_f]; rfl), ht⟩) hS.2.2 dX1_isAllowed_59
          · refine lv_iload_n hx hb dX1_isAllowed_30 rfl (lv_at hl 0 rfl) ?_
            refine lv_ldc (own := RX1) (v := 57344) hx hb hown (hts (.constant RX1 47 57344) (by decide +kernel)) dX1_isAllowed_31 ?_
            refine lv_icmp_lt (tgt := 42) hx hb dX1_isAllowed_33 (by decide) (fun c_12 => ?_) (fun c_12 => ?_)
            · refine lv_iload_n hx hb dX1_isAllowed_42 rfl (lv_at hl 0 rfl) ?_
              refine lv_ldc (own := RX1) (v := 65536) hx hb hown (hts (.constant RX1 49 65536) (by decide +kernel)) dX1_isAllowed_43 ?_
              refine lv_icmp_lt (tgt := 58) hx hb dX1_isAllowed_45 (by decide) (fun c_13 => ?_) (fun c_13 => ?_)
              · refine lv_iconst (v := 0) hx hb dX1_isAllowed_58 (by decide) ?_
                exact W.zret (v := 0) (ty := .boolean) hx hb hr (rfl) (fun t ht hW => ⟨0, rfl, by first | (simp only [mAll, mA2, mA3, if_neg c_1, if_neg c_2, if_neg c_3, if_neg c_4, if_neg c_11, if_pos c_12, if_pos c_13, bI_t, bI_f]; done) | (simp only [mAll, mA2, mA3, if_neg c_1, if_neg c_2, if_neg c_3, if_neg c_4, if_neg c_11, if_pos c_12, if_pos c_13, bI_t, bI_f]; rfl), ht⟩) hS.2.2 dX1_isAllowed_59
              · refine lv_iload_n hx hb dX1_isAllowed_48 rfl (lv_at hl 0 rfl) ?_
                refine lv_ldc (own := RX1) (v := 1114112) hx hb hown (hts (.constant RX1 27 1114112) (by decide +kernel)) dX1_isAllowed_49 ?_
                refine lv_icmp_ge (tgt := 58) hx hb dX1_isAllowed_51 (by decide) (fun c_14 => ?_) (fun c_14 => ?_)
                · refine lv_iconst (v := 0) hx hb dX1_isAllowed_58 (by decide) ?_
                  exact W.zret (v := 0) (ty := .boolean) hx hb hr (rfl) (fun t ht hW => ⟨0, rfl, by first | (simp only [mAll, mA2, mA3, if_neg c_1, if_neg c_2, if_neg c_3, if_neg c_4, if_neg c_11, if_pos c_12, if_neg c_13, if_pos c_14, bI_t, bI_f]; done) | (simp only [mAll, mA2, mA3, if_neg c_1, if_neg c_2, if_neg c_3, if_neg c_4, if_neg c_11, if_pos c_12, if_neg c_13, if_pos c_14, bI_t, bI_f]; rfl), ht⟩) hS.2.2 dX1_isAllowed_59
                · refine lv_iconst (v := 1) hx hb dX1_isAllowed_54 (by decide) ?_
                  refine lv_goto (tgt := 59) hx hb dX1_isAllowed_55 (by decide) ?_
                  exact W.zret (v := 1) (ty := .boolean) hx hb hr (rfl) (fun t ht hW => ⟨1, rfl, by first | (simp only [mAll, mA2, mA3, if_neg c_1, if_neg c_2, if_neg c_3, if_neg c_4, if_neg c_11, if_pos c_12, if_neg c_13, if_neg c_14, bI_t, bI_f]; done) | (simp only [mAll, mA2, mA3, if_neg c_1, if_neg c_2, if_neg c_3, if_neg c_4, if_neg c_11, if_pos c_12, if_neg c_13, if_neg c_14, bI_t, bI_f]; rfl), ht⟩) hS.2.2 dX1_isAllowed_59
            · refine lv_iload_n hx hb dX1_isAllowed_36 rfl (lv_at hl 0 rfl) ?_
              refine lv_ldc (own := RX1) (v := 65534) hx hb hown (hts (.constant RX1 48 65534) (by decide +kernel)) dX1_isAllowed_37 ?_
              refine lv_icmp_lt (tgt := 54) hx hb dX1_isAllowed_39 (by decide) (fun c_15 => ?_) (fun c_15 => ?_)
              · refine lv_iconst (v := 1) hx hb dX1_isAllowed_54 (by decide) ?_
                refine lv_goto (tgt := 59) hx hb dX1_isAllowed_55 (by decide) ?_
                exact W.zret (v := 1) (ty := .boolean) hx hb hr (rfl) (fun t ht hW => ⟨1, rfl, by first | (simp only [mAll, mA2, mA3, if_neg c_1, if_neg c_2, if_neg c_3, if_neg c_4, if_neg c_11, if_neg c_12, if_pos c_15, bI_t, bI_f]; done) | (simp only [mAll, mA2, mA3, if_neg c_1, if_neg c_2, if_neg c_3, if_neg c_4, if_neg c_11, if_neg c_12, if_pos c_15, bI_t, bI_f]; rfl), ht⟩) hS.2.2 dX1_isAllowed_59
              · refine lv_iload_n hx hb dX1_isAllowed_42 rfl (lv_at hl 0 rfl) ?_
                refine lv_ldc (own := RX1) (v := 65536) hx hb hown (hts (.constant RX1 49 65536) (by decide +kernel)) dX1_isAllowed_43 ?_
                refine lv_icmp_lt (tgt := 58) hx hb dX1_isAllowed_45 (by decide) (fun c_16 => ?_) (fun c_16 => ?_)
                · refine lv_iconst (v := 0) hx hb dX1_isAllowed_58 (by decide) ?_
                  exact W.zret (v := 0) (ty := .boolean) hx hb hr (rfl) (fun t ht hW => ⟨0, rfl, by first | (simp only [mAll, mA2, mA3, if_neg c_1, if_neg c_2, if_neg c_3, if_neg c_4, if_neg c_11, if_neg c_12, if_neg c_15, if_pos c_16, bI_t, bI_f]; done) | (simp only [mAll, mA2, mA3, if_neg c_1, if_neg c_2, if_neg c_3, if_neg c_4, if_neg c_11, if_neg c_12, if_neg c_15, if_pos c_16, bI_t, bI_f]; rfl), ht⟩) hS.2.2 dX1_isAllowed_59
                · refine lv_iload_n hx hb dX1_isAllowed_48 rfl (lv_at hl 0 rfl) ?_
                  refine lv_ldc (own := RX1) (v := 1114112) hx hb hown (hts (.constant RX1 27 1114112) (by decide +kernel)) dX1_isAllowed_49 ?_
                  refine lv_icmp_ge (tgt := 58) hx hb dX1_isAllowed_51 (by decide) (fun c_17 => ?_) (fun c_17 => ?_)
                  · refine lv_iconst (v := 0) hx hb dX1_isAllowed_58 (by decide) ?_
                    exact W.zret (v := 0) (ty := .boolean) hx hb hr (rfl) (fun t ht hW => ⟨0, rfl, by first | (simp only [mAll, mA2, mA3, if_neg c_1, if_neg c_2, if_neg c_3, if_neg c_4, if_neg c_11, if_neg c_12, if_neg c_15, if_neg c_16, if_pos c_17, bI_t, bI_f]; done) | (simp only [mAll, mA2, mA3, if_neg c_1, if_neg c_2, if_neg c_3, if_neg c_4, if_neg c_11, if_neg c_12, if_neg c_15, if_neg c_16, if_pos c_17, bI_t, bI_f]; rfl), ht⟩) hS.2.2 dX1_isAllowed_59
                  · refine lv_iconst (v := 1) hx hb dX1_isAllowed_54 (by decide) ?_
                    refine lv_goto (tgt := 59) hx hb dX1_isAllowed_55 (by decide) ?_
                    exact W.zret (v := 1) (ty := .boolean) hx hb hr (rfl) (fun t ht hW => ⟨1, rfl, by first | (simp only [mAll, mA2, mA3, if_neg c_1, if_neg c_2, if_neg c_3, if_neg c_4, if_neg c_11, if_neg c_12, if_neg c_15, if_neg c_16, if_neg c_17, bI_t, bI_f]; done) | (simp only [mAll, mA2, mA3, if_neg c_1, if_neg c_2, if_neg c_3, if_neg c_4, if_neg c_11, if_neg c_12, if_neg c_15, if_neg c_16, if_neg c_17, bI_t, bI_f]; rfl), ht⟩) hS.2.2 dX1_isAllowed_59
set_option maxHeartbeats 4000000 in
set_option maxRecDepth 100000 in
theorem c_X1_isBlank (l : Launch) (v : Int32) : Met l yX1_isBlank wsX1_isBlank ({ frames := 0, cells := 0, slots := 0, locals := 0 }) (va_Pc [.int v] (fun U => True)) (vp_Si (fun r => r = bI (mBlank v))) 0 0 (fun _ => False) := by
  refine Met.ofW (cc := cX1_isBlank) (maxL := 1) (ret := (some .boolean)) (by decide) rfl ?_
  intro p e s m args below meth c s₁ B hml hv
  obtain ⟨rfl, -⟩ := hv
  have hx := B.exec
  have hb := B.bytes
  have hr := B.returns
  have hts := atoms_spec (ws := wsX1_isBlank) B.pre
  have hown : s.vm.findClass RX1 = some m.cls := findClass_of_methodNamed B.named
  have hS : va_S (fun _ => False) s.heap s.heap [] := va_S.rf
  have hl := lv_entry ([.int v]) (n := 1) (Nat.le_of_ble_eq_true rfl)
  rw [lg_entry_eq]
  generalize (lg_sl ([.int v]) ++ List.replicate (1 - (lg_sl ([.int v])).length) Slot.unset).toArray = ls at hl ⊢
  have hl : lv_has ls 1 [(0, .int v)] := hl
  refine lv_iload_n hx hb dX1_isBlank_0 rfl (lv_at hl 0 rfl) ?_
  refine lv_bipush (v := 32) hx hb dX1_isBlank_1 (by decide) ?_
  refine lv_icmp_eq (tgt := 24) hx hb dX1_isBlank_3 (by decide) (fun c_1 => ?_) (fun c_1 => ?_)
  · refine lv_iconst (v := 1) hx hb dX1_isBlank_24 (by decide) ?_
    refine lv_goto (tgt := 29) hx hb dX1_isBlank_25 (by decide) ?_
    exact W.zret (v := 1) (ty := .boolean) hx hb hr (rfl) (fun t ht hW => ⟨1, rfl, by first | (simp only [mBlank, if_pos c_1, bI_t, bI_f]; done) | (simp only [mBlank, if_pos c_1, bI_t, bI_f]; rfl), ht⟩) hS.2.2 dX1_isBlank_29
  · refine lv_iload_n hx hb dX1_isBlank_6 rfl (lv_at hl 0 rfl) ?_
    refine lv_bipush (v := 9) hx hb dX1_isBlank_7 (by decide) ?_
    refine lv_icmp_eq (tgt := 24) hx hb dX1_isBlank_9 (by decide) (fun c_2 => ?_) (fun c_2 => ?_)
    · refine lv_iconst (v := 1) hx hb dX1_isBlank_24 (by decide) ?_
      refine lv_goto (tgt := 29) hx hb dX1_isBlank_25 (by decide) ?_
      exact W.zret (v := 1) (ty := .boolean) hx hb hr (rfl) (fun t ht hW => ⟨1, rfl, by first | (simp only [mBlank, if_neg c_1, if_pos c_2, bI_t, bI_f]; done) | (simp only [mBlank, if_neg c_1, if_pos c_2, bI_t, bI_f]; rfl), ht⟩) hS.2.2 dX1_isBlank_29
    · refine lv_iload_n hx hb dX1_isBlank_12 rfl (lv_at hl 0 rfl) ?_
      refine lv_bipush (v := 13) hx hb dX1_isBlank_13 (by decide) ?_
      refine lv_icmp_eq (tgt := 24) hx hb dX1_isBlank_15 (by decide) (fun c_3 => ?_) (fun c_3 => ?_)
      · refine lv_iconst (v := 1) hx hb dX1_isBlank_24 (by decide) ?_
        refine lv_goto (tgt := 29) hx hb dX1_isBlank_25 (by decide) ?_
        exact W.zret (v := 1) (ty := .boolean) hx hb hr (rfl) (fun t ht hW => ⟨1, rfl, by first | (simp only [mBlank, if_neg c_1, if_neg c_2, if_pos c_3, bI_t, bI_f]; done) | (simp only [mBlank, if_neg c_1, if_neg c_2, if_pos c_3, bI_t, bI_f]; rfl), ht⟩) hS.2.2 dX1_isBlank_29
      · refine lv_iload_n hx hb dX1_isBlank_18 rfl (lv_at hl 0 rfl) ?_
        refine lv_bipush (v := 10) hx hb dX1_isBlank_19 (by decide) ?_
        refine lv_icmp_ne (tgt := 28) hx hb dX1_isBlank_21 (by decide) (fun c_4 => ?_) (fun c_4 => ?_)
        · refine lv_iconst (v := 0) hx hb dX1_isBlank_28 (by decide) ?_
          exact W.zret (v := 0) (ty := .boolean) hx hb hr (rfl) (fun t ht hW => ⟨0, rfl, by first | (simp only [mBlank, if_neg c_1, if_neg c_2, if_neg c_3, if_neg c_4, bI_t, bI_f]; done) | (simp only [mBlank, if_neg c_1, if_neg c_2, if_neg c_3, if_neg c_4, bI_t, bI_f]; rfl), ht⟩) hS.2.2 dX1_isBlank_29
        · refine lv_iconst (v := 1) hx hb dX1_isBlank_24 (by decide) ?_
          refine lv_goto (tgt := 29) hx hb dX1_isBlank_25 (by decide) ?_
          exact W.zret (v := 1) (ty := .boolean) hx hb hr (rfl) (fun t ht hW => ⟨1, rfl, by first | (simp only [mBlank, if_neg c_1, if_neg c_2, if_neg c_3, if_pos c_4, bI_t, bI_f]; done) | (simp only [mBlank, if_neg c_1, if_neg c_2, if_neg c_3, if_pos c_4, bI_t, bI_f]; rfl), ht⟩) hS.2.2 dX1_isBlank_29
set_option maxHeartbeats 4000000 in
set_option maxRecDepth 100000 in
theorem c_X1_within (l : Launch) (v a b : Int32) : Met l yX1_within wsX1_within ({ frames := 0, cells := 0, slots := 0, locals := 0 }) (va_Pc [.int v, .int a, .int b] (fun U => True)) (vp_Si (fun r => r = bI (mWith v a b))) 0 0 (fun _ => False) := by
  refine Met.ofW (cc := cX1_within) (maxL := 3) (ret := (some .boolean)) (by decide) rfl ?_
  intro p e s m args below meth c s₁ B hml hv
  obtain ⟨rfl, -⟩ := hv
  have hx := B.exec
  have hb := B.bytes
  have hr := B.returns
  have hts := atoms_spec (ws := wsX1_within) B.pre
  have hown : s.vm.findClass RX1 = some m.cls := findClass_of_methodNamed B.named
  have hS : va_S (fun _ => False) s.heap s.heap [] := va_S.rf
  have hl := lv_entry ([.int v, .int a, .int b]) (n := 3) (Nat.le_of_ble_eq_true rfl)
  rw [lg_entry_eq]
  generalize (lg_sl ([.int v, .int a, .int b]) ++ List.replicate (3 - (lg_sl ([.int v, .int a, .int b])).length) Slot.unset).toArray = ls at hl ⊢
  have hl : lv_has ls 3 [(0, .int v), (1, .int a), (2, .int b)] := hl
  refine lv_iload_n hx hb dX1_within_0 rfl (lv_at hl 0 rfl) ?_
  refine lv_iload_n hx hb dX1_within_1 rfl (lv_at hl 1 rfl) ?_
  refine lv_icmp_lt (tgt := 14) hx hb dX1_within_2 (by decide) (fun c_1 => ?_) (fun c_1 => ?_)
  · refine lv_iconst (v := 0) hx hb dX1_within_14 (by decide) ?_
    exact W.zret (v := 0) (ty := .boolean) hx hb hr (rfl) (fun t ht hW => ⟨0, rfl, by first | (simp only [mWith, if_pos c_1, bI_t, bI_f]; done) | (simp only [mWith, if_pos c_1, bI_t, bI_f]; rfl), ht⟩) hS.2.2 dX1_within_15
  · refine lv_iload_n hx hb dX1_within_5 rfl (lv_at hl 0 rfl) ?_
    refine lv_iload_n hx hb dX1_within_6 rfl (lv_at hl 2 rfl) ?_
    refine lv_icmp_gt (tgt := 14) hx hb dX1_within_7 (by decide) (fun c_2 => ?_) (fun c_2 => ?_)
    · refine lv_iconst (v := 0) hx hb dX1_within_14 (by decide) ?_
      exact W.zret (v := 0) (ty := .boolean) hx hb hr (rfl) (fun t ht hW => ⟨0, rfl, by first | (simp only [mWith, if_neg c_1, if_pos c_2, bI_t, bI_f]; done) | (simp only [mWith, if_neg c_1, if_pos c_2, bI_t, bI_f]; rfl), ht⟩) hS.2.2 dX1_within_15
    · refine lv_iconst (v := 1) hx hb dX1_within_10 (by decide) ?_
      refine lv_goto (tgt := 15) hx hb dX1_within_11 (by decide) ?_
      exact W.zret (v := 1) (ty := .boolean) hx hb hr (rfl) (fun t ht hW => ⟨1, rfl, by first | (simp only [mWith, if_neg c_1, if_neg c_2, bI_t, bI_f]; done) | (simp only [mWith, if_neg c_1, if_neg c_2, bI_t, bI_f]; rfl), ht⟩) hS.2.2 dX1_within_15
set_option maxHeartbeats 4000000 in
set_option maxRecDepth 100000 in
theorem c_X1_isBegin (l : Launch) (v : Int32) : Met l yX1_isBegin wsX1_isBegin ({ frames := 1, cells := 0, slots := 0, locals := 22 }) (va_Pc [.int v] (fun U => True)) (vp_Si (fun r => r = bI (mBeg v))) 0 0 (fun _ => False) := by
  refine Met.ofW (cc := cX1_isBegin) (maxL := 3) (ret := (some .boolean)) (by decide) rfl ?_
  intro p e s m args below meth c s₁ B hml hv
  obtain ⟨rfl, -⟩ := hv
  have hx := B.exec
  have hb := B.bytes
  have hr := B.returns
  have hts := atoms_spec (ws := wsX1_isBegin) B.pre
  have hown : s.vm.findClass RX1 = some m.cls := findClass_of_methodNamed B.named
  have hS : va_S (fun _ => False) s.heap s.heap [] := va_S.rf
  have hl := lv_entry ([.int v]) (n := 3) (Nat.le_of_ble_eq_true rfl)
  rw [lg_entry_eq]
  generalize (lg_sl ([.int v]) ++ List.replicate (3 - (lg_sl ([.int v])).length) Slot.unset).toArray = ls at hl ⊢
  have hl : lv_has ls 3 [(0, .int v)] := hl
  have j150 : ∀ ls : Array Slot, lv_has ls 3 [(2, .int (bI (mMid v))), (1, .int (bI (mLow v))), (0, .int v)] → W p l e (headSpec wsX1_isBegin ({ frames := 1, cells := 0, slots := 0, locals := 22 })).room s m ([.int v] : List Value).toArray below meth c s.heap [] 0 0 (MQ below (vp_Si (fun r => r = bI (mBeg v))) ([.int v] : List Value).toArray s 0 0 (fun _ => False)) (F0 m 150 ls []) := by
    intro ls hl
    refine lv_iload_n hx hb dX1_isBegin_150 rfl (lv_at hl 1 rfl) ?_
    refine lv_if_ne (tgt := 203) hx hb dX1_isBegin_151 (by decide) (fun c_1 => ?_) (fun c_1 => ?_)
    · have c_1 := bI_n0 c_1
      refine lv_iconst (v := 1) hx hb dX1_isBegin_203 (by decide) ?_
      refine lv_goto (tgt := 208) hx hb dX1_isBegin_204 (by decide) ?_
      exact W.zret (v := 1) (ty := .boolean) hx hb hr (rfl) (fun t ht hW => ⟨1, rfl, by first | (simp only [mBeg, if_pos c_1, bI_t, bI_f]; done) | (simp only [mBeg, if_pos c_1, bI_t, bI_f]; rfl), ht⟩) hS.2.2 dX1_isBegin_208
    · have c_1 := bI_0 c_1
      refine lv_iload_n hx hb dX1_isBegin_154 rfl (lv_at hl 0 rfl) ?_
      refine lv_if_ne (tgt := 203) hx hb dX1_isBegin_155 (by decide) (fun c_2 => ?_) (fun c_2 => ?_)
      · have c_2 := bI_n0 c_2
        refine lv_iconst (v := 1) hx hb dX1_isBegin_203 (by decide) ?_
        refine lv_goto (tgt := 208) hx hb dX1_isBegin_204 (by decide) ?_
        exact W.zret (v := 1) (ty := .boolean) hx hb hr (rfl) (fun t ht hW => ⟨1, rfl, by first | (simp only [mBeg, if_neg c_1, if_pos c_2, bI_t, bI_f]; done) | (simp only [mBeg, if_neg c_1, if_pos c_2, bI_t, bI_f]; rfl), ht⟩) hS.2.2 dX1_isBegin_208
      · have c_2 := bI_0 c_2
        refine lv_iload_n hx hb dX1_isBegin_158 rfl (lv_at hl 2 rfl) ?_
        refine lv_sipush (v := 12289) hx hb dX1_isBegin_159 (by decide) ?_
        refine lv_ldc (own := RX1) (v := 55295) hx hb hown (hts (.constant RX1 78 55295) (by decide +kernel)) dX1_isBegin_162 ?_
        refine vp_callSi (W.runS (As := [.int v, .int 12289, .int 55295]) (rest := []) ⟨hx, hb, hml, hown, hts⟩ (c_X1_within l v 12289 55295) (va_cwS 3 hts gX1_isBegin_X1_within rfl rfl rfl (by decide +kernel) ⟨Nat.le_of_ble_eq_true rfl, Nat.le_of_ble_eq_true rfl⟩) ⟨fun _ _ _ _ q => q, fun U hU hW => ⟨rfl, trivial⟩⟩ rfl rfl hl.1 rfl (lv_room (Nat.le_of_ble_eq_true rfl)) dX1_isBegin_164 ⟨Nat.le_of_ble_eq_true rfl, Nat.le_of_ble_eq_true rfl⟩) (fun r_3 er_3 => ?_)
        obtain rfl : r_3 = bI (mWith v 12289 55295) := er_3
        refine lv_if_ne (tgt := 203) hx hb dX1_isBegin_167 (by decide) (fun c_4 => ?_) (fun c_4 => ?_)
        · have c_4 := bI_n0 c_4
          refine lv_iconst (v := 1) hx hb dX1_isBegin_203 (by decide) ?_
          refine lv_goto (tgt := 208) hx hb dX1_isBegin_204 (by decide) ?_
          exact W.zret (v := 1) (ty := .boolean) hx hb hr (rfl) (fun t ht hW => ⟨1, rfl, by first | (simp only [mBeg, if_neg c_1, if_neg c_2, if_pos c_4, bI_t, bI_f]; done) | (simp only [mBeg, if_neg c_1, if_neg c_2, if_pos c_4, bI_t, bI_f]; rfl), ht⟩) hS.2.2 dX1_isBegin_208
        · have c_4 := bI_0 c_4
          refine lv_iload_n hx hb dX1_isBegin_170 rfl (lv_at hl 2 rfl) ?_
          refine lv_ldc (own := RX1) (v := 63744) hx hb hown (hts (.constant RX1 79 63744) (by decide +kernel)) dX1_isBegin_171 ?_
          refine lv_ldc (own := RX1) (v := 64975) hx hb hown (hts (.constant RX1 80 64975) (by decide +kernel)) dX1_isBegin_173 ?_
          refine vp_callSi (W.runS (As := [.int v, .int 63744, .int 64975]) (rest := []) ⟨hx, hb, hml, hown, hts⟩ (c_X1_within l v 63744 64975) (va_cwS 3 hts gX1_isBegin_X1_within rfl rfl rfl (by decide +kernel) ⟨Nat.le_of_ble_eq_true rfl, Nat.le_of_ble_eq_true rfl⟩) ⟨fun _ _ _ _ q => q, fun U hU hW => ⟨rfl, trivial⟩⟩ rfl rfl hl.1 rfl (lv_room (Nat.le_of_ble_eq_true rfl)) dX1_isBegin_175 ⟨Nat.le_of_ble_eq_true rfl, Nat.le_of_ble_eq_true rfl⟩) (fun r_5 er_5 => ?_)
          obtain rfl : r_5 = bI (mWith v 63744 64975) := er_5
          refine lv_if_ne (tgt := 203) hx hb dX1_isBegin_178 (by decide) (fun c_6 => ?_) (fun c_6 => ?_)
          · have c_6 := bI_n0 c_6
            refine lv_iconst (v := 1) hx hb dX1_isBegin_203 (by decide) ?_
            refine lv_goto (tgt := 208) hx hb dX1_isBegin_204 (by decide) ?_
            exact W.zret (v := 1) (ty := .boolean) hx hb hr (rfl) (fun t ht hW => ⟨1, rfl, by first | (simp only [mBeg, if_neg c_1, if_neg c_2, if_neg c_4, if_pos c_6, bI_t, bI_f]; done) | (simp only [mBeg, if_neg c_1, if_neg c_2, if_neg c_4, if_pos c_6, bI_t, bI_f]; rfl), ht⟩) hS.2.2 dX1_isBegin_208
          · have c_6 := bI_0 c_6
            refine lv_iload_n hx hb dX1_isBegin_181 rfl (lv_at hl 2 rfl) ?_
            refine lv_ldc (own := RX1) (v := 65008) hx hb hown (hts (.constant RX1 81 65008) (by decide +kernel)) dX1_isBegin_182 ?_
            refine lv_ldc (own := RX1) (v := 65533) hx hb hown (hts (.constant RX1 82 65533) (by decide +kernel)) dX1_isBegin_184 ?_
            refine vp_callSi (W.runS (As := [.int v, .int 65008, .int 65533]) (rest := []) ⟨hx, hb, hml, hown, hts⟩ (c_X1_within l v 65008 65533) (va_cwS 3 hts gX1_isBegin_X1_within rfl rfl rfl (by decide +kernel) ⟨Nat.le_of_ble_eq_true rfl, Nat.le_of_ble_eq_true rfl⟩) ⟨fun _ _ _ _ q => q, fun U hU hW => ⟨rfl, trivial⟩⟩ rfl rfl hl.1 rfl (lv_room (Nat.le_of_ble_eq_true rfl)) dX1_isBegin_186 ⟨Nat.le_of_ble_eq_true rfl, Nat.le_of_ble_eq_true rfl⟩) (fun r_7 er_7 => ?_)
            obtain rfl : r_7 = bI (mWith v 65008 65533) := er_7
            refine lv_if_ne (tgt := 203) hx hb dX1_isBegin_189 (by decide) (fun c_8 => ?_) (fun c_8 => ?_)
            · have c_8 := bI_n0 c_8
              refine lv_iconst (v := 1) hx hb dX1_isBegin_203 (by decide) ?_
              refine lv_goto (tgt := 208) hx hb dX1_isBegin_204 (by decide) ?_
              exact W.zret (v := 1) (ty := .boolean) hx hb hr (rfl) (fun t ht hW => ⟨1, rfl, by first | (simp only [mBeg, if_neg c_1, if_neg c_2, if_neg c_4, if_neg c_6, if_pos c_8, bI_t, bI_f]; done) | (simp only [mBeg, if_neg c_1, if_neg c_2, if_neg c_4, if_neg c_6, if_pos c_8, bI_t, bI_f]; rfl), ht⟩) hS.2.2 dX1_isBegin_208
            · have c_8 := bI_0 c_8
              refine lv_iload_n hx hb dX1_isBegin_192 rfl (lv_at hl 2 rfl) ?_
              refine lv_ldc (own := RX1) (v := 65536) hx hb hown (hts (.constant RX1 49 65536) (by decide +kernel)) dX1_isBegin_193 ?_
              refine lv_ldc (own := RX1) (v := 983039) hx hb hown (hts (.constant RX1 83 983039) (by decide +kernel)) dX1_isBegin_195 ?_
              refine vp_callSi (W.runS (As := [.int v, .int 65536, .int 983039]) (rest := []) ⟨hx, hb, hml, hown, hts⟩ (c_X1_within l v 65536 983039) (va_cwS 3 hts gX1_isBegin_X1_within rfl rfl rfl (by decide +kernel) ⟨Nat.le_of_ble_eq_true rfl, Nat.le_of_ble_eq_true rfl⟩) ⟨fun _ _ _ _ q => q, fun U hU hW => ⟨rfl, trivial⟩⟩ rfl rfl hl.1 rfl (lv_room (Nat.le_of_ble_eq_true rfl)) dX1_isBegin_197 ⟨Nat.le_of_ble_eq_true rfl, Nat.le_of_ble_eq_true rfl⟩) (fun r_9 er_9 => ?_)
              obtain rfl : r_9 = bI (mWith v 65536 983039) := er_9
              refine lv_if_eq (tgt := 207) hx hb dX1_isBegin_200 (by decide) (fun c_10 => ?_) (fun c_10 => ?_)
              · have c_10 := bI_0 c_10
                refine lv_iconst (v := 0) hx hb dX1_isBegin_207 (by decide) ?_
                exact W.zret (v := 0) (ty := .boolean) hx hb hr (rfl) (fun t ht hW => ⟨0, rfl, by first | (simp only [mBeg, if_neg c_1, if_neg c_2, if_neg c_4, if_neg c_6, if_neg c_8, if_neg c_10, bI_t, bI_f]; done) | (simp only [mBeg, if_neg c_1, if_neg c_2, if_neg c_4, if_neg c_6, if_neg c_8, if_neg c_10, bI_t, bI_f]; rfl), ht⟩) hS.2.2 dX1_isBegin_208
              · have c_10 := bI_n0 c_10
                refine lv_iconst (v := 1) hx hb dX1_isBegin_203 (by decide) ?_
                refine lv_goto (tgt := 208) hx hb dX1_isBegin_204 (by decide) ?_
                exact W.zret (v := 1) (ty := .boolean) hx hb hr (rfl) (fun t ht hW => ⟨1, rfl, by first | (simp only [mBeg, if_neg c_1, if_neg c_2, if_neg c_4, if_neg c_6, if_neg c_8, if_pos c_10, bI_t, bI_f]; done) | (simp only [mBeg, if_neg c_1, if_neg c_2, if_neg c_4, if_neg c_6, if_neg c_8, if_pos c_10, bI_t, bI_f]; rfl), ht⟩) hS.2.2 dX1_isBegin_208
  have j79 : ∀ ls : Array Slot, lv_has ls 3 [(1, .int (bI (mLow v))), (0, .int v)] → W p l e (headSpec wsX1_isBegin ({ frames := 1, cells := 0, slots := 0, locals := 22 })).room s m ([.int v] : List Value).toArray below meth c s.heap [] 0 0 (MQ below (vp_Si (fun r => r = bI (mBeg v))) ([.int v] : List Value).toArray s 0 0 (fun _ => False)) (F0 m 79 ls []) := by
    intro ls hl
    refine lv_iload_n hx hb dX1_isBegin_79 rfl (lv_at hl 1 rfl) ?_
    refine lv_sipush (v := 880) hx hb dX1_isBegin_80 (by decide) ?_
    refine lv_sipush (v := 893) hx hb dX1_isBegin_83 (by decide) ?_
    refine vp_callSi (W.runS (As := [.int v, .int 880, .int 893]) (rest := []) ⟨hx, hb, hml, hown, hts⟩ (c_X1_within l v 880 893) (va_cwS 3 hts gX1_isBegin_X1_within rfl rfl rfl (by decide +kernel) ⟨Nat.le_of_ble_eq_true rfl, Nat.le_of_ble_eq_true rfl⟩) ⟨fun _ _ _ _ q => q, fun U hU hW => ⟨rfl, trivial⟩⟩ rfl rfl hl.1 rfl (lv_room (Nat.le_of_ble_eq_true rfl)) dX1_isBegin_86 ⟨Nat.le_of_ble_eq_true rfl, Nat.le_of_ble_eq_true rfl⟩) (fun r_11 er_11 => ?_)
    obtain rfl : r_11 = bI (mWith v 880 893) := er_11
    refine lv_if_ne (tgt := 144) hx hb dX1_isBegin_89 (by decide) (fun c_12 => ?_) (fun c_12 => ?_)
    · have c_12 := bI_n0 c_12
      refine lv_iconst (v := 1) hx hb dX1_isBegin_144 (by decide) ?_
      refine lv_goto (tgt := 149) hx hb dX1_isBegin_145 (by decide) ?_
      refine lv_istore_n (lv' := [(2, .int 1), (1, .int (bI (mLow v))), (0, .int v)]) hx hb dX1_isBegin_149 rfl hl (by decide) rfl (fun ls hl => ?_)
      have e9 : mMid v = true := by simp only [mMid, if_pos c_12]
      refine j150 ls ?_
      rw [e9]
      exact hl
    · have c_12 := bI_0 c_12
      refine lv_iload_n hx hb dX1_isBegin_92 rfl (lv_at hl 1 rfl) ?_
      refine lv_sipush (v := 895) hx hb dX1_isBegin_93 (by decide) ?_
      refine lv_sipush (v := 8191) hx hb dX1_isBegin_96 (by decide) ?_
      refine vp_callSi (W.runS (As := [.int v, .int 895, .int 8191]) (rest := []) ⟨hx, hb, hml, hown, hts⟩ (c_X1_within l v 895 8191) (va_cwS 3 hts gX1_isBegin_X1_within rfl rfl rfl (by decide +kernel) ⟨Nat.le_of_ble_eq_true rfl, Nat.le_of_ble_eq_true rfl⟩) ⟨fun _ _ _ _ q => q, fun U hU hW => ⟨rfl, trivial⟩⟩ rfl rfl hl.1 rfl (lv_room (Nat.le_of_ble_eq_true rfl)) dX1_isBegin_99 ⟨Nat.le_of_ble_eq_true rfl, Nat.le_of_ble_eq_true rfl⟩) (fun r_13 er_13 => ?_)
      obtain rfl : r_13 = bI (mWith v 895 8191) := er_13
      refine lv_if_ne (tgt := 144) hx hb dX1_isBegin_102 (by decide) (fun c_14 => ?_) (fun c_14 => ?_)
      · have c_14 := bI_n0 c_14
        refine lv_iconst (v := 1) hx hb dX1_isBegin_144 (by decide) ?_
        refine lv_goto (tgt := 149) hx hb dX1_isBegin_145 (by decide) ?_
        refine lv_istore_n (lv' := [(2, .int 1), (1, .int (bI (mLow v))), (0, .int v)]) hx hb dX1_isBegin_149 rfl hl (by decide) rfl (fun ls hl => ?_)
        have e9 : mMid v = true := by simp only [mMid, if_neg c_12, if_pos c_14]
        refine j150 ls ?_
        rw [e9]
        exact hl
      · have c_14 := bI_0 c_14
        refine lv_iload_n hx hb dX1_isBegin_105 rfl (lv_at hl 1 rfl) ?_
        refine lv_sipush (v := 8204) hx hb dX1_isBegin_106 (by decide) ?_
        refine lv_sipush (v := 8205) hx hb dX1_isBegin_109 (by decide) ?_
        refine vp_callSi (W.runS (As := [.int v, .int 8204, .int 8205]) (rest := []) ⟨hx, hb, hml, hown, hts⟩ (c_X1_within l v 8204 8205) (va_cwS 3 hts gX1_isBegin_X1_within rfl rfl rfl (by decide +kernel) ⟨Nat.le_of_ble_eq_true rfl, Nat.le_of_ble_eq_true rfl⟩) ⟨fun _ _ _ _ q => q, fun U hU hW => ⟨rfl, trivial⟩⟩ rfl rfl hl.1 rfl (lv_room (Nat.le_of_ble_eq_true rfl)) dX1_isBegin_112 ⟨Nat.le_of_ble_eq_true rfl, Nat.le_of_ble_eq_true rfl⟩) (fun r_15 er_15 => ?_)
        obtain rfl : r_15 = bI (mWith v 8204 8205) := er_15
        refine lv_if_ne (tgt := 144) hx hb dX1_isBegin_115 (by decide) (fun c_16 => ?_) (fun c_16 => ?_)
        · have c_16 := bI_n0 c_16
          refine lv_iconst (v := 1) hx hb dX1_isBegin_144 (by decide) ?_
          refine lv_goto (tgt := 149) hx hb dX1_isBegin_145 (by decide) ?_
          refine lv_istore_n (lv' := [(2, .int 1), (1, .int (bI (mLow v))), (0, .int v)]) hx hb dX1_isBegin_149 rfl hl (by decide) rfl (fun ls hl => ?_)
          have e9 : mMid v = true := by simp only [mMid, if_neg c_12, if_neg c_14, if_pos c_16]
          refine j150 ls ?_
          rw [e9]
          exact hl
        · have c_16 := bI_0 c_16
          refine lv_iload_n hx hb dX1_isBegin_118 rfl (lv_at hl 1 rfl) ?_
          refine lv_sipush (v := 8304) hx hb dX1_isBegin_119 (by decide) ?_
          refine lv_sipush (v := 8591) hx hb dX1_isBegin_122 (by decide) ?_
          refine vp_callSi (W.runS (As := [.int v, .int 8304, .int 8591]) (rest := []) ⟨hx, hb, hml, hown, hts⟩ (c_X1_within l v 8304 8591) (va_cwS 3 hts gX1_isBegin_X1_within rfl rfl rfl (by decide +kernel) ⟨Nat.le_of_ble_eq_true rfl, Nat.le_of_ble_eq_true rfl⟩) ⟨fun _ _ _ _ q => q, fun U hU hW => ⟨rfl, trivial⟩⟩ rfl rfl hl.1 rfl (lv_room (Nat.le_of_ble_eq_true rfl)) dX1_isBegin_125 ⟨Nat.le_of_ble_eq_true rfl, Nat.le_of_ble_eq_true rfl⟩) (fun r_17 er_17 => ?_)
          obtain rfl : r_17 = bI (mWith v 8304 8591) := er_17
          refine lv_if_ne (tgt := 144) hx hb dX1_isBegin_128 (by decide) (fun c_18 => ?_) (fun c_18 => ?_)
          · have c_18 := bI_n0 c_18
            refine lv_iconst (v := 1) hx hb dX1_isBegin_144 (by decide) ?_
            refine lv_goto (tgt := 149) hx hb dX1_isBegin_145 (by decide) ?_
            refine lv_istore_n (lv' := [(2, .int 1), (1, .int (bI (mLow v))), (0, .int v)]) hx hb dX1_isBegin_149 rfl hl (by decide) rfl (fun ls hl => ?_)
            have e9 : mMid v = true := by simp only [mMid, if_neg c_12, if_neg c_14, if_neg c_16, if_pos c_18]
            refine j150 ls ?_
            rw [e9]
            exact hl
          · have c_18 := bI_0 c_18
            refine lv_iload_n hx hb dX1_isBegin_131 rfl (lv_at hl 1 rfl) ?_
            refine lv_sipush (v := 11264) hx hb dX1_isBegin_132 (by decide) ?_
            refine lv_sipush (v := 12271) hx hb dX1_isBegin_135 (by decide) ?_
            refine vp_callSi (W.runS (As := [.int v, .int 11264, .int 12271]) (rest := []) ⟨hx, hb, hml, hown, hts⟩ (c_X1_within l v 11264 12271) (va_cwS 3 hts gX1_isBegin_X1_within rfl rfl rfl (by decide +kernel) ⟨Nat.le_of_ble_eq_true rfl, Nat.le_of_ble_eq_true rfl⟩) ⟨fun _ _ _ _ q => q, fun U hU hW => ⟨rfl, trivial⟩⟩ rfl rfl hl.1 rfl (lv_room (Nat.le_of_ble_eq_true rfl)) dX1_isBegin_138 ⟨Nat.le_of_ble_eq_true rfl, Nat.le_of_ble_eq_true rfl⟩) (fun r_19 er_19 => ?_)
            obtain rfl : r_19 = bI (mWith v 11264 12271) := er_19
            refine lv_if_eq (tgt := 148) hx hb dX1_isBegin_141 (by decide) (fun c_20 => ?_) (fun c_20 => ?_)
            · have c_20 := bI_0 c_20
              refine lv_iconst (v := 0) hx hb dX1_isBegin_148 (by decide) ?_
              refine lv_istore_n (lv' := [(2, .int 0), (1, .int (bI (mLow v))), (0, .int v)]) hx hb dX1_isBegin_149 rfl hl (by decide) rfl (fun ls hl => ?_)
              have e9 : mMid v = false := by simp only [mMid, if_neg c_12, if_neg c_14, if_neg c_16, if_neg c_18, if_neg c_20]
              refine j150 ls ?_
              rw [e9]
              exact hl
            · have c_20 := bI_n0 c_20
              refine lv_iconst (v := 1) hx hb dX1_isBegin_144 (by decide) ?_
              refine lv_goto (tgt := 149) hx hb dX1_isBegin_145 (by decide) ?_
              refine lv_istore_n (lv' := [(2, .int 1), (1, .int (bI (mLow v))), (0, .int v)]) hx hb dX1_isBegin_149 rfl hl (by decide) rfl (fun ls hl => ?_)
              have e9 : mMid v = true := by simp only [mMid, if_neg c_12, if_neg c_14, if_neg c_16, if_neg c_18, if_pos c_20]
              refine j150 ls ?_
              rw [e9]
              exact hl
  refine lv_iload_n hx hb dX1_isBegin_0 rfl (lv_at hl 0 rfl) ?_
  refine lv_bipush (v := 58) hx hb dX1_isBegin_1 (by decide) ?_
  refine lv_icmp_eq (tgt := 73) hx hb dX1_isBegin_3 (by decide) (fun c_21 => ?_) (fun c_21 => ?_)
  · refine lv_iconst (v := 1) hx hb dX1_isBegin_73 (by decide) ?_
    refine lv_goto (tgt := 78) hx hb dX1_isBegin_74 (by decide) ?_
    refine lv_istore_n (lv' := [(1, .int 1), (0, .int v)]) hx hb dX1_isBegin_78 rfl hl (by decide) rfl (fun ls hl => ?_)
    have e9 : mLow v = true := by simp only [mLow, if_pos c_21]
    refine j79 ls ?_
    rw [e9]
    exact hl
  · refine lv_iload_n hx hb dX1_isBegin_6 rfl (lv_at hl 0 rfl) ?_
    refine lv_bipush (v := 95) hx hb dX1_isBegin_7 (by decide) ?_
    refine lv_icmp_eq (tgt := 73) hx hb dX1_isBegin_9 (by decide) (fun c_22 => ?_) (fun c_22 => ?_)
    · refine lv_iconst (v := 1) hx hb dX1_isBegin_73 (by decide) ?_
      refine lv_goto (tgt := 78) hx hb dX1_isBegin_74 (by decide) ?_
      refine lv_istore_n (lv' := [(1, .int 1), (0, .int v)]) hx hb dX1_isBegin_78 rfl hl (by decide) rfl (fun ls hl => ?_)
      have e9 : mLow v = true := by simp only [mLow, if_neg c_21, if_pos c_22]
      refine j79 ls ?_
      rw [e9]
      exact hl
    · refine lv_iload_n hx hb dX1_isBegin_12 rfl (lv_at hl 0 rfl) ?_
      refine lv_bipush (v := 65) hx hb dX1_isBegin_13 (by decide) ?_
      refine lv_bipush (v := 90) hx hb dX1_isBegin_15 (by decide) ?_
      refine vp_callSi (W.runS (As := [.int v, .int 65, .int 90]) (rest := []) ⟨hx, hb, hml, hown, hts⟩ (c_X1_within l v 65 90) (va_cwS 3 hts gX1_isBegin_X1_within rfl rfl rfl (by decide +kernel) ⟨Nat.le_of_ble_eq_true rfl, Nat.le_of_ble_eq_true rfl⟩) ⟨fun _ _ _ _ q => q, fun U hU hW => ⟨rfl, trivial⟩⟩ rfl rfl hl.1 rfl (lv_room (Nat.le_of_ble_eq_true rfl)) dX1_isBegin_17 ⟨Nat.le_of_ble_eq_true rfl, Nat.le_of_ble_eq_true rfl⟩) (fun r_23 er_23 => ?_)
      obtain rfl : r_23 = bI (mWith v 65 90) := er_23
      refine lv_if_ne (tgt := 73) hx hb dX1_isBegin_20 (by decide) (fun c_24 => ?_) (fun c_24 => ?_)
      · have c_24 := bI_n0 c_24
        refine lv_iconst (v := 1) hx hb dX1_isBegin_73 (by decide) ?_
        refine lv_goto (tgt := 78) hx hb dX1_isBegin_74 (by decide) ?_
        refine lv_istore_n (lv' := [(1, .int 1), (0, .int v)]) hx hb dX1_isBegin_78 rfl hl (by decide) rfl (fun ls hl => ?_)
        have e9 : mLow v = true := by simp only [mLow, if_neg c_21, if_neg c_22, if_pos c_24]
        refine j79 ls ?_
        rw [e9]
        exact hl
      · have c_24 := bI_0 c_24
        refine lv_iload_n hx hb dX1_isBegin_23 rfl (lv_at hl 0 rfl) ?_
        refine lv_bipush (v := 97) hx hb dX1_isBegin_24 (by decide) ?_
        refine lv_bipush (v := 122) hx hb dX1_isBegin_26 (by decide) ?_
        refine vp_callSi (W.runS (As := [.int v, .int 97, .int 122]) (rest := []) ⟨hx, hb, hml, hown, hts⟩ (c_X1_within l v 97 122) (va_cwS 3 hts gX1_isBegin_X1_within rfl rfl rfl (by decide +kernel) ⟨Nat.le_of_ble_eq_true rfl, Nat.le_of_ble_eq_true rfl⟩) ⟨fun _ _ _ _ q => q, fun U hU hW => ⟨rfl, trivial⟩⟩ rfl rfl hl.1 rfl (lv_room (Nat.le_of_ble_eq_true rfl)) dX1_isBegin_28 ⟨Nat.le_of_ble_eq_true rfl, Nat.le_of_ble_eq_true rfl⟩) (fun r_25 er_25 => ?_)
        obtain rfl : r_25 = bI (mWith v 97 122) := er_25
        refine lv_if_ne (tgt := 73) hx hb dX1_isBegin_31 (by decide) (fun c_26 => ?_) (fun c_26 => ?_)
        · have c_26 := bI_n0 c_26
          refine lv_iconst (v := 1) hx hb dX1_isBegin_73 (by decide) ?_
          refine lv_goto (tgt := 78) hx hb dX1_isBegin_74 (by decide) ?_
          refine lv_istore_n (lv' := [(1, .int 1), (0, .int v)]) hx hb dX1_isBegin_78 rfl hl (by decide) rfl (fun ls hl => ?_)
          have e9 : mLow v = true := by simp only [mLow, if_neg c_21, if_neg c_22, if_neg c_24, if_pos c_26]
          refine j79 ls ?_
          rw [e9]
          exact hl
        · have c_26 := bI_0 c_26
          refine lv_iload_n hx hb dX1_isBegin_34 rfl (lv_at hl 0 rfl) ?_
          refine lv_sipush (v := 192) hx hb dX1_isBegin_35 (by decide) ?_
          refine lv_sipush (v := 214) hx hb dX1_isBegin_38 (by decide) ?_
          refine vp_callSi (W.runS (As := [.int v, .int 192, .int 214]) (rest := []) ⟨hx, hb, hml, hown, hts⟩ (c_X1_within l v 192 214) (va_cwS 3 hts gX1_isBegin_X1_within rfl rfl rfl (by decide +kernel) ⟨Nat.le_of_ble_eq_true rfl, Nat.le_of_ble_eq_true rfl⟩) ⟨fun _ _ _ _ q => q, fun U hU hW => ⟨rfl, trivial⟩⟩ rfl rfl hl.1 rfl (lv_room (Nat.le_of_ble_eq_true rfl)) dX1_isBegin_41 ⟨Nat.le_of_ble_eq_true rfl, Nat.le_of_ble_eq_true rfl⟩) (fun r_27 er_27 => ?_)
          obtain rfl : r_27 = bI (mWith v 192 214) := er_27
          refine lv_if_ne (tgt := 73) hx hb dX1_isBegin_44 (by decide) (fun c_28 => ?_) (fun c_28 => ?_)
          · have c_28 := bI_n0 c_28
            refine lv_iconst (v := 1) hx hb dX1_isBegin_73 (by decide) ?_
            refine lv_goto (tgt := 78) hx hb dX1_isBegin_74 (by decide) ?_
            refine lv_istore_n (lv' := [(1, .int 1), (0, .int v)]) hx hb dX1_isBegin_78 rfl hl (by decide) rfl (fun ls hl => ?_)
            have e9 : mLow v = true := by simp only [mLow, if_neg c_21, if_neg c_22, if_neg c_24, if_neg c_26, if_pos c_28]
            refine j79 ls ?_
            rw [e9]
            exact hl
          · have c_28 := bI_0 c_28
            refine lv_iload_n hx hb dX1_isBegin_47 rfl (lv_at hl 0 rfl) ?_
            refine lv_sipush (v := 216) hx hb dX1_isBegin_48 (by decide) ?_
            refine lv_sipush (v := 246) hx hb dX1_isBegin_51 (by decide) ?_
            refine vp_callSi (W.runS (As := [.int v, .int 216, .int 246]) (rest := []) ⟨hx, hb, hml, hown, hts⟩ (c_X1_within l v 216 246) (va_cwS 3 hts gX1_isBegin_X1_within rfl rfl rfl (by decide +kernel) ⟨Nat.le_of_ble_eq_true rfl, Nat.le_of_ble_eq_true rfl⟩) ⟨fun _ _ _ _ q => q, fun U hU hW => ⟨rfl, trivial⟩⟩ rfl rfl hl.1 rfl (lv_room (Nat.le_of_ble_eq_true rfl)) dX1_isBegin_54 ⟨Nat.le_of_ble_eq_true rfl, Nat.le_of_ble_eq_true rfl⟩) (fun r_29 er_29 => ?_)
            obtain rfl : r_29 = bI (mWith v 216 246) := er_29
            refine lv_if_ne (tgt := 73) hx hb dX1_isBegin_57 (by decide) (fun c_30 => ?_) (fun c_30 => ?_)
            · have c_30 := bI_n0 c_30
              refine lv_iconst (v := 1) hx hb dX1_isBegin_73 (by decide) ?_
              refine lv_goto (tgt := 78) hx hb dX1_isBegin_74 (by decide) ?_
              refine lv_istore_n (lv' := [(1, .int 1), (0, .int v)]) hx hb dX1_isBegin_78 rfl hl (by decide) rfl (fun ls hl => ?_)
              have e9 : mLow v = true := by simp only [mLow, if_neg c_21, if_neg c_22, if_neg c_24, if_neg c_26, if_neg c_28, if_pos c_30]
              refine j79 ls ?_
              rw [e9]
              exact hl
            · have c_30 := bI_0 c_30
              refine lv_iload_n hx hb dX1_isBegin_60 rfl (lv_at hl 0 rfl) ?_
              refine lv_sipush (v := 248) hx hb dX1_isBegin_61 (by decide) ?_
              refine lv_sipush (v := 767) hx hb dX1_isBegin_64 (by decide) ?_
              refine vp_callSi (W.runS (As := [.int v, .int 248, .int 767]) (rest := []) ⟨hx, hb, hml, hown, hts⟩ (c_X1_within l v 248 767) (va_cwS 3 hts gX1_isBegin_X1_within rfl rfl rfl (by decide +kernel) ⟨Nat.le_of_ble_eq_true rfl, Nat.le_of_ble_eq_true rfl⟩) ⟨fun _ _ _ _ q => q, fun U hU hW => ⟨rfl, trivial⟩⟩ rfl rfl hl.1 rfl (lv_room (Nat.le_of_ble_eq_true rfl)) dX1_isBegin_67 ⟨Nat.le_of_ble_eq_true rfl, Nat.le_of_ble_eq_true rfl⟩) (fun r_31 er_31 => ?_)
              obtain rfl : r_31 = bI (mWith v 248 767) := er_31
              refine lv_if_eq (tgt := 77) hx hb dX1_isBegin_70 (by decide) (fun c_32 => ?_) (fun c_32 => ?_)
              · have c_32 := bI_0 c_32
                refine lv_iconst (v := 0) hx hb dX1_isBegin_77 (by decide) ?_
                refine lv_istore_n (lv' := [(1, .int 0), (0, .int v)]) hx hb dX1_isBegin_78 rfl hl (by decide) rfl (fun ls hl => ?_)
                have e9 : mLow v = false := by simp only [mLow, if_neg c_21, if_neg c_22, if_neg c_24, if_neg c_26, if_neg c_28, if_neg c_30, if_neg c_32]
                refine j79 ls ?_
                rw [e9]
                exact hl
              · have c_32 := bI_n0 c_32
                refine lv_iconst (v := 1) hx hb dX1_isBegin_73 (by decide) ?_
                refine lv_goto (tgt := 78) hx hb dX1_isBegin_74 (by decide) ?_
                refine lv_istore_n (lv' := [(1, .int 1), (0, .int v)]) hx hb dX1_isBegin_78 rfl hl (by decide) rfl (fun ls hl => ?_)
                have e9 : mLow v = true := by simp only [mLow, if_neg c_21, if_neg c_22, if_neg c_24, if_neg c_26, if_neg c_28, if_neg c_30, if_pos c_32]
                refine j79 ls ?_
                rw [e9]
                exact hl
set_option maxHeartbeats 4000000 in
set_option maxRecDepth 100000 in
theorem c_X1_isPart (l : Launch) (v : Int32) : Met l yX1_isPart wsX1_isPart ({ frames := 2, cells := 0, slots := 0, locals := 44 }) (va_Pc [.int v] (fun U => True)) (vp_Si (fun r => r = bI (mPart v))) 0 0 (fun _ => False) := by
  refine Met.ofW (cc := cX1_isPart) (maxL := 1) (ret := (some .boolean)) (by decide) rfl ?_
  intro p e s m args below meth c s₁ B hml hv
  obtain ⟨rfl, -⟩ := hv
  have hx := B.exec
  have hb := B.bytes
  have hr := B.returns
  have hts := atoms_spec (ws := wsX1_isPart) B.pre
  have hown : s.vm.findClass RX1 = some m.cls := findClass_of_methodNamed B.named
  have hS : va_S (fun _ => False) s.heap s.heap [] := va_S.rf
  have hl := lv_entry ([.int v]) (n := 1) (Nat.le_of_ble_eq_true rfl)
  rw [lg_entry_eq]
  generalize (lg_sl ([.int v]) ++ List.replicate (1 - (lg_sl ([.int v])).length) Slot.unset).toArray = ls at hl ⊢
  have hl : lv_has ls 1 [(0, .int v)] := hl
  refine lv_iload_n hx hb dX1_isPart_0 rfl (lv_at hl 0 rfl) ?_
  refine vp_callSi (W.runS (As := [.int v]) (rest := []) ⟨hx, hb, hml, hown, hts⟩ (c_X1_isBegin l v) (va_cwS 1 hts gX1_isPart_X1_isBegin rfl rfl rfl (by decide +kernel) ⟨Nat.le_of_ble_eq_true rfl, Nat.le_of_ble_eq_true rfl⟩) ⟨fun _ _ _ _ q => q, fun U hU hW => ⟨rfl, trivial⟩⟩ rfl rfl hl.1 rfl (lv_room (Nat.le_of_ble_eq_true rfl)) dX1_isPart_1 ⟨Nat.le_of_ble_eq_true rfl, Nat.le_of_ble_eq_true rfl⟩) (fun r_1 er_1 => ?_)
  obtain rfl : r_1 = bI (mBeg v) := er_1
  refine lv_if_ne (tgt := 63) hx hb dX1_isPart_4 (by decide) (fun c_2 => ?_) (fun c_2 => ?_)
  · have c_2 := bI_n0 c_2
    refine lv_iconst (v := 1) hx hb dX1_isPart_63 (by decide) ?_
    refine lv_goto (tgt := 68) hx hb dX1_isPart_64 (by decide) ?_
    exact W.zret (v := 1) (ty := .boolean) hx hb hr (rfl) (fun t ht hW => ⟨1, rfl, by first | (simp only [mPart, if_pos c_2, bI_t, bI_f]; done) | (simp only [mPart, if_pos c_2, bI_t, bI_f]; rfl), ht⟩) hS.2.2 dX1_isPart_68
  · have c_2 := bI_0 c_2
    refine lv_iload_n hx hb dX1_isPart_7 rfl (lv_at hl 0 rfl) ?_
    refine lv_bipush (v := 45) hx hb dX1_isPart_8 (by decide) ?_
    refine lv_icmp_eq (tgt := 63) hx hb dX1_isPart_10 (by decide) (fun c_3 => ?_) (fun c_3 => ?_)
    · refine lv_iconst (v := 1) hx hb dX1_isPart_63 (by decide) ?_
      refine lv_goto (tgt := 68) hx hb dX1_isPart_64 (by decide) ?_
      exact W.zret (v := 1) (ty := .boolean) hx hb hr (rfl) (fun t ht hW => ⟨1, rfl, by first | (simp only [mPart, if_neg c_2, if_pos c_3, bI_t, bI_f]; done) | (simp only [mPart, if_neg c_2, if_pos c_3, bI_t, bI_f]; rfl), ht⟩) hS.2.2 dX1_isPart_68
    · refine lv_iload_n hx hb dX1_isPart_13 rfl (lv_at hl 0 rfl) ?_
      refine lv_bipush (v := 46) hx hb dX1_isPart_14 (by decide) ?_
      refine lv_icmp_eq (tgt := 63) hx hb dX1_isPart_16 (by decide) (fun c_4 => ?_) (fun c_4 => ?_)
      · refine lv_iconst (v := 1) hx hb dX1_isPart_63 (by decide) ?_
        refine lv_goto (tgt := 68) hx hb dX1_isPart_64 (by decide) ?_
        exact W.zret (v := 1) (ty := .boolean) hx hb hr (rfl) (fun t ht hW => ⟨1, rfl, by first | (simp only [mPart, if_neg c_2, if_neg c_3, if_pos c_4, bI_t, bI_f]; done) | (simp only [mPart, if_neg c_2, if_neg c_3, if_pos c_4, bI_t, bI_f]; rfl), ht⟩) hS.2.2 dX1_isPart_68
      · refine lv_iload_n hx hb dX1_isPart_19 rfl (lv_at hl 0 rfl) ?_
        refine lv_bipush (v := 48) hx hb dX1_isPart_20 (by decide) ?_
        refine lv_bipush (v := 57) hx hb dX1_isPart_22 (by decide) ?_
        refine vp_callSi (W.runS (As := [.int v, .int 48, .int 57]) (rest := []) ⟨hx, hb, hml, hown, hts⟩ (c_X1_within l v 48 57) (va_cwS 3 hts gX1_isPart_X1_within rfl rfl rfl (by decide +kernel) ⟨Nat.le_of_ble_eq_true rfl, Nat.le_of_ble_eq_true rfl⟩) ⟨fun _ _ _ _ q => q, fun U hU hW => ⟨rfl, trivial⟩⟩ rfl rfl hl.1 rfl (lv_room (Nat.le_of_ble_eq_true rfl)) dX1_isPart_24 ⟨Nat.le_of_ble_eq_true rfl, Nat.le_of_ble_eq_true rfl⟩) (fun r_5 er_5 => ?_)
        obtain rfl : r_5 = bI (mWith v 48 57) := er_5
        refine lv_if_ne (tgt := 63) hx hb dX1_isPart_27 (by decide) (fun c_6 => ?_) (fun c_6 => ?_)
        · have c_6 := bI_n0 c_6
          refine lv_iconst (v := 1) hx hb dX1_isPart_63 (by decide) ?_
          refine lv_goto (tgt := 68) hx hb dX1_isPart_64 (by decide) ?_
          exact W.zret (v := 1) (ty := .boolean) hx hb hr (rfl) (fun t ht hW => ⟨1, rfl, by first | (simp only [mPart, if_neg c_2, if_neg c_3, if_neg c_4, if_pos c_6, bI_t, bI_f]; done) | (simp only [mPart, if_neg c_2, if_neg c_3, if_neg c_4, if_pos c_6, bI_t, bI_f]; rfl), ht⟩) hS.2.2 dX1_isPart_68
        · have c_6 := bI_0 c_6
          refine lv_iload_n hx hb dX1_isPart_30 rfl (lv_at hl 0 rfl) ?_
          refine lv_sipush (v := 183) hx hb dX1_isPart_31 (by decide) ?_
          refine lv_icmp_eq (tgt := 63) hx hb dX1_isPart_34 (by decide) (fun c_7 => ?_) (fun c_7 => ?_)
          · refine lv_iconst (v := 1) hx hb dX1_isPart_63 (by decide) ?_
            refine lv_goto (tgt := 68) hx hb dX1_isPart_64 (by decide) ?_
            exact W.zret (v := 1) (ty := .boolean) hx hb hr (rfl) (fun t ht hW => ⟨1, rfl, by first | (simp only [mPart, if_neg c_2, if_neg c_3, if_neg c_4, if_neg c_6, if_pos c_7, bI_t, bI_f]; done) | (simp only [mPart, if_neg c_2, if_neg c_3, if_neg c_4, if_neg c_6, if_pos c_7, bI_t, bI_f]; rfl), ht⟩) hS.2.2 dX1_isPart_68
          · refine lv_iload_n hx hb dX1_isPart_37 rfl (lv_at hl 0 rfl) ?_
            refine lv_sipush (v := 768) hx hb dX1_isPart_38 (by decide) ?_
            refine lv_sipush (v := 879) hx hb dX1_isPart_41 (by decide) ?_
            refine vp_callSi (W.runS (As := [.int v, .int 768, .int 879]) (rest := []) ⟨hx, hb, hml, hown, hts⟩ (c_X1_within l v 768 879) (va_cwS 3 hts gX1_isPart_X1_within rfl rfl rfl (by decide +kernel) ⟨Nat.le_of_ble_eq_true rfl, Nat.le_of_ble_eq_true rfl⟩) ⟨fun _ _ _ _ q => q, fun U hU hW => ⟨rfl, trivial⟩⟩ rfl rfl hl.1 rfl (lv_room (Nat.le_of_ble_eq_true rfl)) dX1_isPart_44 ⟨Nat.le_of_ble_eq_true rfl, Nat.le_of_ble_eq_true rfl⟩) (fun r_8 er_8 => ?_)
            obtain rfl : r_8 = bI (mWith v 768 879) := er_8
            refine lv_if_ne (tgt := 63) hx hb dX1_isPart_47 (by decide) (fun c_9 => ?_) (fun c_9 => ?_)
            · have c_9 := bI_n0 c_9
              refine lv_iconst (v := 1) hx hb dX1_isPart_63 (by decide) ?_
              refine lv_goto (tgt := 68) hx hb dX1_isPart_64 (by decide) ?_
              exact W.zret (v := 1) (ty := .boolean) hx hb hr (rfl) (fun t ht hW => ⟨1, rfl, by first | (simp only [mPart, if_neg c_2, if_neg c_3, if_neg c_4, if_neg c_6, if_neg c_7, if_pos c_9, bI_t, bI_f]; done) | (simp only [mPart, if_neg c_2, if_neg c_3, if_neg c_4, if_neg c_6, if_neg c_7, if_pos c_9, bI_t, bI_f]; rfl), ht⟩) hS.2.2 dX1_isPart_68
            · have c_9 := bI_0 c_9
              refine lv_iload_n hx hb dX1_isPart_50 rfl (lv_at hl 0 rfl) ?_
              refine lv_sipush (v := 8255) hx hb dX1_isPart_51 (by decide) ?_
              refine lv_sipush (v := 8256) hx hb dX1_isPart_54 (by decide) ?_
              refine vp_callSi (W.runS (As := [.int v, .int 8255, .int 8256]) (rest := []) ⟨hx, hb, hml, hown, hts⟩ (c_X1_within l v 8255 8256) (va_cwS 3 hts gX1_isPart_X1_within rfl rfl rfl (by decide +kernel) ⟨Nat.le_of_ble_eq_true rfl, Nat.le_of_ble_eq_true rfl⟩) ⟨fun _ _ _ _ q => q, fun U hU hW => ⟨rfl, trivial⟩⟩ rfl rfl hl.1 rfl (lv_room (Nat.le_of_ble_eq_true rfl)) dX1_isPart_57 ⟨Nat.le_of_ble_eq_true rfl, Nat.le_of_ble_eq_true rfl⟩) (fun r_10 er_10 => ?_)
              obtain rfl : r_10 = bI (mWith v 8255 8256) := er_10
              refine lv_if_eq (tgt := 67) hx hb dX1_isPart_60 (by decide) (fun c_11 => ?_) (fun c_11 => ?_)
              · have c_11 := bI_0 c_11
                refine lv_iconst (v := 0) hx hb dX1_isPart_67 (by decide) ?_
                exact W.zret (v := 0) (ty := .boolean) hx hb hr (rfl) (fun t ht hW => ⟨0, rfl, by first | (simp only [mPart, if_neg c_2, if_neg c_3, if_neg c_4, if_neg c_6, if_neg c_7, if_neg c_9, if_neg c_11, bI_t, bI_f]; done) | (simp only [mPart, if_neg c_2, if_neg c_3, if_neg c_4, if_neg c_6, if_neg c_7, if_neg c_9, if_neg c_11, bI_t, bI_f]; rfl), ht⟩) hS.2.2 dX1_isPart_68
              · have c_11 := bI_n0 c_11
                refine lv_iconst (v := 1) hx hb dX1_isPart_63 (by decide) ?_
                refine lv_goto (tgt := 68) hx hb dX1_isPart_64 (by decide) ?_
                exact W.zret (v := 1) (ty := .boolean) hx hb hr (rfl) (fun t ht hW => ⟨1, rfl, by first | (simp only [mPart, if_neg c_2, if_neg c_3, if_neg c_4, if_neg c_6, if_neg c_7, if_neg c_9, if_pos c_11, bI_t, bI_f]; done) | (simp only [mPart, if_neg c_2, if_neg c_3, if_neg c_4, if_neg c_6, if_neg c_7, if_neg c_9, if_pos c_11, bI_t, bI_f]; rfl), ht⟩) hS.2.2 dX1_isPart_68
set_option maxHeartbeats 4000000 in
set_option maxRecDepth 100000 in
theorem c_X1_kind (l : Launch) (dC : Nat → ClassId) (dI : Nat → Nat → Nat) (g0 g1 g2 : Nat) (cA : ClassId) (tb : Nat → Nat) (n : Nat) (kb : Nat → Nat) (ln : Nat) (rd : Bool) (fp : Int32) (st : Nat) (mt bg : Int32) (v : Int32) : Met l yX1_kind wsX1_kind ({ frames := 3, cells := 0, slots := 0, locals := 64 }) (va_Pc [.ref g0, .int v] (fun U => mpre dC dI g0 g1 g2 cA (tb, n, kb, ln, rd, fp, st, mt, bg) U)) (vp_Si (fun r => r = mKind v)) 0 0 (fun _ => False) := by
  refine Met.ofW (cc := cX1_kind) (maxL := 3) (ret := (some .int)) (by decide) rfl ?_
  intro p e s m args below meth c s₁ B hml hv
  obtain ⟨rfl, hP, hK⟩ := hv
  have hx := B.exec
  have hb := B.bytes
  have hr := B.returns
  have hts := atoms_spec (ws := wsX1_kind) B.pre
  have hown : s.vm.findClass RX1 = some m.cls := findClass_of_methodNamed B.named
  have hS : va_S (fun _ => False) s.heap s.heap [] := va_S.rf
  have hP : va_P (dC, dI) vwCl [(g0, .inr (1, [.ref g1, .int (nI n), .ref g2, .int (nI ln), .int (bI rd), .int fp, .int (nI st), .int mt, .int bg])), (g1, .inl (cA, 1000, .inl (fun j => nI (tb j)))), (g2, .inl (cA, 1000, .inl (fun j => nI (kb j))))] s.heap := hP
  have hl := lv_entry ([.ref g0, .int v]) (n := 3) (Nat.le_of_ble_eq_true rfl)
  rw [lg_entry_eq]
  generalize (lg_sl ([.ref g0, .int v]) ++ List.replicate (3 - (lg_sl ([.ref g0, .int v])).length) Slot.unset).toArray = ls at hl ⊢
  have hl : lv_has ls 3 [(0, .ref g0), (1, .int v)] := hl
  refine lv_iload_n hx hb dX1_kind_0 rfl (lv_at hl 1 rfl) ?_
  refine vp_callSi (W.runS (As := [.int v]) (rest := []) ⟨hx, hb, hml, hown, hts⟩ (c_X1_isAllowed l v) (va_cwS 1 hts gX1_kind_X1_isAllowed rfl rfl rfl (by decide +kernel) ⟨Nat.le_of_ble_eq_true rfl, Nat.le_of_ble_eq_true rfl⟩) ⟨fun _ _ _ _ q => q, fun U hU hW => ⟨rfl, trivial⟩⟩ rfl rfl hl.1 rfl (lv_room (Nat.le_of_ble_eq_true rfl)) dX1_kind_1 ⟨Nat.le_of_ble_eq_true rfl, Nat.le_of_ble_eq_true rfl⟩) (fun r_1 er_1 => ?_)
  obtain rfl : r_1 = bI (mAll v) := er_1
  refine lv_if_eq (tgt := 11) hx hb dX1_kind_4 (by decide) (fun c_2 => ?_) (fun c_2 => ?_)
  · have c_2 := bI_0 c_2
    refine lv_iconst (v := 0) hx hb dX1_kind_11 (by decide) ?_
    refine lv_istore_n (lv' := [(2, .int 0), (0, .ref g0), (1, .int v)]) hx hb dX1_kind_12 rfl hl (by decide) rfl (fun ls hl => ?_)
    refine lv_iload_n hx hb dX1_kind_13 rfl (lv_at hl 2 rfl) ?_
    refine vp_callSi (W.runS (As := [.int v]) (rest := []) ⟨hx, hb, hml, hown, hts⟩ (c_X1_isBlank l v) (va_cwS 1 hts gX1_kind_X1_isBlank rfl rfl rfl (by decide +kernel) ⟨Nat.le_of_ble_eq_true rfl, Nat.le_of_ble_eq_true rfl⟩) ⟨fun _ _ _ _ q => q, fun U hU hW => ⟨rfl, trivial⟩⟩ rfl rfl hl.1 rfl (lv_room (Nat.le_of_ble_eq_true rfl)) dX1_kind_14 ⟨Nat.le_of_ble_eq_true rfl, Nat.le_of_ble_eq_true rfl⟩) (fun r_3 er_3 => ?_)
    obtain rfl : r_3 = bI (mBlank v) := er_3
    refine lv_if_eq (tgt := 26) hx hb dX1_kind_17 (by decide) (fun c_4 => ?_) (fun c_4 => ?_)
    · have c_4 := bI_0 c_4
      refine lv_iload_n hx hb dX1_kind_26 rfl (lv_at hl 0 rfl) ?_
      refine lv_istore_n (lv' := [(2, .int 0), (0, .ref g0), (1, .int v)]) hx hb dX1_kind_27 rfl hl (by decide) rfl (fun ls hl => ?_)
      refine lv_iload_n hx hb dX1_kind_28 rfl (lv_at hl 2 rfl) ?_
      refine vp_callSi (W.runS (As := [.int v]) (rest := []) ⟨hx, hb, hml, hown, hts⟩ (c_X1_isBegin l v) (va_cwS 1 hts gX1_kind_X1_isBegin rfl rfl rfl (by decide +kernel) ⟨Nat.le_of_ble_eq_true rfl, Nat.le_of_ble_eq_true rfl⟩) ⟨fun _ _ _ _ q => q, fun U hU hW => ⟨rfl, trivial⟩⟩ rfl rfl hl.1 rfl (lv_room (Nat.le_of_ble_eq_true rfl)) dX1_kind_29 ⟨Nat.le_of_ble_eq_true rfl, Nat.le_of_ble_eq_true rfl⟩) (fun r_5 er_5 => ?_)
      obtain rfl : r_5 = bI (mBeg v) := er_5
      refine lv_if_eq (tgt := 41) hx hb dX1_kind_32 (by decide) (fun c_6 => ?_) (fun c_6 => ?_)
      · have c_6 := bI_0 c_6
        refine lv_iload_n hx hb dX1_kind_41 rfl (lv_at hl 0 rfl) ?_
        refine lv_istore_n (lv' := [(2, .int 0), (0, .ref g0), (1, .int v)]) hx hb dX1_kind_42 rfl hl (by decide) rfl (fun ls hl => ?_)
        refine lv_iload_n hx hb dX1_kind_43 rfl (lv_at hl 2 rfl) ?_
        refine vp_callSi (W.runS (As := [.int v]) (rest := []) ⟨hx, hb, hml, hown, hts⟩ (c_X1_isPart l v) (va_cwS 1 hts gX1_kind_X1_isPart rfl rfl rfl (by decide +kernel) ⟨Nat.le_of_ble_eq_true rfl, Nat.le_of_ble_eq_true rfl⟩) ⟨fun _ _ _ _ q => q, fun U hU hW => ⟨rfl, trivial⟩⟩ rfl rfl hl.1 rfl (lv_room (Nat.le_of_ble_eq_true rfl)) dX1_kind_44 ⟨Nat.le_of_ble_eq_true rfl, Nat.le_of_ble_eq_true rfl⟩) (fun r_7 er_7 => ?_)
        obtain rfl : r_7 = bI (mPart v) := er_7
        refine lv_if_eq (tgt := 57) hx hb dX1_kind_47 (by decide) (fun c_8 => ?_) (fun c_8 => ?_)
        · have c_8 := bI_0 c_8
          refine lv_iload_n hx hb dX1_kind_57 rfl (lv_at hl 0 rfl) ?_
          exact W.iret (v := 0) hx hb hr (fun t ht hW => ⟨0, rfl, by first | (simp only [mKind, if_neg c_2, if_neg c_4, if_neg c_6, if_neg c_8, bI_t, bI_f]; done) | (simp only [mKind, if_neg c_2, if_neg c_4, if_neg c_6, if_neg c_8, bI_t, bI_f]; rfl), ht⟩) hS.2.2 dX1_kind_58
        · have c_8 := bI_n0 c_8
          refine lv_iload_n hx hb dX1_kind_50 rfl (lv_at hl 0 rfl) ?_
          refine lv_bipush (v := 8) hx hb dX1_kind_51 (by decide) ?_
          refine lv_iadd hx hb dX1_kind_53 ?_
          refine lv_topi (fun x_9 ex_9 => ?_)
          obtain rfl : x_9 = 8 := ex_9.trans (by decide)
          refine lv_goto (tgt := 58) hx hb dX1_kind_54 (by decide) ?_
          exact W.iret (v := 8) hx hb hr (fun t ht hW => ⟨8, rfl, by first | (simp only [mKind, if_neg c_2, if_neg c_4, if_neg c_6, if_pos c_8, bI_t, bI_f]; done) | (simp only [mKind, if_neg c_2, if_neg c_4, if_neg c_6, if_pos c_8, bI_t, bI_f]; rfl), ht⟩) hS.2.2 dX1_kind_58
      · have c_6 := bI_n0 c_6
        refine lv_iload_n hx hb dX1_kind_35 rfl (lv_at hl 0 rfl) ?_
        refine lv_iconst (v := 4) hx hb dX1_kind_36 (by decide) ?_
        refine lv_iadd hx hb dX1_kind_37 ?_
        refine lv_topi (fun x_10 ex_10 => ?_)
        obtain rfl : x_10 = 4 := ex_10.trans (by decide)
        refine lv_goto (tgt := 42) hx hb dX1_kind_38 (by decide) ?_
        refine lv_istore_n (lv' := [(2, .int 4), (0, .ref g0), (1, .int v)]) hx hb dX1_kind_42 rfl hl (by decide) rfl (fun ls hl => ?_)
        refine lv_iload_n hx hb dX1_kind_43 rfl (lv_at hl 2 rfl) ?_
        refine vp_callSi (W.runS (As := [.int v]) (rest := []) ⟨hx, hb, hml, hown, hts⟩ (c_X1_isPart l v) (va_cwS 1 hts gX1_kind_X1_isPart rfl rfl rfl (by decide +kernel) ⟨Nat.le_of_ble_eq_true rfl, Nat.le_of_ble_eq_true rfl⟩) ⟨fun _ _ _ _ q => q, fun U hU hW => ⟨rfl, trivial⟩⟩ rfl rfl hl.1 rfl (lv_room (Nat.le_of_ble_eq_true rfl)) dX1_kind_44 ⟨Nat.le_of_ble_eq_true rfl, Nat.le_of_ble_eq_true rfl⟩) (fun r_11 er_11 => ?_)
        obtain rfl : r_11 = bI (mPart v) := er_11
        refine lv_if_eq (tgt := 57) hx hb dX1_kind_47 (by decide) (fun c_12 => ?_) (fun c_12 => ?_)
        · have c_12 := bI_0 c_12
          refine lv_iload_n hx hb dX1_kind_57 rfl (lv_at hl 0 rfl) ?_
          exact W.iret (v := 4) hx hb hr (fun t ht hW => ⟨4, rfl, by first | (simp only [mKind, if_neg c_2, if_neg c_4, if_pos c_6, if_neg c_12, bI_t, bI_f]; done) | (simp only [mKind, if_neg c_2, if_neg c_4, if_pos c_6, if_neg c_12, bI_t, bI_f]; rfl), ht⟩) hS.2.2 dX1_kind_58
        · have c_12 := bI_n0 c_12
          refine lv_iload_n hx hb dX1_kind_50 rfl (lv_at hl 0 rfl) ?_
          refine lv_bipush (v := 8) hx hb dX1_kind_51 (by decide) ?_
          refine lv_iadd hx hb dX1_kind_53 ?_
          refine lv_topi (fun x_13 ex_13 => ?_)
          obtain rfl : x_13 = 12 := ex_13.trans (by decide)
          refine lv_goto (tgt := 58) hx hb dX1_kind_54 (by decide) ?_
          exact W.iret (v := 12) hx hb hr (fun t ht hW => ⟨12, rfl, by first | (simp only [mKind, if_neg c_2, if_neg c_4, if_pos c_6, if_pos c_12, bI_t, bI_f]; done) | (simp only [mKind, if_neg c_2, if_neg c_4, if_pos c_6, if_pos c_12, bI_t, bI_f]; rfl), ht⟩) hS.2.2 dX1_kind_58
    · have c_4 := bI_n0 c_4
      refine lv_iload_n hx hb dX1_kind_20 rfl (lv_at hl 0 rfl) ?_
      refine lv_iconst (v := 2) hx hb dX1_kind_21 (by decide) ?_
      refine lv_iadd hx hb dX1_kind_22 ?_
      refine lv_topi (fun x_14 ex_14 => ?_)
      obtain rfl : x_14 = 2 := ex_14.trans (by decide)
      refine lv_goto (tgt := 27) hx hb dX1_kind_23 (by decide) ?_
      refine lv_istore_n (lv' := [(2, .int 2), (0, .ref g0), (1, .int v)]) hx hb dX1_kind_27 rfl hl (by decide) rfl (fun ls hl => ?_)
      refine lv_iload_n hx hb dX1_kind_28 rfl (lv_at hl 2 rfl) ?_
      refine vp_callSi (W.runS (As := [.int v]) (rest := []) ⟨hx, hb, hml, hown, hts⟩ (c_X1_isBegin l v) (va_cwS 1 hts gX1_kind_X1_isBegin rfl rfl rfl (by decide +kernel) ⟨Nat.le_of_ble_eq_true rfl, Nat.le_of_ble_eq_true rfl⟩) ⟨fun _ _ _ _ q => q, fun U hU hW => ⟨rfl, trivial⟩⟩ rfl rfl hl.1 rfl (lv_room (Nat.le_of_ble_eq_true rfl)) dX1_kind_29 ⟨Nat.le_of_ble_eq_true rfl, Nat.le_of_ble_eq_true rfl⟩) (fun r_15 er_15 => ?_)
      obtain rfl : r_15 = bI (mBeg v) := er_15
      refine lv_if_eq (tgt := 41) hx hb dX1_kind_32 (by decide) (fun c_16 => ?_) (fun c_16 => ?_)
      · have c_16 := bI_0 c_16
        refine lv_iload_n hx hb dX1_kind_41 rfl (lv_at hl 0 rfl) ?_
        refine lv_istore_n (lv' := [(2, .int 2), (0, .ref g0), (1, .int v)]) hx hb dX1_kind_42 rfl hl (by decide) rfl (fun ls hl => ?_)
        refine lv_iload_n hx hb dX1_kind_43 rfl (lv_at hl 2 rfl) ?_
        refine vp_callSi (W.runS (As := [.int v]) (rest := []) ⟨hx, hb, hml, hown, hts⟩ (c_X1_isPart l v) (va_cwS 1 hts gX1_kind_X1_isPart rfl rfl rfl (by decide +kernel) ⟨Nat.le_of_ble_eq_true rfl, Nat.le_of_ble_eq_true rfl⟩) ⟨fun _ _ _ _ q => q, fun U hU hW => ⟨rfl, trivial⟩⟩ rfl rfl hl.1 rfl (lv_room (Nat.le_of_ble_eq_true rfl)) dX1_kind_44 ⟨Nat.le_of_ble_eq_true rfl, Nat.le_of_ble_eq_true rfl⟩) (fun r_17 er_17 => ?_)
        obtain rfl : r_17 = bI (mPart v) := er_17
        refine lv_if_eq (tgt := 57) hx hb dX1_kind_47 (by decide) (fun c_18 => ?_) (fun c_18 => ?_)
        · have c_18 := bI_0 c_18
          refine lv_iload_n hx hb dX1_kind_57 rfl (lv_at hl 0 rfl) ?_
          exact W.iret (v := 2) hx hb hr (fun t ht hW => ⟨2, rfl, by first | (simp only [mKind, if_neg c_2, if_pos c_4, if_neg c_16, if_neg c_18, bI_t, bI_f]; done) | (simp only [mKind, if_neg c_2, if_pos c_4, if_neg c_16, if_neg c_18, bI_t, bI_f]; rfl), ht⟩) hS.2.2 dX1_kind_58
        · have c_18 := bI_n0 c_18
          refine lv_iload_n hx hb dX1_kind_50 rfl (lv_at hl 0 rfl) ?_
          refine lv_bipush (v := 8) hx hb dX1_kind_51 (by decide) ?_
          refine lv_iadd hx hb dX1_kind_53 ?_
          refine lv_topi (fun x_19 ex_19 => ?_)
          obtain rfl : x_19 = 10 := ex_19.trans (by decide)
          refine lv_goto (tgt := 58) hx hb dX1_kind_54 (by decide) ?_
          exact W.iret (v := 10) hx hb hr (fun t ht hW => ⟨10, rfl, by first | (simp only [mKind, if_neg c_2, if_pos c_4, if_neg c_16, if_pos c_18, bI_t, bI_f]; done) | (simp only [mKind, if_neg c_2, if_pos c_4, if_neg c_16, if_pos c_18, bI_t, bI_f]; rfl), ht⟩) hS.2.2 dX1_kind_58
      · have c_16 := bI_n0 c_16
        refine lv_iload_n hx hb dX1_kind_35 rfl (lv_at hl 0 rfl) ?_
        refine lv_iconst (v := 4) hx hb dX1_kind_36 (by decide) ?_
        refine lv_iadd hx hb dX1_kind_37 ?_
        refine lv_topi (fun x_20 ex_20 => ?_)
        obtain rfl : x_20 = 6 := ex_20.trans (by decide)
        refine lv_goto (tgt := 42) hx hb dX1_kind_38 (by decide) ?_
        refine lv_istore_n (lv' := [(2, .int 6), (0, .ref g0), (1, .int v)]) hx hb dX1_kind_42 rfl hl (by decide) rfl (fun ls hl => ?_)
        refine lv_iload_n hx hb dX1_kind_43 rfl (lv_at hl 2 rfl) ?_
        refine vp_callSi (W.runS (As := [.int v]) (rest := []) ⟨hx, hb, hml, hown, hts⟩ (c_X1_isPart l v) (va_cwS 1 hts gX1_kind_X1_isPart rfl rfl rfl (by decide +kernel) ⟨Nat.le_of_ble_eq_true rfl, Nat.le_of_ble_eq_true rfl⟩) ⟨fun _ _ _ _ q => q, fun U hU hW => ⟨rfl, trivial⟩⟩ rfl rfl hl.1 rfl (lv_room (Nat.le_of_ble_eq_true rfl)) dX1_kind_44 ⟨Nat.le_of_ble_eq_true rfl, Nat.le_of_ble_eq_true rfl⟩) (fun r_21 er_21 => ?_)
        obtain rfl : r_21 = bI (mPart v) := er_21
        refine lv_if_eq (tgt := 57) hx hb dX1_kind_47 (by decide) (fun c_22 => ?_) (fun c_22 => ?_)
        · have c_22 := bI_0 c_22
          refine lv_iload_n hx hb dX1_kind_57 rfl (lv_at hl 0 rfl) ?_
          exact W.iret (v := 6) hx hb hr (fun t ht hW => ⟨6, rfl, by first | (simp only [mKind, if_neg c_2, if_pos c_4, if_pos c_16, if_neg c_22, bI_t, bI_f]; done) | (simp only [mKind, if_neg c_2, if_pos c_4, if_pos c_16, if_neg c_22, bI_t, bI_f]; rfl), ht⟩) hS.2.2 dX1_kind_58
        · have c_22 := bI_n0 c_22
          refine lv_iload_n hx hb dX1_kind_50 rfl (lv_at hl 0 rfl) ?_
          refine lv_bipush (v := 8) hx hb dX1_kind_51 (by decide) ?_
          refine lv_iadd hx hb dX1_kind_53 ?_
          refine lv_topi (fun x_23 ex_23 => ?_)
          obtain rfl : x_23 = 14 := ex_23.trans (by decide)
          refine lv_goto (tgt := 58) hx hb dX1_kind_54 (by decide) ?_
          exact W.iret (v := 14) hx hb hr (fun t ht hW => ⟨14, rfl, by first | (simp only [mKind, if_neg c_2, if_pos c_4, if_pos c_16, if_pos c_22, bI_t, bI_f]; done) | (simp only [mKind, if_neg c_2, if_pos c_4, if_pos c_16, if_pos c_22, bI_t, bI_f]; rfl), ht⟩) hS.2.2 dX1_kind_58
  · have c_2 := bI_n0 c_2
    refine lv_iconst (v := 1) hx hb dX1_kind_7 (by decide) ?_
    refine lv_goto (tgt := 12) hx hb dX1_kind_8 (by decide) ?_
    refine lv_istore_n (lv' := [(2, .int 1), (0, .ref g0), (1, .int v)]) hx hb dX1_kind_12 rfl hl (by decide) rfl (fun ls hl => ?_)
    refine lv_iload_n hx hb dX1_kind_13 rfl (lv_at hl 2 rfl) ?_
    refine vp_callSi (W.runS (As := [.int v]) (rest := []) ⟨hx, hb, hml, hown, hts⟩ (c_X1_isBlank l v) (va_cwS 1 hts gX1_kind_X1_isBlank rfl rfl rfl (by decide +kernel) ⟨Nat.le_of_ble_eq_true rfl, Nat.le_of_ble_eq_true rfl⟩) ⟨fun _ _ _ _ q => q, fun U hU hW => ⟨rfl, trivial⟩⟩ rfl rfl hl.1 rfl (lv_room (Nat.le_of_ble_eq_true rfl)) dX1_kind_14 ⟨Nat.le_of_ble_eq_true rfl, Nat.le_of_ble_eq_true rfl⟩) (fun r_24 er_24 => ?_)
    obtain rfl : r_24 = bI (mBlank v) := er_24
    refine lv_if_eq (tgt := 26) hx hb dX1_kind_17 (by decide) (fun c_25 => ?_) (fun c_25 => ?_)
    · have c_25 := bI_0 c_25
      refine lv_iload_n hx hb dX1_kind_26 rfl (lv_at hl 0 rfl) ?_
      refine lv_istore_n (lv' := [(2, .int 1), (0, .ref g0), (1, .int v)]) hx hb dX1_kind_27 rfl hl (by decide) rfl (fun ls hl => ?_)
      refine lv_iload_n hx hb dX1_kind_28 rfl (lv_at hl 2 rfl) ?_
      refine vp_callSi (W.runS (As := [.int v]) (rest := []) ⟨hx, hb, hml, hown, hts⟩ (c_X1_isBegin l v) (va_cwS 1 hts gX1_kind_X1_isBegin rfl rfl rfl (by decide +kernel) ⟨Nat.le_of_ble_eq_true rfl, Nat.le_of_ble_eq_true rfl⟩) ⟨fun _ _ _ _ q => q, fun U hU hW => ⟨rfl, trivial⟩⟩ rfl rfl hl.1 rfl (lv_room (Nat.le_of_ble_eq_true rfl)) dX1_kind_29 ⟨Nat.le_of_ble_eq_true rfl, Nat.le_of_ble_eq_true rfl⟩) (fun r_26 er_26 => ?_)
      obtain rfl : r_26 = bI (mBeg v) := er_26
      refine lv_if_eq (tgt := 41) hx hb dX1_kind_32 (by decide) (fun c_27 => ?_) (fun c_27 => ?_)
      · have c_27 := bI_0 c_27
        refine lv_iload_n hx hb dX1_kind_41 rfl (lv_at hl 0 rfl) ?_
        refine lv_istore_n (lv' := [(2, .int 1), (0, .ref g0), (1, .int v)]) hx hb dX1_kind_42 rfl hl (by decide) rfl (fun ls hl => ?_)
        refine lv_iload_n hx hb dX1_kind_43 rfl (lv_at hl 2 rfl) ?_
        refine vp_callSi (W.runS (As := [.int v]) (rest := []) ⟨hx, hb, hml, hown, hts⟩ (c_X1_isPart l v) (va_cwS 1 hts gX1_kind_X1_isPart rfl rfl rfl (by decide +kernel) ⟨Nat.le_of_ble_eq_true rfl, Nat.le_of_ble_eq_true rfl⟩) ⟨fun _ _ _ _ q => q, fun U hU hW => ⟨rfl, trivial⟩⟩ rfl rfl hl.1 rfl (lv_room (Nat.le_of_ble_eq_true rfl)) dX1_kind_44 ⟨Nat.le_of_ble_eq_true rfl, Nat.le_of_ble_eq_true rfl⟩) (fun r_28 er_28 => ?_)
        obtain rfl : r_28 = bI (mPart v) := er_28
        refine lv_if_eq (tgt := 57) hx hb dX1_kind_47 (by decide) (fun c_29 => ?_) (fun c_29 => ?_)
        · have c_29 := bI_0 c_29
          refine lv_iload_n hx hb dX1_kind_57 rfl (lv_at hl 0 rfl) ?_
          exact W.iret (v := 1) hx hb hr (fun t ht hW => ⟨1, rfl, by first | (simp only [mKind, if_pos c_2, if_neg c_25, if_neg c_27, if_neg c_29, bI_t, bI_f]; done) | (simp only [mKind, if_pos c_2, if_neg c_25, if_neg c_27, if_neg c_29, bI_t, bI_f]; rfl), ht⟩) hS.2.2 dX1_kind_58
        · have c_29 := bI_n0 c_29
          refine lv_iload_n hx hb dX1_kind_50 rfl (lv_at hl 0 rfl) ?_
          refine lv_bipush (v := 8) hx hb dX1_kind_51 (by decide) ?_
          refine lv_iadd hx hb dX1_kind_53 ?_
          refine lv_topi (fun x_30 ex_30 => ?_)
          obtain rfl : x_30 = 9 := ex_30.trans (by decide)
          refine lv_goto (tgt := 58) hx hb dX1_kind_54 (by decide) ?_
          exact W.iret (v := 9) hx hb hr (fun t ht hW => ⟨9, rfl, by first | (simp only [mKind, if_pos c_2, if_neg c_25, if_neg c_27, if_pos c_29, bI_t, bI_f]; done) | (simp only [mKind, if_pos c_2, if_neg c_25, if_neg c_27, if_pos c_29, bI_t, bI_f]; rfl), ht⟩) hS.2.2 dX1_kind_58
      · have c_27 := bI_n0 c_27
        refine lv_iload_n hx hb dX1_kind_35 rfl (lv_at hl 0 rfl) ?_
        refine lv_iconst (v := 4) hx hb dX1_kind_36 (by decide) ?_
        refine lv_iadd hx hb dX1_kind_37 ?_
        refine lv_topi (fun x_31 ex_31 => ?_)
        obtain rfl : x_31 = 5 := ex_31.trans (by decide)
        refine lv_goto (tgt := 42) hx hb dX1_kind_38 (by decide) ?_
        refine lv_istore_n (lv' := [(2, .int 5), (0, .ref g0), (1, .int v)]) hx hb dX1_kind_42 rfl hl (by decide) rfl (fun ls hl => ?_)
        refine lv_iload_n hx hb dX1_kind_43 rfl (lv_at hl 2 rfl) ?_
        refine vp_callSi (W.runS (As := [.int v]) (rest := []) ⟨hx, hb, hml, hown, hts⟩ (c_X1_isPart l v) (va_cwS 1 hts gX1_kind_X1_isPart rfl rfl rfl (by decide +kernel) ⟨Nat.le_of_ble_eq_true rfl, Nat.le_of_ble_eq_true rfl⟩) ⟨fun _ _ _ _ q => q, fun U hU hW => ⟨rfl, trivial⟩⟩ rfl rfl hl.1 rfl (lv_room (Nat.le_of_ble_eq_true rfl)) dX1_kind_44 ⟨Nat.le_of_ble_eq_true rfl, Nat.le_of_ble_eq_true rfl⟩) (fun r_32 er_32 => ?_)
        obtain rfl : r_32 = bI (mPart v) := er_32
        refine lv_if_eq (tgt := 57) hx hb dX1_kind_47 (by decide) (fun c_33 => ?_) (fun c_33 => ?_)
        · have c_33 := bI_0 c_33
          refine lv_iload_n hx hb dX1_kind_57 rfl (lv_at hl 0 rfl) ?_
          exact W.iret (v := 5) hx hb hr (fun t ht hW => ⟨5, rfl, by first | (simp only [mKind, if_pos c_2, if_neg c_25, if_pos c_27, if_neg c_33, bI_t, bI_f]; done) | (simp only [mKind, if_pos c_2, if_neg c_25, if_pos c_27, if_neg c_33, bI_t, bI_f]; rfl), ht⟩) hS.2.2 dX1_kind_58
        · have c_33 := bI_n0 c_33
          refine lv_iload_n hx hb dX1_kind_50 rfl (lv_at hl 0 rfl) ?_
          refine lv_bipush (v := 8) hx hb dX1_kind_51 (by decide) ?_
          refine lv_iadd hx hb dX1_kind_53 ?_
          refine lv_topi (fun x_34 ex_34 => ?_)
          obtain rfl : x_34 = 13 := ex_34.trans (by decide)
          refine lv_goto (tgt := 58) hx hb dX1_kind_54 (by decide) ?_
          exact W.iret (v := 13) hx hb hr (fun t ht hW => ⟨13, rfl, by first | (simp only [mKind, if_pos c_2, if_neg c_25, if_pos c_27, if_pos c_33, bI_t, bI_f]; done) | (simp only [mKind, if_pos c_2, if_neg c_25, if_pos c_27, if_pos c_33, bI_t, bI_f]; rfl), ht⟩) hS.2.2 dX1_kind_58
    · have c_25 := bI_n0 c_25
      refine lv_iload_n hx hb dX1_kind_20 rfl (lv_at hl 0 rfl) ?_
      refine lv_iconst (v := 2) hx hb dX1_kind_21 (by decide) ?_
      refine lv_iadd hx hb dX1_kind_22 ?_
      refine lv_topi (fun x_35 ex_35 => ?_)
      obtain rfl : x_35 = 3 := ex_35.trans (by decide)
      refine lv_goto (tgt := 27) hx hb dX1_kind_23 (by decide) ?_
      refine lv_istore_n (lv' := [(2, .int 3), (0, .ref g0), (1, .int v)]) hx hb dX1_kind_27 rfl hl (by decide) rfl (fun ls hl => ?_)
      refine lv_iload_n hx hb dX1_kind_28 rfl (lv_at hl 2 rfl) ?_
      refine vp_callSi (W.runS (As := [.int v]) (rest := []) ⟨hx, hb, hml, hown, hts⟩ (c_X1_isBegin l v) (va_cwS 1 hts gX1_kind_X1_isBegin rfl rfl rfl (by decide +kernel) ⟨Nat.le_of_ble_eq_true rfl, Nat.le_of_ble_eq_true rfl⟩) ⟨fun _ _ _ _ q => q, fun U hU hW => ⟨rfl, trivial⟩⟩ rfl rfl hl.1 rfl (lv_room (Nat.le_of_ble_eq_true rfl)) dX1_kind_29 ⟨Nat.le_of_ble_eq_true rfl, Nat.le_of_ble_eq_true rfl⟩) (fun r_36 er_36 => ?_)
      obtain rfl : r_36 = bI (mBeg v) := er_36
      refine lv_if_eq (tgt := 41) hx hb dX1_kind_32 (by decide) (fun c_37 => ?_) (fun c_37 => ?_)
      · have c_37 := bI_0 c_37
        refine lv_iload_n hx hb dX1_kind_41 rfl (lv_at hl 0 rfl) ?_
        refine lv_istore_n (lv' := [(2, .int 3), (0, .ref g0), (1, .int v)]) hx hb dX1_kind_42 rfl hl (by decide) rfl (fun ls hl => ?_)
        refine lv_iload_n hx hb dX1_kind_43 rfl (lv_at hl 2 rfl) ?_
        refine vp_callSi (W.runS (As := [.int v]) (rest := []) ⟨hx, hb, hml, hown, hts⟩ (c_X1_isPart l v) (va_cwS 1 hts gX1_kind_X1_isPart rfl rfl rfl (by decide +kernel) ⟨Nat.le_of_ble_eq_true rfl, Nat.le_of_ble_eq_true rfl⟩) ⟨fun _ _ _ _ q => q, fun U hU hW => ⟨rfl, trivial⟩⟩ rfl rfl hl.1 rfl (lv_room (Nat.le_of_ble_eq_true rfl)) dX1_kind_44 ⟨Nat.le_of_ble_eq_true rfl, Nat.le_of_ble_eq_true rfl⟩) (fun r_38 er_38 => ?_)
        obtain rfl : r_38 = bI (mPart v) := er_38
        refine lv_if_eq (tgt := 57) hx hb dX1_kind_47 (by decide) (fun c_39 => ?_) (fun c_39 => ?_)
        · have c_39 := bI_0 c_39
          refine lv_iload_n hx hb dX1_kind_57 rfl (lv_at hl 0 rfl) ?_
          exact W.iret (v := 3) hx hb hr (fun t ht hW => ⟨3, rfl, by first | (simp only [mKind, if_pos c_2, if_pos c_25, if_neg c_37, if_neg c_39, bI_t, bI_f]; done) | (simp only [mKind, if_pos c_2, if_pos c_25, if_neg c_37, if_neg c_39, bI_t, bI_f]; rfl), ht⟩) hS.2.2 dX1_kind_58
        · have c_39 := bI_n0 c_39
          refine lv_iload_n hx hb dX1_kind_50 rfl (lv_at hl 0 rfl) ?_
          refine lv_bipush (v := 8) hx hb dX1_kind_51 (by decide) ?_
          refine lv_iadd hx hb dX1_kind_53 ?_
          refine lv_topi (fun x_40 ex_40 => ?_)
          obtain rfl : x_40 = 11 := ex_40.trans (by decide)
          refine lv_goto (tgt := 58) hx hb dX1_kind_54 (by decide) ?_
          exact W.iret (v := 11) hx hb hr (fun t ht hW => ⟨11, rfl, by first | (simp only [mKind, if_pos c_2, if_pos c_25, if_neg c_37, if_pos c_39, bI_t, bI_f]; done) | (simp only [mKind, if_pos c_2, if_pos c_25, if_neg c_37, if_pos c_39, bI_t, bI_f]; rfl), ht⟩) hS.2.2 dX1_kind_58
      · have c_37 := bI_n0 c_37
        refine lv_iload_n hx hb dX1_kind_35 rfl (lv_at hl 0 rfl) ?_
        refine lv_iconst (v := 4) hx hb dX1_kind_36 (by decide) ?_
        refine lv_iadd hx hb dX1_kind_37 ?_
        refine lv_topi (fun x_41 ex_41 => ?_)
        obtain rfl : x_41 = 7 := ex_41.trans (by decide)
        refine lv_goto (tgt := 42) hx hb dX1_kind_38 (by decide) ?_
        refine lv_istore_n (lv' := [(2, .int 7), (0, .ref g0), (1, .int v)]) hx hb dX1_kind_42 rfl hl (by decide) rfl (fun ls hl => ?_)
        refine lv_iload_n hx hb dX1_kind_43 rfl (lv_at hl 2 rfl) ?_
        refine vp_callSi (W.runS (As := [.int v]) (rest := []) ⟨hx, hb, hml, hown, hts⟩ (c_X1_isPart l v) (va_cwS 1 hts gX1_kind_X1_isPart rfl rfl rfl (by decide +kernel) ⟨Nat.le_of_ble_eq_true rfl, Nat.le_of_ble_eq_true rfl⟩) ⟨fun _ _ _ _ q => q, fun U hU hW => ⟨rfl, trivial⟩⟩ rfl rfl hl.1 rfl (lv_room (Nat.le_of_ble_eq_true rfl)) dX1_kind_44 ⟨Nat.le_of_ble_eq_true rfl, Nat.le_of_ble_eq_true rfl⟩) (fun r_42 er_42 => ?_)
        obtain rfl : r_42 = bI (mPart v) := er_42
        refine lv_if_eq (tgt := 57) hx hb dX1_kind_47 (by decide) (fun c_43 => ?_) (fun c_43 => ?_)
        · have c_43 := bI_0 c_43
          refine lv_iload_n hx hb dX1_kind_57 rfl (lv_at hl 0 rfl) ?_
          exact W.iret (v := 7) hx hb hr (fun t ht hW => ⟨7, rfl, by first | (simp only [mKind, if_pos c_2, if_pos c_25, if_pos c_37, if_neg c_43, bI_t, bI_f]; done) | (simp only [mKind, if_pos c_2, if_pos c_25, if_pos c_37, if_neg c_43, bI_t, bI_f]; rfl), ht⟩) hS.2.2 dX1_kind_58
        · have c_43 := bI_n0 c_43
          refine lv_iload_n hx hb dX1_kind_50 rfl (lv_at hl 0 rfl) ?_
          refine lv_bipush (v := 8) hx hb dX1_kind_51 (by decide) ?_
          refine lv_iadd hx hb dX1_kind_53 ?_
          refine lv_topi (fun x_44 ex_44 => ?_)
          obtain rfl : x_44 = 15 := ex_44.trans (by decide)
          refine lv_goto (tgt := 58) hx hb dX1_kind_54 (by decide) ?_
          exact W.iret (v := 15) hx hb hr (fun t ht hW => ⟨15, rfl, by first | (simp only [mKind, if_pos c_2, if_pos c_25, if_pos c_37, if_pos c_43, bI_t, bI_f]; done) | (simp only [mKind, if_pos c_2, if_pos c_25, if_pos c_37, if_pos c_43, bI_t, bI_f]; rfl), ht⟩) hS.2.2 dX1_kind_58
set_option maxHeartbeats 4000000 in
set_option maxRecDepth 100000 in
theorem c_X1_place (l : Launch) (dC : Nat → ClassId) (dI : Nat → Nat → Nat) (g0 g1 g2 : Nat) (cA : ClassId) (tb : Nat → Nat) (n : Nat) (kb : Nat → Nat) (ln : Nat) (rd : Bool) (fp : Int32) (st : Nat) (mt bg : Int32)  : Met l yX1_place wsX1_place ({ frames := 0, cells := 0, slots := 0, locals := 0 }) (va_Pc [.ref g0] (fun U => mpre dC dI g0 g1 g2 cA (tb, n, kb, ln, rd, fp, st, mt, bg) U)) (vp_Si (fun r => r = fp)) 0 0 (fun _ => False) := by
  refine Met.ofW (cc := cX1_place) (maxL := 1) (ret := (some .int)) (by decide) rfl ?_
  intro p e s m args below meth c s₁ B hml hv
  obtain ⟨rfl, hP, hK⟩ := hv
  have hx := B.exec
  have hb := B.bytes
  have hr := B.returns
  have hts := atoms_spec (ws := wsX1_place) B.pre
  have hown : s.vm.findClass RX1 = some m.cls := findClass_of_methodNamed B.named
  have hS : va_S (fun _ => False) s.heap s.heap [] := va_S.rf
  have hP : va_P (dC, dI) vwCl [(g0, .inr (1, [.ref g1, .int (nI n), .ref g2, .int (nI ln), .int (bI rd), .int fp, .int (nI st), .int mt, .int bg])), (g1, .inl (cA, 1000, .inl (fun j => nI (tb j)))), (g2, .inl (cA, 1000, .inl (fun j => nI (kb j))))] s.heap := hP
  have hIn : ∀ w ∈ wsX10, w ∈ wsX1_place := by decide +kernel
  have hl := lv_entry ([.ref g0]) (n := 1) (Nat.le_of_ble_eq_true rfl)
  rw [lg_entry_eq]
  generalize (lg_sl ([.ref g0]) ++ List.replicate (1 - (lg_sl ([.ref g0])).length) Slot.unset).toArray = ls at hl ⊢
  have hl : lv_has ls 1 [(0, .ref g0)] := hl
  refine lv_aload_n hx hb dX1_place_0 rfl (lv_at hl 0 rfl) ?_
  refine va_get (D := (dC, dI)) (ci := 1) (v := .int fp) (C := RX1) (T := TX1) (N := 9) hx hb hts hIn hown hK hP 0 rfl rfl 5 (by decide) (hts (.fieldLink RX1 16 RX1 "place" "I") (by decide +kernel)) (fun _ h9 => h9) rfl dX1_place_1 ?_
  exact W.iret (v := fp) hx hb hr (fun t ht hW => ⟨fp, rfl, rfl, ht⟩) hS.2.2 dX1_place_4
end
section
set_option maxHeartbeats 4000000 in
set_option maxRecDepth 100000 in
theorem c_X1_byteOf (l : Launch) (v j : Nat) (hv : v < 1114112) (hj : j < szN v) : Met l yX1_byteOf wsX1_byteOf ({ frames := 1, cells := 0, slots := 0, locals := 21 }) (va_Pc [.int (nI v), .int (nI j)] (fun U => True)) (vp_Si (fun r => r = nI (encN v j))) 0 0 (fun _ => False) := by
  refine Met.ofW (cc := cX1_byteOf) (maxL := 5) (ret := (some .int)) (by decide) rfl ?_
  intro p e s m args below meth c s₁ B hml hv
  obtain ⟨rfl, -⟩ := hv
  have hx := B.exec
  have hb := B.bytes
  have hr := B.returns
  have hts := atoms_spec (ws := wsX1_byteOf) B.pre
  have hown : s.vm.findClass RX1 = some m.cls := findClass_of_methodNamed B.named
  have hS : va_S (fun _ => False) s.heap s.heap [] := va_S.rf
  have hl := lv_entry ([.int (nI v), .int (nI j)]) (n := 5) (Nat.le_of_ble_eq_true rfl)
  rw [lg_entry_eq]
  generalize (lg_sl ([.int (nI v), .int (nI j)]) ++ List.replicate (5 - (lg_sl ([.int (nI v), .int (nI j)])).length) Slot.unset).toArray = ls at hl ⊢
  have hl : lv_has ls 5 [(0, .int (nI v)), (1, .int (nI j))] := hl
  have hsz := szN_in v
  have loop : ∀ (d L : Nat) (ls : Array Slot), j + d < 10 → L < 1114112 → L / 64 ^ d = v / 64 ^ (szN v - 1 - j) → lv_has ls 5 [(4, .int (nI (j + d))), (3, .int (nI L)), (2, .int (nI (szN v))), (0, .int (nI v)), (1, .int (nI j))] → W p l e (headSpec wsX1_byteOf ({ frames := 1, cells := 0, slots := 0, locals := 21 })).room s m ([.int (nI v), .int (nI j)] : List Value).toArray below meth c s.heap [] 0 0 (MQ below (vp_Si (fun r => r = nI (encN v j))) ([.int (nI v), .int (nI j)] : List Value).toArray s 0 0 (fun _ => False)) (F0 m 12 ls []) := by
    intro d
    induction d with
    | zero =>
      intro L ls hd hL hq hl
      have hq' : v / 64 ^ (szN v - 1 - j) = L := by rw [← hq]; simp
      refine lv_iload hx hb dX1_byteOf_12 (lv_at hl 0 rfl) ?_
      refine lv_iload_n hx hb dX1_byteOf_14 rfl (lv_at hl 4 rfl) ?_
      refine lv_icmp_le (tgt := 29) hx hb dX1_byteOf_15 (by decide) (fun c_1 => ?_) (fun c_1 => ?_)
      · have c_1 : j + 0 ≤ j := (nI_leI (a := j + 0) (b := j) (by omega) (by omega)).mp c_1
        refine lv_iload_n hx hb dX1_byteOf_29 rfl (lv_at hl 4 rfl) ?_
        refine lv_if_le (tgt := 42) hx hb dX1_byteOf_30 (by decide) (fun c_2 => ?_) (fun c_2 => ?_)
        · have c_2 : j ≤ 0 := (nI_leI (a := j) (b := 0) (by omega) (by omega)).mp c_2
          refine lv_iload_n hx hb dX1_byteOf_42 rfl (lv_at hl 2 rfl) ?_
          refine lv_iconst (v := 1) hx hb dX1_byteOf_43 (by decide) ?_
          refine lv_icmp_ne (tgt := 51) hx hb dX1_byteOf_44 (by decide) (fun c_3 => ?_) (fun c_3 => ?_)
          · have c_3 : ¬ szN v = 1 := fun zz => c_3 ((nI_eq (a := szN v) (b := 1) (by omega) (by omega)).mpr zz)
            refine lv_iload_n hx hb dX1_byteOf_51 rfl (lv_at hl 2 rfl) ?_
            refine lv_iconst (v := 2) hx hb dX1_byteOf_52 (by decide) ?_
            refine lv_icmp_ne (tgt := 64) hx hb dX1_byteOf_53 (by decide) (fun c_4 => ?_) (fun c_4 => ?_)
            · have c_4 : ¬ szN v = 2 := fun zz => c_4 ((nI_eq (a := szN v) (b := 2) (by omega) (by omega)).mpr zz)
              refine lv_iload_n hx hb dX1_byteOf_64 rfl (lv_at hl 2 rfl) ?_
              refine lv_iconst (v := 3) hx hb dX1_byteOf_65 (by decide) ?_
              refine lv_icmp_ne (tgt := 77) hx hb dX1_byteOf_66 (by decide) (fun c_5 => ?_) (fun c_5 => ?_)
              · have c_5 : ¬ szN v = 3 := fun zz => c_5 ((nI_eq (a := szN v) (b := 3) (by omega) (by omega)).mpr zz)
                refine lv_sipush (v := 240) hx hb dX1_byteOf_77 (by decide) ?_
                refine lv_iload_n hx hb dX1_byteOf_80 rfl (lv_at hl 1 rfl) ?_
                refine lv_iadd hx hb dX1_byteOf_81 ?_
                refine lv_topi (fun x_6 ex_6 => ?_)
                obtain rfl : x_6 = nI (240 + L) := ex_6.trans (nI_add 240 L)
                exact W.iret (v := nI (240 + L)) hx hb hr (fun t ht hW => ⟨nI (240 + L), rfl, (by simp only [encN, hq', if_pos c_2, if_neg c_3, if_neg c_4, if_neg c_5]), ht⟩) hS.2.2 dX1_byteOf_82
              · have c_5 : szN v = 3 := (nI_eq (a := szN v) (b := 3) (by omega) (by omega)).mp c_5
                refine lv_sipush (v := 224) hx hb dX1_byteOf_69 (by decide) ?_
                refine lv_iload_n hx hb dX1_byteOf_72 rfl (lv_at hl 1 rfl) ?_
                refine lv_iadd hx hb dX1_byteOf_73 ?_
                refine lv_topi (fun x_7 ex_7 => ?_)
                obtain rfl : x_7 = nI (224 + L) := ex_7.trans (nI_add 224 L)
                refine lv_goto (tgt := 82) hx hb dX1_byteOf_74 (by decide) ?_
                exact W.iret (v := nI (224 + L)) hx hb hr (fun t ht hW => ⟨nI (224 + L), rfl, (by simp only [encN, hq', if_pos c_2, if_neg c_3, if_neg c_4, if_pos c_5]), ht⟩) hS.2.2 dX1_byteOf_82
            · have c_4 : szN v = 2 := (nI_eq (a := szN v) (b := 2) (by omega) (by omega)).mp c_4
              refine lv_sipush (v := 192) hx hb dX1_byteOf_56 (by decide) ?_
              refine lv_iload_n hx hb dX1_byteOf_59 rfl (lv_at hl 1 rfl) ?_
              refine lv_iadd hx hb dX1_byteOf_60 ?_
              refine lv_topi (fun x_8 ex_8 => ?_)
              obtain rfl : x_8 = nI (192 + L) := ex_8.trans (nI_add 192 L)
              refine lv_goto (tgt := 82) hx hb dX1_byteOf_61 (by decide) ?_
              exact W.iret (v := nI (192 + L)) hx hb hr (fun t ht hW => ⟨nI (192 + L), rfl, (by simp only [encN, hq', if_pos c_2, if_neg c_3, if_pos c_4]), ht⟩) hS.2.2 dX1_byteOf_82
          · have c_3 : szN v = 1 := (nI_eq (a := szN v) (b := 1) (by omega) (by omega)).mp c_3
            refine lv_iload_n hx hb dX1_byteOf_47 rfl (lv_at hl 3 rfl) ?_
            refine lv_goto (tgt := 82) hx hb dX1_byteOf_48 (by decide) ?_
            exact W.iret (v := nI v) hx hb hr (fun t ht hW => ⟨nI v, rfl, (by simp only [encN, hq', if_pos c_2, if_pos c_3]), ht⟩) hS.2.2 dX1_byteOf_82
        · have c_2 : ¬ j ≤ 0 := fun zz => c_2 ((nI_leI (a := j) (b := 0) (by omega) (by omega)).mpr zz)
          refine lv_sipush (v := 128) hx hb dX1_byteOf_33 (by decide) ?_
          refine lv_iload_n hx hb dX1_byteOf_36 rfl (lv_at hl 1 rfl) ?_
          refine lv_bipush (v := 64) hx hb dX1_byteOf_37 (by decide) ?_
          refine lv_irem hx hb dX1_byteOf_39 (by decide) ?_
          refine lv_topi (fun x_9 ex_9 => ?_)
          obtain rfl : x_9 = nI (L % 64) := ex_9.trans (pk_rem (a := L) (d := 64) (by omega) (by omega) (by omega))
          refine lv_iadd hx hb dX1_byteOf_40 ?_
          refine lv_topi (fun x_10 ex_10 => ?_)
          obtain rfl : x_10 = nI (128 + (L % 64)) := ex_10.trans (nI_add 128 (L % 64))
          exact W.iret (v := nI (128 + (L % 64))) hx hb hr (fun t ht hW => ⟨nI (128 + (L % 64)), rfl, (by simp only [encN, hq', if_neg c_2]), ht⟩) hS.2.2 dX1_byteOf_41
      · exact absurd (nI_le (by omega) (by omega)) c_1
    | succ d ih =>
      intro L ls hd hL hq hl
      refine lv_iload hx hb dX1_byteOf_12 (lv_at hl 0 rfl) ?_
      refine lv_iload_n hx hb dX1_byteOf_14 rfl (lv_at hl 4 rfl) ?_
      refine lv_icmp_le (tgt := 29) hx hb dX1_byteOf_15 (by decide) (fun c_11 => ?_) (fun c_11 => ?_)
      · exact absurd c_11 (nI_ge (by omega) (by omega))
      · have c_11 : ¬ j + (d + 1) ≤ j := fun zz => c_11 ((nI_leI (a := j + (d + 1)) (b := j) (by omega) (by omega)).mpr zz)
        refine lv_iload_n hx hb dX1_byteOf_18 rfl (lv_at hl 1 rfl) ?_
        refine lv_bipush (v := 64) hx hb dX1_byteOf_19 (by decide) ?_
        refine lv_idiv hx hb dX1_byteOf_21 (by decide) ?_
        refine lv_topi (fun x_12 ex_12 => ?_)
        obtain rfl : x_12 = nI (L / 64) := ex_12.trans (pk_div (a := L) (d := 64) (by omega) (by omega) (by omega))
        refine lv_istore_n (lv' := [(3, .int (nI (L / 64))), (4, .int (nI (j + (d + 1)))), (2, .int (nI (szN v))), (0, .int (nI v)), (1, .int (nI j))]) hx hb dX1_byteOf_22 rfl hl (by decide) rfl (fun ls hl => ?_)
        refine lv_iinc (v := nI (j + d)) (lv' := [(4, .int (nI (j + d))), (3, .int (nI (L / 64))), (2, .int (nI (szN v))), (0, .int (nI v)), (1, .int (nI j))]) hx hb dX1_byteOf_23 hl (k := 1) rfl (pk_m1 _) (by decide) rfl (fun ls hl => ?_)
        refine lv_goto (tgt := 12) hx hb dX1_byteOf_26 (by decide) ?_
        exact ih (L / 64) ls (by omega) (by omega) (by rw [← hq, Nat.div_div_eq_div_mul, Nat.pow_succ, Nat.mul_comm]) (lv_sub hl [0, 1, 2, 3, 4] rfl)
  refine lv_iload_n hx hb dX1_byteOf_0 rfl (lv_at hl 0 rfl) ?_
  refine vp_callSi (W.runS (As := [.int (nI v)]) (rest := []) ⟨hx, hb, hml, hown, hts⟩ (c_X1_sizeOf l (nI v)) (va_cwS 1 hts gX1_byteOf_X1_sizeOf rfl rfl rfl (by decide +kernel) ⟨Nat.le_of_ble_eq_true rfl, Nat.le_of_ble_eq_true rfl⟩) ⟨fun _ _ _ _ q => q, fun U hU hW => ⟨rfl, trivial⟩⟩ rfl rfl hl.1 rfl (lv_room (Nat.le_of_ble_eq_true rfl)) dX1_byteOf_1 ⟨Nat.le_of_ble_eq_true rfl, Nat.le_of_ble_eq_true rfl⟩) (fun r_13 er_13 => ?_)
  obtain rfl : r_13 = mSize (nI v) := er_13
  rw [mSize_nI (by omega)]
  refine lv_istore_n (lv' := [(2, .int (nI (szN v))), (0, .int (nI v)), (1, .int (nI j))]) hx hb dX1_byteOf_4 rfl hl (by decide) rfl (fun ls hl => ?_)
  refine lv_iload_n hx hb dX1_byteOf_5 rfl (lv_at hl 1 rfl) ?_
  refine lv_istore_n (lv' := [(3, .int (nI v)), (2, .int (nI (szN v))), (0, .int (nI v)), (1, .int (nI j))]) hx hb dX1_byteOf_6 rfl hl (by decide) rfl (fun ls hl => ?_)
  refine lv_iload_n hx hb dX1_byteOf_7 rfl (lv_at hl 1 rfl) ?_
  refine lv_iconst (v := 1) hx hb dX1_byteOf_8 (by decide) ?_
  refine lv_isub hx hb dX1_byteOf_9 ?_
  refine lv_topi (fun x_14 ex_14 => ?_)
  obtain rfl : x_14 = nI (szN v - 1) := ex_14.trans (pk_sub (a := szN v) (b := 1) (by omega))
  refine lv_istore (lv' := [(4, .int (nI (szN v - 1))), (3, .int (nI v)), (2, .int (nI (szN v))), (0, .int (nI v)), (1, .int (nI j))]) hx hb dX1_byteOf_10 hl (by decide) rfl (fun ls hl => ?_)
  exact loop (szN v - 1 - j) v ls (by omega) hv rfl (by rw [show j + (szN v - 1 - j) = szN v - 1 by omega]; exact lv_sub hl [0, 1, 2, 3, 4] rfl)
set_option maxHeartbeats 4000000 in
set_option maxRecDepth 100000 in
theorem c_X1_put_no (l : Launch) (dC : Nat → ClassId) (dI : Nat → Nat → Nat) (g0 g1 g2 : Nat) (cA : ClassId) (sz : Nat) (tb : Nat → Nat) (n : Nat) (kb : Nat → Nat) (ln : Nat) (rd : Bool) (fp : Int32) (st : Nat) (mt bg : Int32) (v : Int64) (q : Int32) (hno : mPutOk n q = false) : Met l yX1_put wsX1_put ({ frames := 0, cells := 0, slots := 0, locals := 0 }) (va_Pc [.ref g0, .long v, .int q] (fun U => mmut dC dI g0 g1 g2 cA sz (tb, n, kb, ln, rd, fp, st, mt, bg) U)) (va_Qi (fun (r : Int32) (u : MS) => r = 0 ∧ u = (tb, n, kb, ln, rd, fp, st, mt, bg)) (matt dC dI g0 g1 g2 cA (va_A (mw g0 g1 g2 cA (tb, n, kb, ln, rd, fp, st, mt, bg)) sz)) (va_A (mw g0 g1 g2 cA (tb, n, kb, ln, rd, fp, st, mt, bg)) sz)) 0 0 (va_A (mw g0 g1 g2 cA (tb, n, kb, ln, rd, fp, st, mt, bg)) sz) := by
  refine Met.ofW (cc := cX1_put) (maxL := 5) (ret := (some .boolean)) (by decide) rfl ?_
  intro p e s m args below meth c s₁ B hml hv
  obtain ⟨rfl, hsz, hP, hK, hD0⟩ := hv
  have hx := B.exec
  have hb := B.bytes
  have hr := B.returns
  have hts := atoms_spec (ws := wsX1_put) B.pre
  have hown : s.vm.findClass RX1 = some m.cls := findClass_of_methodNamed B.named
  subst hsz
  have hD := hD0.self (sz := s.heap.size)
  generalize hAe : va_A (mw g0 g1 g2 cA (tb, n, kb, ln, rd, fp, st, mt, bg)) s.heap.size = A at hD ⊢
  have hA : ∀ q : Nat, s.heap.size ≤ q → A q := fun q h => by rw [← hAe]; exact Or.inr h
  have hS : va_S A s.heap s.heap [] := va_S.rf
  have hP : va_P (dC, dI) vwCl [(g0, .inr (1, [.ref g1, .int (nI n), .ref g2, .int (nI ln), .int (bI rd), .int fp, .int (nI st), .int mt, .int bg])), (g1, .inl (cA, 1000, .inl (fun j => nI (tb j)))), (g2, .inl (cA, 1000, .inl (fun j => nI (kb j))))] s.heap := hP
  have hD : va_D A [(g0, .inr (1, [.ref g1, .int (nI n), .ref g2, .int (nI ln), .int (bI rd), .int fp, .int (nI st), .int mt, .int bg])), (g1, .inl (cA, 1000, .inl (fun j => nI (tb j)))), (g2, .inl (cA, 1000, .inl (fun j => nI (kb j))))] := hD
  have hIn : ∀ w ∈ wsX10, w ∈ wsX1_put := by decide +kernel
  have hl := lv_entry ([.ref g0, .long v, .int q]) (n := 5) (Nat.le_of_ble_eq_true rfl)
  rw [lg_entry_eq]
  generalize (lg_sl ([.ref g0, .long v, .int q]) ++ List.replicate (5 - (lg_sl ([.ref g0, .long v, .int q])).length) Slot.unset).toArray = ls at hl ⊢
  have hl : lv_has ls 5 [(0, .ref g0), (1, .long v), (3, .int q)] := hl
  refine lv_iload_n hx hb dX1_put_0 rfl (lv_at hl 2 rfl) ?_
  refine lv_iconst (v := 1) hx hb dX1_put_1 (by decide) ?_
  refine lv_icmp_lt (tgt := 23) hx hb dX1_put_2 (by decide) (fun c_1 => ?_) (fun c_1 => ?_)
  · refine lv_iconst (v := 0) hx hb dX1_put_23 (by decide) ?_
    have hP9 : va_P (dC, dI) vwCl (mw g0 g1 g2 cA (tb, n, kb, ln, rd, fp, st, mt, bg)) s.heap := hP
    have hD9 : va_D A (mw g0 g1 g2 cA (tb, n, kb, ln, rd, fp, st, mt, bg)) := hD
    exact W.zret (v := 0) (ty := .boolean) hx hb hr (rfl) (fun t ht hW => ⟨⟨0, (tb, n, kb, ln, rd, fp, st, mt, bg), rfl, ⟨rfl, rfl⟩, by rw [ht]; exact hP9, va_K.moved hW.alike hK, hD9⟩, hS.F ht⟩) hS.2.2 dX1_put_24
  · refine lv_iload_n hx hb dX1_put_5 rfl (lv_at hl 2 rfl) ?_
    refine lv_bipush (v := 8) hx hb dX1_put_6 (by decide) ?_
    refine lv_icmp_gt (tgt := 23) hx hb dX1_put_8 (by decide) (fun c_2 => ?_) (fun c_2 => ?_)
    · refine lv_iconst (v := 0) hx hb dX1_put_23 (by decide) ?_
      have hP9 : va_P (dC, dI) vwCl (mw g0 g1 g2 cA (tb, n, kb, ln, rd, fp, st, mt, bg)) s.heap := hP
      have hD9 : va_D A (mw g0 g1 g2 cA (tb, n, kb, ln, rd, fp, st, mt, bg)) := hD
      exact W.zret (v := 0) (ty := .boolean) hx hb hr (rfl) (fun t ht hW => ⟨⟨0, (tb, n, kb, ln, rd, fp, st, mt, bg), rfl, ⟨rfl, rfl⟩, by rw [ht]; exact hP9, va_K.moved hW.alike hK, hD9⟩, hS.F ht⟩) hS.2.2 dX1_put_24
    · refine lv_aload_n hx hb dX1_put_11 rfl (lv_at hl 0 rfl) ?_
      refine va_get (D := (dC, dI)) (ci := 1) (v := .int (nI n)) (C := RX1) (T := TX1) (N := 9) hx hb hts hIn hown hK hP 0 rfl rfl 1 (by decide) (hts (.fieldLink RX1 20 RX1 "size" "I") (by decide +kernel)) (fun _ h9 => h9) rfl dX1_put_12 ?_
      refine lv_iload_n hx hb dX1_put_15 rfl (lv_at hl 2 rfl) ?_
      refine lv_iadd hx hb dX1_put_16 ?_
      refine lv_sipush (v := 1000) hx hb dX1_put_17 (by decide) ?_
      refine lv_icmp_le (tgt := 25) hx hb dX1_put_20 (by decide) (fun c_3 => ?_) (fun c_3 => ?_)
      · exact absurd hno (by rw [mPutOk, if_neg c_1, if_neg c_2, if_pos c_3]; decide)
      · refine lv_iconst (v := 0) hx hb dX1_put_23 (by decide) ?_
        have hP9 : va_P (dC, dI) vwCl (mw g0 g1 g2 cA (tb, n, kb, ln, rd, fp, st, mt, bg)) s.heap := hP
        have hD9 : va_D A (mw g0 g1 g2 cA (tb, n, kb, ln, rd, fp, st, mt, bg)) := hD
        exact W.zret (v := 0) (ty := .boolean) hx hb hr (rfl) (fun t ht hW => ⟨⟨0, (tb, n, kb, ln, rd, fp, st, mt, bg), rfl, ⟨rfl, rfl⟩, by rw [ht]; exact hP9, va_K.moved hW.alike hK, hD9⟩, hS.F ht⟩) hS.2.2 dX1_put_24
set_option maxHeartbeats 4000000 in
set_option maxRecDepth 100000 in
theorem c_X1_put_ok (l : Launch) (dC : Nat → ClassId) (dI : Nat → Nat → Nat) (g0 g1 g2 : Nat) (cA : ClassId) (sz : Nat) (tb : Nat → Nat) (n : Nat) (kb : Nat → Nat) (ln : Nat) (rd : Bool) (fp : Int32) (st : Nat) (mt bg : Int32) (v : Int64) (q : Nat) (h1q : 1 ≤ q) (hq8 : q ≤ 8) (hroom : n + q ≤ 1000) : Met l yX1_put wsX1_put ({ frames := 0, cells := 0, slots := 0, locals := 0 }) (va_Pc [.ref g0, .long v, .int (nI q)] (fun U => mmut dC dI g0 g1 g2 cA sz (tb, n, kb, ln, rd, fp, st, mt, bg) U)) (va_Qi (fun (r : Int32) (u : MS) => r = 1 ∧ u = (putN tb n (fun z => pbN v (q - 1 - z)) q, n + q, kb, ln, rd, fp, st, mt, bg)) (matt dC dI g0 g1 g2 cA (va_A (mw g0 g1 g2 cA (tb, n, kb, ln, rd, fp, st, mt, bg)) sz)) (va_A (mw g0 g1 g2 cA (tb, n, kb, ln, rd, fp, st, mt, bg)) sz)) 0 0 (va_A (mw g0 g1 g2 cA (tb, n, kb, ln, rd, fp, st, mt, bg)) sz) := by
  refine Met.ofW (cc := cX1_put) (maxL := 5) (ret := (some .boolean)) (by decide) rfl ?_
  intro p e s m args below meth c s₁ B hml hv
  obtain ⟨rfl, hsz, hP, hK, hD0⟩ := hv
  have hx := B.exec
  have hb := B.bytes
  have hr := B.returns
  have hts := atoms_spec (ws := wsX1_put) B.pre
  have hown : s.vm.findClass RX1 = some m.cls := findClass_of_methodNamed B.named
  subst hsz
  have hD := hD0.self (sz := s.heap.size)
  generalize hAe : va_A (mw g0 g1 g2 cA (tb, n, kb, ln, rd, fp, st, mt, bg)) s.heap.size = A at hD ⊢
  have hA : ∀ q : Nat, s.heap.size ≤ q → A q := fun q h => by rw [← hAe]; exact Or.inr h
  have hS : va_S A s.heap s.heap [] := va_S.rf
  have hP : va_P (dC, dI) vwCl [(g0, .inr (1, [.ref g1, .int (nI n), .ref g2, .int (nI ln), .int (bI rd), .int fp, .int (nI st), .int mt, .int bg])), (g1, .inl (cA, 1000, .inl (fun j => nI (tb j)))), (g2, .inl (cA, 1000, .inl (fun j => nI (kb j))))] s.heap := hP
  have hD : va_D A [(g0, .inr (1, [.ref g1, .int (nI n), .ref g2, .int (nI ln), .int (bI rd), .int fp, .int (nI st), .int mt, .int bg])), (g1, .inl (cA, 1000, .inl (fun j => nI (tb j)))), (g2, .inl (cA, 1000, .inl (fun j => nI (kb j))))] := hD
  have hIn : ∀ w ∈ wsX10, w ∈ wsX1_put := by decide +kernel
  have hl := lv_entry ([.ref g0, .long v, .int (nI q)]) (n := 5) (Nat.le_of_ble_eq_true rfl)
  rw [lg_entry_eq]
  generalize (lg_sl ([.ref g0, .long v, .int (nI q)]) ++ List.replicate (5 - (lg_sl ([.ref g0, .long v, .int (nI q)])).length) Slot.unset).toArray = ls at hl ⊢
  have hl : lv_has ls 5 [(0, .ref g0), (1, .long v), (3, .int (nI q))] := hl
  have loop : ∀ (d i : Nat) (H : Heap) (locs : List Loc) (ls : Array Slot), i + d = q → va_P (dC, dI) vwCl [(g0, .inr (1, [.ref g1, .int (nI (n + i)), .ref g2, .int (nI ln), .int (bI rd), .int fp, .int (nI st), .int mt, .int bg])), (g1, .inl (cA, 1000, .inl (fun j => nI ((putN tb n (fun z => pbN v (q - 1 - z)) i) j)))), (g2, .inl (cA, 1000, .inl (fun j => nI (kb j))))] H → va_D A [(g0, .inr (1, [.ref g1, .int (nI (n + i)), .ref g2, .int (nI ln), .int (bI rd), .int fp, .int (nI st), .int mt, .int bg])), (g1, .inl (cA, 1000, .inl (fun j => nI ((putN tb n (fun z => pbN v (q - 1 - z)) i) j)))), (g2, .inl (cA, 1000, .inl (fun j => nI (kb j))))] → va_S A s.heap H locs → lv_has ls 5 [(4, .int (nI d + (-1))), (0, .ref g0), (1, .long v), (3, .int (nI q))] → W p l e (headSpec wsX1_put ({ frames := 0, cells := 0, slots := 0, locals := 0 })).room s m ([.ref g0, .long v, .int (nI q)] : List Value).toArray below meth c H locs 0 0 (MQ below (va_Qi (fun (r : Int32) (u : MS) => r = 1 ∧ u = (putN tb n (fun z => pbN v (q - 1 - z)) q, n + q, kb, ln, rd, fp, st, mt, bg)) (matt dC dI g0 g1 g2 cA A) A) ([.ref g0, .long v, .int (nI q)] : List Value).toArray s 0 0 A) (F0 m 30 ls []) := by
    intro d
    induction d with
    | zero =>
      intro i H locs ls hid hP hD hS hl
      refine lv_iload hx hb dX1_put_30 (lv_at hl 0 rfl) ?_
      refine lv_if_lt (tgt := 72) hx hb dX1_put_32 (by decide) (fun c_1 => ?_) (fun c_1 => ?_)
      · refine lv_iconst (v := 1) hx hb dX1_put_72 (by decide) ?_
        have hP9 : va_P (dC, dI) vwCl (mw g0 g1 g2 cA ((putN tb n (fun z => pbN v (q - 1 - z)) i), (n + i), kb, ln, rd, fp, st, mt, bg)) H := hP
        have hD9 : va_D A (mw g0 g1 g2 cA ((putN tb n (fun z => pbN v (q - 1 - z)) i), (n + i), kb, ln, rd, fp, st, mt, bg)) := hD
        exact W.zret (v := 1) (ty := .boolean) hx hb hr (rfl) (fun t ht hW => ⟨⟨1, ((putN tb n (fun z => pbN v (q - 1 - z)) i), (n + i), kb, ln, rd, fp, st, mt, bg), rfl, ⟨rfl, by rw [show i = q by omega]⟩, by rw [ht]; exact hP9, va_K.moved hW.alike hK, hD9⟩, hS.F ht⟩) hS.2.2 dX1_put_73
      · exact absurd (show nI 0 + (-1) < 0 by decide) c_1
    | succ d ih =>
      intro i H locs ls hid hP hD hS hl
      rw [pk_m1] at hl
      refine lv_iload hx hb dX1_put_30 (lv_at hl 0 rfl) ?_
      refine lv_if_lt (tgt := 72) hx hb dX1_put_32 (by decide) (fun c_2 => ?_) (fun c_2 => ?_)
      · exact absurd c_2 (nI_pos (by omega))
      · have c_2 : ¬ d < 0 := fun zz => c_2 ((nI_ltI (a := d) (b := 0) (by omega) (by omega)).mpr zz)
        refine lv_aload_n hx hb dX1_put_35 rfl (lv_at hl 1 rfl) ?_
        refine va_get (D := (dC, dI)) (ci := 1) (v := .ref g1) (C := RX1) (T := TX1) (N := 9) hx hb hts hIn hown hK hP 0 rfl rfl 0 (by decide) (hts (.fieldLink RX1 7 RX1 "text" "[I") (by decide +kernel)) (fun _ h9 => h9) rfl dX1_put_36 ?_
        refine lv_aload_n hx hb dX1_put_39 rfl (lv_at hl 1 rfl) ?_
        refine va_get (D := (dC, dI)) (ci := 1) (v := .int (nI (n + i))) (C := RX1) (T := TX1) (N := 9) hx hb hts hIn hown hK hP 0 rfl rfl 1 (by decide) (hts (.fieldLink RX1 20 RX1 "size" "I") (by decide +kernel)) (fun _ h9 => h9) rfl dX1_put_40 ?_
        refine lv_lload_n hx hb dX1_put_43 rfl (lv_at hl 2 rfl) ?_
        refine lv_bipush (v := 8) hx hb dX1_put_44 (by decide) ?_
        refine lv_iload hx hb dX1_put_46 (lv_at hl 0 rfl) ?_
        refine lv_imul hx hb dX1_put_48 ?_
        refine lv_topi (fun x_3 ex_3 => ?_)
        obtain rfl : x_3 = nI (8 * d) := ex_3.trans (pk_mul 8 d)
        refine lv_lshr hx hb dX1_put_49 rfl ?_
        refine lv_ldc2 (own := RX1) (v := 255) hx hb hown (hts (.constantLong RX1 23 255) (by decide +kernel)) dX1_put_50 ?_
        refine lv_land hx hb dX1_put_53 ?_
        refine lv_l2i hx hb dX1_put_54 rfl ?_
        refine lv_topi (fun x_4 ex_4 => ?_)
        obtain rfl : x_4 = nI (pbN v d) := ex_4.trans (mPb_nI v d)
        refine va_iast hx hb hK hP hD hS 1 0 rfl rfl (vp_in_nI (by omega) (by omega)) dX1_put_55 (fun H locs hP hD hS => ?_)
        rw [nI_clamp (by omega), upd_nI] at hP hD
        have hP : va_P (dC, dI) vwCl [(g0, .inr (1, [.ref g1, .int (nI (n + i)), .ref g2, .int (nI ln), .int (bI rd), .int fp, .int (nI st), .int mt, .int bg])), (g1, .inl (cA, 1000, .inl (fun j => nI ((updN (putN tb n (fun z => pbN v (q - 1 - z)) i) (n + i) (pbN v d)) j)))), (g2, .inl (cA, 1000, .inl (fun j => nI (kb j))))] H := hP
        have hD : va_D A [(g0, .inr (1, [.ref g1, .int (nI (n + i)), .ref g2, .int (nI ln), .int (bI rd), .int fp, .int (nI st), .int mt, .int bg])), (g1, .inl (cA, 1000, .inl (fun j => nI ((updN (putN tb n (fun z => pbN v (q - 1 - z)) i) (n + i) (pbN v d)) j)))), (g2, .inl (cA, 1000, .inl (fun j => nI (kb j))))] := hD
        refine lv_aload_n hx hb dX1_put_56 rfl (lv_at hl 1 rfl) ?_
        refine lv_dup hx hb dX1_put_57 rfl ?_
        refine va_get (D := (dC, dI)) (ci := 1) (v := .int (nI (n + i))) (C := RX1) (T := TX1) (N := 9) hx hb hts hIn hown hK hP 0 rfl rfl 1 (by decide) (hts (.fieldLink RX1 20 RX1 "size" "I") (by decide +kernel)) (fun _ h9 => h9) rfl dX1_put_58 ?_
        refine lv_iconst (v := 1) hx hb dX1_put_61 (by decide) ?_
        refine lv_iadd hx hb dX1_put_62 ?_
        refine lv_topi (fun x_5 ex_5 => ?_)
        obtain rfl : x_5 = nI (n + i + 1) := ex_5.trans (nI_add (n + i) 1)
        refine va_put (D := (dC, dI)) (ci := 1) (v := .int (nI (n + i + 1))) (ty := .int) (C := RX1) (T := TX1) (N := 9) hx hb hts hIn tyX1 tyX1_ok nmX1 hown hK hP hD hS 0 rfl rfl 1 (by decide) (hts (.fieldLink RX1 20 RX1 "size" "I") (by decide +kernel)) (fun _ h9 => h9) rfl (by decide +kernel) rfl rfl (Nat.le_of_ble_eq_true rfl) dX1_put_63 (fun H locs hP hD hS => ?_)
        have hP : va_P (dC, dI) vwCl [(g0, .inr (1, [.ref g1, .int (nI (n + i + 1)), .ref g2, .int (nI ln), .int (bI rd), .int fp, .int (nI st), .int mt, .int bg])), (g1, .inl (cA, 1000, .inl (fun j => nI ((updN (putN tb n (fun z => pbN v (q - 1 - z)) i) (n + i) (pbN v d)) j)))), (g2, .inl (cA, 1000, .inl (fun j => nI (kb j))))] H := hP
        have hD : va_D A [(g0, .inr (1, [.ref g1, .int (nI (n + i + 1)), .ref g2, .int (nI ln), .int (bI rd), .int fp, .int (nI st), .int mt, .int bg])), (g1, .inl (cA, 1000, .inl (fun j => nI ((updN (putN tb n (fun z => pbN v (q - 1 - z)) i) (n + i) (pbN v d)) j)))), (g2, .inl (cA, 1000, .inl (fun j => nI (kb j))))] := hD
        refine lv_iinc (v := nI d + (-1)) (lv' := [(4, .int (nI d + (-1))), (0, .ref g0), (1, .long v), (3, .int (nI q))]) hx hb dX1_put_66 hl (k := 0) rfl rfl (by decide) rfl (fun ls hl => ?_)
        refine lv_goto (tgt := 30) hx hb dX1_put_69 (by decide) ?_
        have hput : updN (putN tb n (fun z => pbN v (q - 1 - z)) i) (n + i) (pbN v d) = putN tb n (fun z => pbN v (q - 1 - z)) (i + 1) := by rw [putN, show q - 1 - i = d by omega]
        rw [hput] at hP hD
        exact ih (i + 1) H locs ls (by omega) hP hD hS (lv_sub hl [0, 1, 2, 3] rfl)
  refine lv_iload_n hx hb dX1_put_0 rfl (lv_at hl 2 rfl) ?_
  refine lv_iconst (v := 1) hx hb dX1_put_1 (by decide) ?_
  refine lv_icmp_lt (tgt := 23) hx hb dX1_put_2 (by decide) (fun c_6 => ?_) (fun c_6 => ?_)
  · exact absurd (show nI q < nI 1 from c_6) (nI_nlt (by omega) (by omega))
  · have c_6 : ¬ q < 1 := fun zz => c_6 ((nI_ltI (a := q) (b := 1) (by omega) (by omega)).mpr zz)
    refine lv_iload_n hx hb dX1_put_5 rfl (lv_at hl 2 rfl) ?_
    refine lv_bipush (v := 8) hx hb dX1_put_6 (by decide) ?_
    refine lv_icmp_gt (tgt := 23) hx hb dX1_put_8 (by decide) (fun c_7 => ?_) (fun c_7 => ?_)
    · exact absurd (show nI 8 < nI q from c_7) (nI_nlt (by omega) (by omega))
    · have c_7 : ¬ 8 < q := fun zz => c_7 ((nI_ltI (a := 8) (b := q) (by omega) (by omega)).mpr zz)
      refine lv_aload_n hx hb dX1_put_11 rfl (lv_at hl 0 rfl) ?_
      refine va_get (D := (dC, dI)) (ci := 1) (v := .int (nI n)) (C := RX1) (T := TX1) (N := 9) hx hb hts hIn hown hK hP 0 rfl rfl 1 (by decide) (hts (.fieldLink RX1 20 RX1 "size" "I") (by decide +kernel)) (fun _ h9 => h9) rfl dX1_put_12 ?_
      refine lv_iload_n hx hb dX1_put_15 rfl (lv_at hl 2 rfl) ?_
      refine lv_iadd hx hb dX1_put_16 ?_
      refine lv_topi (fun x_8 ex_8 => ?_)
      obtain rfl : x_8 = nI (n + q) := ex_8.trans (nI_add n q)
      refine lv_sipush (v := 1000) hx hb dX1_put_17 (by decide) ?_
      refine lv_icmp_le (tgt := 25) hx hb dX1_put_20 (by decide) (fun c_9 => ?_) (fun c_9 => ?_)
      · have c_9 : n + q ≤ 1000 := (nI_leI (a := n + q) (b := 1000) (by omega) (by omega)).mp c_9
        refine lv_iload_n hx hb dX1_put_25 rfl (lv_at hl 2 rfl) ?_
        refine lv_iconst (v := 1) hx hb dX1_put_26 (by decide) ?_
        refine lv_isub hx hb dX1_put_27 ?_
        refine lv_topi (fun x_10 ex_10 => ?_)
        obtain rfl : x_10 = nI q + (-1) := ex_10.trans ((pk_sub (b := 1) (by omega)).trans (sb_m1 (by omega)).symm)
        refine lv_istore (lv' := [(4, .int (nI q + (-1))), (0, .ref g0), (1, .long v), (3, .int (nI q))]) hx hb dX1_put_28 hl (by decide) rfl (fun ls hl => ?_)
        exact loop q 0 s.heap [] ls (by omega) hP hD hS (lv_sub hl [0, 1, 2, 3] rfl)
      · exact absurd (show nI (n + q) ≤ nI 1000 from nI_le (by omega) (by omega)) c_9
set_option maxHeartbeats 4000000 in
set_option maxRecDepth 100000 in
theorem c_X1_character_no (l : Launch) (dC : Nat → ClassId) (dI : Nat → Nat → Nat) (g0 g1 g2 : Nat) (cA : ClassId) (sz : Nat) (tb : Nat → Nat) (n : Nat) (kb : Nat → Nat) (ln : Nat) (rd : Bool) (fp : Int32) (st : Nat) (mt bg : Int32) (v : Int32) (hno : mChOk n v = false) : Met l yX1_character wsX1_character ({ frames := 2, cells := 0, slots := 0, locals := 45 }) (va_Pc [.ref g0, .int v] (fun U => mmut dC dI g0 g1 g2 cA sz (tb, n, kb, ln, rd, fp, st, mt, bg) U)) (va_Qi (fun (r : Int32) (u : MS) => r = 0 ∧ u = (tb, n, kb, ln, rd, fp, st, mt, bg)) (matt dC dI g0 g1 g2 cA (va_A (mw g0 g1 g2 cA (tb, n, kb, ln, rd, fp, st, mt, bg)) sz)) (va_A (mw g0 g1 g2 cA (tb, n, kb, ln, rd, fp, st, mt, bg)) sz)) 0 0 (va_A (mw g0 g1 g2 cA (tb, n, kb, ln, rd, fp, st, mt, bg)) sz) := by
  refine Met.ofW (cc := cX1_character) (maxL := 4) (ret := (some .boolean)) (by decide) rfl ?_
  intro p e s m args below meth c s₁ B hml hv
  obtain ⟨rfl, hsz, hP, hK, hD0⟩ := hv
  have hx := B.exec
  have hb := B.bytes
  have hr := B.returns
  have hts := atoms_spec (ws := wsX1_character) B.pre
  have hown : s.vm.findClass RX1 = some m.cls := findClass_of_methodNamed B.named
  subst hsz
  have hD := hD0.self (sz := s.heap.size)
  generalize hAe : va_A (mw g0 g1 g2 cA (tb, n, kb, ln, rd, fp, st, mt, bg)) s.heap.size = A at hD ⊢
  have hA : ∀ q : Nat, s.heap.size ≤ q → A q := fun q h => by rw [← hAe]; exact Or.inr h
  have hS : va_S A s.heap s.heap [] := va_S.rf
  have hP : va_P (dC, dI) vwCl [(g0, .inr (1, [.ref g1, .int (nI n), .ref g2, .int (nI ln), .int (bI rd), .int fp, .int (nI st), .int mt, .int bg])), (g1, .inl (cA, 1000, .inl (fun j => nI (tb j)))), (g2, .inl (cA, 1000, .inl (fun j => nI (kb j))))] s.heap := hP
  have hD : va_D A [(g0, .inr (1, [.ref g1, .int (nI n), .ref g2, .int (nI ln), .int (bI rd), .int fp, .int (nI st), .int mt, .int bg])), (g1, .inl (cA, 1000, .inl (fun j => nI (tb j)))), (g2, .inl (cA, 1000, .inl (fun j => nI (kb j))))] := hD
  have hIn : ∀ w ∈ wsX10, w ∈ wsX1_character := by decide +kernel
  have hl := lv_entry ([.ref g0, .int v]) (n := 4) (Nat.le_of_ble_eq_true rfl)
  rw [lg_entry_eq]
  generalize (lg_sl ([.ref g0, .int v]) ++ List.replicate (4 - (lg_sl ([.ref g0, .int v])).length) Slot.unset).toArray = ls at hl ⊢
  have hl : lv_has ls 4 [(0, .ref g0), (1, .int v)] := hl
  refine lv_iload_n hx hb dX1_character_0 rfl (lv_at hl 1 rfl) ?_
  refine vp_callSi (W.runS (As := [.int v]) (rest := []) ⟨hx, hb, hml, hown, hts⟩ (c_X1_has l v) (va_cwS 1 hts gX1_character_X1_has rfl rfl rfl (by decide +kernel) ⟨Nat.le_of_ble_eq_true rfl, Nat.le_of_ble_eq_true rfl⟩) ⟨fun _ _ _ _ q => q, fun U hU hW => ⟨rfl, trivial⟩⟩ rfl rfl hl.1 rfl (lv_room (Nat.le_of_ble_eq_true rfl)) dX1_character_1 ⟨Nat.le_of_ble_eq_true rfl, Nat.le_of_ble_eq_true rfl⟩) (fun r_1 er_1 => ?_)
  obtain rfl : r_1 = bI (mHas v) := er_1
  refine lv_if_eq (tgt := 22) hx hb dX1_character_4 (by decide) (fun c_2 => ?_) (fun c_2 => ?_)
  · have c_2 := bI_0 c_2
    refine lv_iconst (v := 0) hx hb dX1_character_22 (by decide) ?_
    have hP9 : va_P (dC, dI) vwCl (mw g0 g1 g2 cA (tb, n, kb, ln, rd, fp, st, mt, bg)) s.heap := hP
    have hD9 : va_D A (mw g0 g1 g2 cA (tb, n, kb, ln, rd, fp, st, mt, bg)) := hD
    exact W.zret (v := 0) (ty := .boolean) hx hb hr (rfl) (fun t ht hW => ⟨⟨0, (tb, n, kb, ln, rd, fp, st, mt, bg), rfl, ⟨rfl, rfl⟩, by rw [ht]; exact hP9, va_K.moved hW.alike hK, hD9⟩, hS.F ht⟩) hS.2.2 dX1_character_23
  · have c_2 := bI_n0 c_2
    refine lv_aload_n hx hb dX1_character_7 rfl (lv_at hl 0 rfl) ?_
    refine va_get (D := (dC, dI)) (ci := 1) (v := .int (nI n)) (C := RX1) (T := TX1) (N := 9) hx hb hts hIn hown hK hP 0 rfl rfl 1 (by decide) (hts (.fieldLink RX1 20 RX1 "size" "I") (by decide +kernel)) (fun _ h9 => h9) rfl dX1_character_8 ?_
    refine lv_iload_n hx hb dX1_character_11 rfl (lv_at hl 1 rfl) ?_
    refine vp_callSi (W.runS (As := [.int v]) (rest := [.int (nI n)]) ⟨hx, hb, hml, hown, hts⟩ (c_X1_sizeOf l v) (va_cwS 1 hts gX1_character_X1_sizeOf rfl rfl rfl (by decide +kernel) ⟨Nat.le_of_ble_eq_true rfl, Nat.le_of_ble_eq_true rfl⟩) ⟨fun _ _ _ _ q => q, fun U hU hW => ⟨rfl, trivial⟩⟩ rfl rfl hl.1 rfl (lv_room (Nat.le_of_ble_eq_true rfl)) dX1_character_12 ⟨Nat.le_of_ble_eq_true rfl, Nat.le_of_ble_eq_true rfl⟩) (fun r_3 er_3 => ?_)
    obtain rfl : r_3 = mSize v := er_3
    refine lv_iadd hx hb dX1_character_15 ?_
    refine lv_sipush (v := 1000) hx hb dX1_character_16 (by decide) ?_
    refine lv_icmp_le (tgt := 24) hx hb dX1_character_19 (by decide) (fun c_4 => ?_) (fun c_4 => ?_)
    · exact absurd hno (by rw [mChOk, if_pos c_2, if_pos c_4]; decide)
    · refine lv_iconst (v := 0) hx hb dX1_character_22 (by decide) ?_
      have hP9 : va_P (dC, dI) vwCl (mw g0 g1 g2 cA (tb, n, kb, ln, rd, fp, st, mt, bg)) s.heap := hP
      have hD9 : va_D A (mw g0 g1 g2 cA (tb, n, kb, ln, rd, fp, st, mt, bg)) := hD
      exact W.zret (v := 0) (ty := .boolean) hx hb hr (rfl) (fun t ht hW => ⟨⟨0, (tb, n, kb, ln, rd, fp, st, mt, bg), rfl, ⟨rfl, rfl⟩, by rw [ht]; exact hP9, va_K.moved hW.alike hK, hD9⟩, hS.F ht⟩) hS.2.2 dX1_character_23
set_option maxHeartbeats 4000000 in
set_option maxRecDepth 100000 in
theorem c_X1_character_ok (l : Launch) (dC : Nat → ClassId) (dI : Nat → Nat → Nat) (g0 g1 g2 : Nat) (cA : ClassId) (sz : Nat) (tb : Nat → Nat) (n : Nat) (kb : Nat → Nat) (ln : Nat) (rd : Bool) (fp : Int32) (st : Nat) (mt bg : Int32) (v : Nat) (hv : v < 1114112) (hh : mHas (nI v) = true) (hroom : n + szN v ≤ 1000) : Met l yX1_character wsX1_character ({ frames := 2, cells := 0, slots := 0, locals := 45 }) (va_Pc [.ref g0, .int (nI v)] (fun U => mmut dC dI g0 g1 g2 cA sz (tb, n, kb, ln, rd, fp, st, mt, bg) U)) (va_Qi (fun (r : Int32) (u : MS) => r = 1 ∧ u = (putN tb n (fun z => encN v z) (szN v), n + szN v, kb, ln, rd, fp, st, mt, bg)) (matt dC dI g0 g1 g2 cA (va_A (mw g0 g1 g2 cA (tb, n, kb, ln, rd, fp, st, mt, bg)) sz)) (va_A (mw g0 g1 g2 cA (tb, n, kb, ln, rd, fp, st, mt, bg)) sz)) 0 0 (va_A (mw g0 g1 g2 cA (tb, n, kb, ln, rd, fp, st, mt, bg)) sz) := by
  refine Met.ofW (cc := cX1_character) (maxL := 4) (ret := (some .boolean)) (by decide) rfl ?_
  intro p e s m args below meth c s₁ B hml hv
  obtain ⟨rfl, hsz, hP, hK, hD0⟩ := hv
  have hx := B.exec
  have hb := B.bytes
  have hr := B.returns
  have hts := atoms_spec (ws := wsX1_character) B.pre
  have hown : s.vm.findClass RX1 = some m.cls := findClass_of_methodNamed B.named
  subst hsz
  have hD := hD0.self (sz := s.heap.size)
  generalize hAe : va_A (mw g0 g1 g2 cA (tb, n, kb, ln, rd, fp, st, mt, bg)) s.heap.size = A at hD ⊢
  have hA : ∀ q : Nat, s.heap.size ≤ q → A q := fun q h => by rw [← hAe]; exact Or.inr h
  have hS : va_S A s.heap s.heap [] := va_S.rf
  have hP : va_P (dC, dI) vwCl [(g0, .inr (1, [.ref g1, .int (nI n), .ref g2, .int (nI ln), .int (bI rd), .int fp, .int (nI st), .int mt, .int bg])), (g1, .inl (cA, 1000, .inl (fun j => nI (tb j)))), (g2, .inl (cA, 1000, .inl (fun j => nI (kb j))))] s.heap := hP
  have hD : va_D A [(g0, .inr (1, [.ref g1, .int (nI n), .ref g2, .int (nI ln), .int (bI rd), .int fp, .int (nI st), .int mt, .int bg])), (g1, .inl (cA, 1000, .inl (fun j => nI (tb j)))), (g2, .inl (cA, 1000, .inl (fun j => nI (kb j))))] := hD
  have hIn : ∀ w ∈ wsX10, w ∈ wsX1_character := by decide +kernel
  have hl := lv_entry ([.ref g0, .int (nI v)]) (n := 4) (Nat.le_of_ble_eq_true rfl)
  rw [lg_entry_eq]
  generalize (lg_sl ([.ref g0, .int (nI v)]) ++ List.replicate (4 - (lg_sl ([.ref g0, .int (nI v)])).length) Slot.unset).toArray = ls at hl ⊢
  have hl : lv_has ls 4 [(0, .ref g0), (1, .int (nI v))] := hl
  have hsz := szN_in v
  have loop : ∀ (d i : Nat) (H : Heap) (locs : List Loc) (ls : Array Slot), i + d = szN v → va_P (dC, dI) vwCl [(g0, .inr (1, [.ref g1, .int (nI (n + i)), .ref g2, .int (nI ln), .int (bI rd), .int fp, .int (nI st), .int mt, .int bg])), (g1, .inl (cA, 1000, .inl (fun j => nI ((putN tb n (fun z => encN v z) i) j)))), (g2, .inl (cA, 1000, .inl (fun j => nI (kb j))))] H → va_D A [(g0, .inr (1, [.ref g1, .int (nI (n + i)), .ref g2, .int (nI ln), .int (bI rd), .int fp, .int (nI st), .int mt, .int bg])), (g1, .inl (cA, 1000, .inl (fun j => nI ((putN tb n (fun z => encN v z) i) j)))), (g2, .inl (cA, 1000, .inl (fun j => nI (kb j))))] → va_S A s.heap H locs → lv_has ls 4 [(3, .int (nI i)), (2, .int (nI (szN v))), (0, .ref g0), (1, .int (nI v))] → W p l e (headSpec wsX1_character ({ frames := 2, cells := 0, slots := 0, locals := 45 })).room s m ([.ref g0, .int (nI v)] : List Value).toArray below meth c H locs 0 0 (MQ below (va_Qi (fun (r : Int32) (u : MS) => r = 1 ∧ u = (putN tb n (fun z => encN v z) (szN v), n + szN v, kb, ln, rd, fp, st, mt, bg)) (matt dC dI g0 g1 g2 cA A) A) ([.ref g0, .int (nI v)] : List Value).toArray s 0 0 A) (F0 m 31 ls []) := by
    intro d
    induction d with
    | zero =>
      intro i H locs ls hid hP hD hS hl
      refine lv_iload_n hx hb dX1_character_31 rfl (lv_at hl 0 rfl) ?_
      refine lv_iload_n hx hb dX1_character_32 rfl (lv_at hl 1 rfl) ?_
      refine lv_icmp_ge (tgt := 66) hx hb dX1_character_33 (by decide) (fun c_1 => ?_) (fun c_1 => ?_)
      · have c_1 : szN v ≤ i := (nI_leI (a := szN v) (b := i) (by omega) (by omega)).mp c_1
        refine lv_iconst (v := 1) hx hb dX1_character_66 (by decide) ?_
        have hP9 : va_P (dC, dI) vwCl (mw g0 g1 g2 cA ((putN tb n (fun z => encN v z) i), (n + i), kb, ln, rd, fp, st, mt, bg)) H := hP
        have hD9 : va_D A (mw g0 g1 g2 cA ((putN tb n (fun z => encN v z) i), (n + i), kb, ln, rd, fp, st, mt, bg)) := hD
        exact W.zret (v := 1) (ty := .boolean) hx hb hr (rfl) (fun t ht hW => ⟨⟨1, ((putN tb n (fun z => encN v z) i), (n + i), kb, ln, rd, fp, st, mt, bg), rfl, ⟨rfl, by rw [show i = szN v by omega]⟩, by rw [ht]; exact hP9, va_K.moved hW.alike hK, hD9⟩, hS.F ht⟩) hS.2.2 dX1_character_67
      · exact absurd (nI_le (by omega) (by omega)) c_1
    | succ d ih =>
      intro i H locs ls hid hP hD hS hl
      refine lv_iload_n hx hb dX1_character_31 rfl (lv_at hl 0 rfl) ?_
      refine lv_iload_n hx hb dX1_character_32 rfl (lv_at hl 1 rfl) ?_
      refine lv_icmp_ge (tgt := 66) hx hb dX1_character_33 (by decide) (fun c_2 => ?_) (fun c_2 => ?_)
      · exact absurd c_2 (nI_ge (by omega) (by omega))
      · have c_2 : ¬ szN v ≤ i := fun zz => c_2 ((nI_leI (a := szN v) (b := i) (by omega) (by omega)).mpr zz)
        refine lv_aload_n hx hb dX1_character_36 rfl (lv_at hl 2 rfl) ?_
        refine va_get (D := (dC, dI)) (ci := 1) (v := .ref g1) (C := RX1) (T := TX1) (N := 9) hx hb hts hIn hown hK hP 0 rfl rfl 0 (by decide) (hts (.fieldLink RX1 7 RX1 "text" "[I") (by decide +kernel)) (fun _ h9 => h9) rfl dX1_character_37 ?_
        refine lv_aload_n hx hb dX1_character_40 rfl (lv_at hl 2 rfl) ?_
        refine va_get (D := (dC, dI)) (ci := 1) (v := .int (nI (n + i))) (C := RX1) (T := TX1) (N := 9) hx hb hts hIn hown hK hP 0 rfl rfl 1 (by decide) (hts (.fieldLink RX1 20 RX1 "size" "I") (by decide +kernel)) (fun _ h9 => h9) rfl dX1_character_41 ?_
        refine lv_iload_n hx hb dX1_character_44 rfl (lv_at hl 3 rfl) ?_
        refine lv_iload_n hx hb dX1_character_45 rfl (lv_at hl 0 rfl) ?_
        refine vp_callSi (W.runS (As := [.int (nI v), .int (nI i)]) (rest := [.int (nI (n + i)), .ref g1]) ⟨hx, hb, hml, hown, hts⟩ (c_X1_byteOf l v i (by omega) (by omega)) (va_cwS 2 hts gX1_character_X1_byteOf rfl rfl rfl (by decide +kernel) ⟨Nat.le_of_ble_eq_true rfl, Nat.le_of_ble_eq_true rfl⟩) ⟨fun _ _ _ _ q => q, fun U hU hW => ⟨rfl, trivial⟩⟩ rfl rfl hl.1 rfl (lv_room (Nat.le_of_ble_eq_true rfl)) dX1_character_46 ⟨Nat.le_of_ble_eq_true rfl, Nat.le_of_ble_eq_true rfl⟩) (fun r_3 er_3 => ?_)
        obtain rfl : r_3 = nI (encN v i) := er_3
        refine va_iast hx hb hK hP hD hS 1 0 rfl rfl (vp_in_nI (by omega) (by omega)) dX1_character_49 (fun H locs hP hD hS => ?_)
        rw [nI_clamp (by omega), upd_nI] at hP hD
        have hP : va_P (dC, dI) vwCl [(g0, .inr (1, [.ref g1, .int (nI (n + i)), .ref g2, .int (nI ln), .int (bI rd), .int fp, .int (nI st), .int mt, .int bg])), (g1, .inl (cA, 1000, .inl (fun j => nI ((updN (putN tb n (fun z => encN v z) i) (n + i) (encN v i)) j)))), (g2, .inl (cA, 1000, .inl (fun j => nI (kb j))))] H := hP
        have hD : va_D A [(g0, .inr (1, [.ref g1, .int (nI (n + i)), .ref g2, .int (nI ln), .int (bI rd), .int fp, .int (nI st), .int mt, .int bg])), (g1, .inl (cA, 1000, .inl (fun j => nI ((updN (putN tb n (fun z => encN v z) i) (n + i) (encN v i)) j)))), (g2, .inl (cA, 1000, .inl (fun j => nI (kb j))))] := hD
        refine lv_aload_n hx hb dX1_character_50 rfl (lv_at hl 2 rfl) ?_
        refine lv_dup hx hb dX1_character_51 rfl ?_
        refine va_get (D := (dC, dI)) (ci := 1) (v := .int (nI (n + i))) (C := RX1) (T := TX1) (N := 9) hx hb hts hIn hown hK hP 0 rfl rfl 1 (by decide) (hts (.fieldLink RX1 20 RX1 "size" "I") (by decide +kernel)) (fun _ h9 => h9) rfl dX1_character_52 ?_
        refine lv_iconst (v := 1) hx hb dX1_character_55 (by decide) ?_
        refine lv_iadd hx hb dX1_character_56 ?_
        refine lv_topi (fun x_4 ex_4 => ?_)
        obtain rfl : x_4 = nI (n + i + 1) := ex_4.trans (nI_add (n + i) 1)
        refine va_put (D := (dC, dI)) (ci := 1) (v := .int (nI (n + i + 1))) (ty := .int) (C := RX1) (T := TX1) (N := 9) hx hb hts hIn tyX1 tyX1_ok nmX1 hown hK hP hD hS 0 rfl rfl 1 (by decide) (hts (.fieldLink RX1 20 RX1 "size" "I") (by decide +kernel)) (fun _ h9 => h9) rfl (by decide +kernel) rfl rfl (Nat.le_of_ble_eq_true rfl) dX1_character_57 (fun H locs hP hD hS => ?_)
        have hP : va_P (dC, dI) vwCl [(g0, .inr (1, [.ref g1, .int (nI (n + i + 1)), .ref g2, .int (nI ln), .int (bI rd), .int fp, .int (nI st), .int mt, .int bg])), (g1, .inl (cA, 1000, .inl (fun j => nI ((updN (putN tb n (fun z => encN v z) i) (n + i) (encN v i)) j)))), (g2, .inl (cA, 1000, .inl (fun j => nI (kb j))))] H := hP
        have hD : va_D A [(g0, .inr (1, [.ref g1, .int (nI (n + i + 1)), .ref g2, .int (nI ln), .int (bI rd), .int fp, .int (nI st), .int mt, .int bg])), (g1, .inl (cA, 1000, .inl (fun j => nI ((updN (putN tb n (fun z => encN v z) i) (n + i) (encN v i)) j)))), (g2, .inl (cA, 1000, .inl (fun j => nI (kb j))))] := hD
        refine lv_iinc (v := nI (i + 1)) (lv' := [(3, .int (nI (i + 1))), (2, .int (nI (szN v))), (0, .ref g0), (1, .int (nI v))]) hx hb dX1_character_60 hl (k := 0) rfl (nI_1 i) (by decide) rfl (fun ls hl => ?_)
        refine lv_goto (tgt := 31) hx hb dX1_character_63 (by decide) ?_
        exact ih (i + 1) H locs ls (by omega) hP hD hS (lv_sub hl [0, 1, 2, 3] rfl)
  refine lv_iload_n hx hb dX1_character_0 rfl (lv_at hl 1 rfl) ?_
  refine vp_callSi (W.runS (As := [.int (nI v)]) (rest := []) ⟨hx, hb, hml, hown, hts⟩ (c_X1_has l (nI v)) (va_cwS 1 hts gX1_character_X1_has rfl rfl rfl (by decide +kernel) ⟨Nat.le_of_ble_eq_true rfl, Nat.le_of_ble_eq_true rfl⟩) ⟨fun _ _ _ _ q => q, fun U hU hW => ⟨rfl, trivial⟩⟩ rfl rfl hl.1 rfl (lv_room (Nat.le_of_ble_eq_true rfl)) dX1_character_1 ⟨Nat.le_of_ble_eq_true rfl, Nat.le_of_ble_eq_true rfl⟩) (fun r_5 er_5 => ?_)
  obtain rfl : r_5 = bI (mHas (nI v)) := er_5
  refine lv_if_eq (tgt := 22) hx hb dX1_character_4 (by decide) (fun c_6 => ?_) (fun c_6 => ?_)
  · exact absurd hh (bI_0 c_6)
  · have c_6 := bI_n0 c_6
    refine lv_aload_n hx hb dX1_character_7 rfl (lv_at hl 0 rfl) ?_
    refine va_get (D := (dC, dI)) (ci := 1) (v := .int (nI n)) (C := RX1) (T := TX1) (N := 9) hx hb hts hIn hown hK hP 0 rfl rfl 1 (by decide) (hts (.fieldLink RX1 20 RX1 "size" "I") (by decide +kernel)) (fun _ h9 => h9) rfl dX1_character_8 ?_
    refine lv_iload_n hx hb dX1_character_11 rfl (lv_at hl 1 rfl) ?_
    refine vp_callSi (W.runS (As := [.int (nI v)]) (rest := [.int (nI n)]) ⟨hx, hb, hml, hown, hts⟩ (c_X1_sizeOf l (nI v)) (va_cwS 1 hts gX1_character_X1_sizeOf rfl rfl rfl (by decide +kernel) ⟨Nat.le_of_ble_eq_true rfl, Nat.le_of_ble_eq_true rfl⟩) ⟨fun _ _ _ _ q => q, fun U hU hW => ⟨rfl, trivial⟩⟩ rfl rfl hl.1 rfl (lv_room (Nat.le_of_ble_eq_true rfl)) dX1_character_12 ⟨Nat.le_of_ble_eq_true rfl, Nat.le_of_ble_eq_true rfl⟩) (fun r_7 er_7 => ?_)
    obtain rfl : r_7 = mSize (nI v) := er_7
    rw [mSize_nI (by omega)]
    refine lv_iadd hx hb dX1_character_15 ?_
    refine lv_topi (fun x_8 ex_8 => ?_)
    obtain rfl : x_8 = nI (n + (szN v)) := ex_8.trans (nI_add n (szN v))
    refine lv_sipush (v := 1000) hx hb dX1_character_16 (by decide) ?_
    refine lv_icmp_le (tgt := 24) hx hb dX1_character_19 (by decide) (fun c_9 => ?_) (fun c_9 => ?_)
    · have c_9 : n + (szN v) ≤ 1000 := (nI_leI (a := n + (szN v)) (b := 1000) (by omega) (by omega)).mp c_9
      refine lv_iload_n hx hb dX1_character_24 rfl (lv_at hl 1 rfl) ?_
      refine vp_callSi (W.runS (As := [.int (nI v)]) (rest := []) ⟨hx, hb, hml, hown, hts⟩ (c_X1_sizeOf l (nI v)) (va_cwS 1 hts gX1_character_X1_sizeOf rfl rfl rfl (by decide +kernel) ⟨Nat.le_of_ble_eq_true rfl, Nat.le_of_ble_eq_true rfl⟩) ⟨fun _ _ _ _ q => q, fun U hU hW => ⟨rfl, trivial⟩⟩ rfl rfl hl.1 rfl (lv_room (Nat.le_of_ble_eq_true rfl)) dX1_character_25 ⟨Nat.le_of_ble_eq_true rfl, Nat.le_of_ble_eq_true rfl⟩) (fun r_10 er_10 => ?_)
      obtain rfl : r_10 = mSize (nI v) := er_10
      rw [mSize_nI (by omega)]
      refine lv_istore_n (lv' := [(2, .int (nI (szN v))), (0, .ref g0), (1, .int (nI v))]) hx hb dX1_character_28 rfl hl (by decide) rfl (fun ls hl => ?_)
      refine lv_iconst (v := 0) hx hb dX1_character_29 (by decide) ?_
      refine lv_istore_n (lv' := [(3, .int 0), (2, .int (nI (szN v))), (0, .ref g0), (1, .int (nI v))]) hx hb dX1_character_30 rfl hl (by decide) rfl (fun ls hl => ?_)
      exact loop (szN v) 0 s.heap [] ls (by omega) hP hD hS (lv_sub hl [0, 1, 2, 3] rfl)
    · exact absurd (show nI (n + szN v) ≤ nI 1000 from nI_le (by omega) (by omega)) c_9
end
section
set_option maxHeartbeats 4000000 in
set_option maxRecDepth 100000 in
theorem c_X1_sequence (l : Launch) (dC : Nat → ClassId) (dI : Nat → Nat → Nat) (g0 g1 g2 : Nat) (cA : ClassId) (sz : Nat) (tb : Nat → Nat) (n : Nat) (kb : Nat → Nat) (ln : Nat) (rd : Bool) (fp : Int32) (st : Nat) (mt bg : Int32) (hkb : ∀ j, kb j < 256) (hst : st < ln) (hln : ln ≤ 1000) : Met l yX1_sequence wsX1_sequence ({ frames := 1, cells := 0, slots := 0, locals := 21 }) (va_Pc [.ref g0] (fun U => mmut dC dI g0 g1 g2 cA sz (tb, n, kb, ln, rd, fp, st, mt, bg) U)) (va_Qi (fun (r : Int32) (u : MS) => r = seqR (seqN kb ln st) ∧ u = (tb, n, kb, ln, rd, fp, seqS st (seqN kb ln st), mt, bg)) (matt dC dI g0 g1 g2 cA (va_A (mw g0 g1 g2 cA (tb, n, kb, ln, rd, fp, st, mt, bg)) sz)) (va_A (mw g0 g1 g2 cA (tb, n, kb, ln, rd, fp, st, mt, bg)) sz)) 0 0 (va_A (mw g0 g1 g2 cA (tb, n, kb, ln, rd, fp, st, mt, bg)) sz) := by
  refine Met.ofW (cc := cX1_sequence) (maxL := 6) (ret := (some .int)) (by decide) rfl ?_
  intro p e s m args below meth c s₁ B hml hv
  obtain ⟨rfl, hsz, hP, hK, hD0⟩ := hv
  have hx := B.exec
  have hb := B.bytes
  have hr := B.returns
  have hts := atoms_spec (ws := wsX1_sequence) B.pre
  have hown : s.vm.findClass RX1 = some m.cls := findClass_of_methodNamed B.named
  subst hsz
  have hD := hD0.self (sz := s.heap.size)
  generalize hAe : va_A (mw g0 g1 g2 cA (tb, n, kb, ln, rd, fp, st, mt, bg)) s.heap.size = A at hD ⊢
  have hA : ∀ q : Nat, s.heap.size ≤ q → A q := fun q h => by rw [← hAe]; exact Or.inr h
  have hS : va_S A s.heap s.heap [] := va_S.rf
  have hP : va_P (dC, dI) vwCl [(g0, .inr (1, [.ref g1, .int (nI n), .ref g2, .int (nI ln), .int (bI rd), .int fp, .int (nI st), .int mt, .int bg])), (g1, .inl (cA, 1000, .inl (fun j => nI (tb j)))), (g2, .inl (cA, 1000, .inl (fun j => nI (kb j))))] s.heap := hP
  have hD : va_D A [(g0, .inr (1, [.ref g1, .int (nI n), .ref g2, .int (nI ln), .int (bI rd), .int fp, .int (nI st), .int mt, .int bg])), (g1, .inl (cA, 1000, .inl (fun j => nI (tb j)))), (g2, .inl (cA, 1000, .inl (fun j => nI (kb j))))] := hD
  have hIn : ∀ w ∈ wsX10, w ∈ wsX1_sequence := by decide +kernel
  have hl := lv_entry ([.ref g0]) (n := 6) (Nat.le_of_ble_eq_true rfl)
  rw [lg_entry_eq]
  generalize (lg_sl ([.ref g0]) ++ List.replicate (6 - (lg_sl ([.ref g0])).length) Slot.unset).toArray = ls at hl ⊢
  have hl : lv_has ls 6 [(0, .ref g0)] := hl
  refine lv_aload_n hx hb dX1_sequence_0 rfl (lv_at hl 0 rfl) ?_
  refine va_get (D := (dC, dI)) (ci := 1) (v := .ref g2) (C := RX1) (T := TX1) (N := 9) hx hb hts hIn hown hK hP 0 rfl rfl 2 (by decide) (hts (.fieldLink RX1 13 RX1 "kept" "[I") (by decide +kernel)) (fun _ h9 => h9) rfl dX1_sequence_1 ?_
  refine lv_aload_n hx hb dX1_sequence_4 rfl (lv_at hl 0 rfl) ?_
  refine va_get (D := (dC, dI)) (ci := 1) (v := .int (nI st)) (C := RX1) (T := TX1) (N := 9) hx hb hts hIn hown hK hP 0 rfl rfl 6 (by decide) (hts (.fieldLink RX1 41 RX1 "stand" "I") (by decide +kernel)) (fun _ h9 => h9) rfl dX1_sequence_5 ?_
  refine va_iald hx hb hK hP 2 0 rfl rfl (vp_in_nI (n := st) (by omega) (by omega)) dX1_sequence_8 ?_
  refine lv_topi (fun x_1 ex_1 => ?_)
  obtain rfl : x_1 = nI (kb st) := ex_1.trans (congrArg (fun j => nI (kb j)) ((nI_clamp (by omega))))
  have hb_2 := hkb st
  refine lv_istore_n (lv' := [(1, .int (nI (kb st))), (0, .ref g0)]) hx hb dX1_sequence_9 rfl hl (by decide) rfl (fun ls hl => ?_)
  refine lv_iload_n hx hb dX1_sequence_10 rfl (lv_at hl 0 rfl) ?_
  refine lv_sipush (v := 128) hx hb dX1_sequence_11 (by decide) ?_
  refine lv_icmp_ge (tgt := 21) hx hb dX1_sequence_14 (by decide) (fun c_3 => ?_) (fun c_3 => ?_)
  · have c_3 : 128 ≤ kb st := (nI_leI (a := 128) (b := kb st) (by omega) (by omega)).mp c_3
    refine lv_iload_n hx hb dX1_sequence_21 rfl (lv_at hl 0 rfl) ?_
    refine lv_sipush (v := 192) hx hb dX1_sequence_22 (by decide) ?_
    refine lv_icmp_ge (tgt := 32) hx hb dX1_sequence_25 (by decide) (fun c_4 => ?_) (fun c_4 => ?_)
    · have c_4 : 192 ≤ kb st := (nI_leI (a := 192) (b := kb st) (by omega) (by omega)).mp c_4
      refine lv_iload_n hx hb dX1_sequence_32 rfl (lv_at hl 0 rfl) ?_
      refine lv_sipush (v := 224) hx hb dX1_sequence_33 (by decide) ?_
      refine lv_icmp_ge (tgt := 43) hx hb dX1_sequence_36 (by decide) (fun c_5 => ?_) (fun c_5 => ?_)
      · have c_5 : 224 ≤ kb st := (nI_leI (a := 224) (b := kb st) (by omega) (by omega)).mp c_5
        refine lv_iload_n hx hb dX1_sequence_43 rfl (lv_at hl 0 rfl) ?_
        refine lv_sipush (v := 240) hx hb dX1_sequence_44 (by decide) ?_
        refine lv_icmp_ge (tgt := 54) hx hb dX1_sequence_47 (by decide) (fun c_6 => ?_) (fun c_6 => ?_)
        · have c_6 : 240 ≤ kb st := (nI_leI (a := 240) (b := kb st) (by omega) (by omega)).mp c_6
          refine lv_iload_n hx hb dX1_sequence_54 rfl (lv_at hl 0 rfl) ?_
          refine lv_sipush (v := 248) hx hb dX1_sequence_55 (by decide) ?_
          refine lv_icmp_ge (tgt := 65) hx hb dX1_sequence_58 (by decide) (fun c_7 => ?_) (fun c_7 => ?_)
          · have c_7 : 248 ≤ kb st := (nI_leI (a := 248) (b := kb st) (by omega) (by omega)).mp c_7
            refine lv_iconst (v := 0) hx hb dX1_sequence_65 (by decide) ?_
            refine lv_istore_n (lv' := [(2, .int 0), (1, .int (nI (kb st))), (0, .ref g0)]) hx hb dX1_sequence_66 rfl hl (by decide) rfl (fun ls hl => ?_)
            refine lv_iload_n hx hb dX1_sequence_67 rfl (lv_at hl 0 rfl) ?_
            refine lv_if_eq (tgt := 84) hx hb dX1_sequence_68 (by decide) (fun c_8 => ?_) (fun c_8 => ?_)
            · have c_8 : 0 = 0 := (nI_eq (a := 0) (b := 0) (by omega) (by omega)).mp c_8
              refine lv_iconst (v := -1) hx hb dX1_sequence_84 (by decide) ?_
              have hP9 : va_P (dC, dI) vwCl (mw g0 g1 g2 cA (tb, n, kb, ln, rd, fp, st, mt, bg)) s.heap := hP
              have hD9 : va_D A (mw g0 g1 g2 cA (tb, n, kb, ln, rd, fp, st, mt, bg)) := hD
              exact W.iret (v := (-1)) hx hb hr (fun t ht hW => ⟨⟨(-1), (tb, n, kb, ln, rd, fp, st, mt, bg), rfl, (by simp only [seqN, seq1, seq2, seq3, seq4, finN, if_pos c_3, if_pos c_4, if_pos c_5, if_pos c_6, if_pos c_7, if_pos c_8, seqR_n, seqR_s, seqS_n, seqS_s, and_self]), by rw [ht]; exact hP9, va_K.moved hW.alike hK, hD9⟩, hS.F ht⟩) hS.2.2 dX1_sequence_85
            · exact absurd c_8 (by decide)
          · have c_7 : ¬ 248 ≤ kb st := fun zz => c_7 ((nI_leI (a := 248) (b := kb st) (by omega) (by omega)).mpr zz)
            refine lv_iconst (v := 4) hx hb dX1_sequence_61 (by decide) ?_
            refine lv_goto (tgt := 66) hx hb dX1_sequence_62 (by decide) ?_
            refine lv_istore_n (lv' := [(2, .int 4), (1, .int (nI (kb st))), (0, .ref g0)]) hx hb dX1_sequence_66 rfl hl (by decide) rfl (fun ls hl => ?_)
            refine lv_iload_n hx hb dX1_sequence_67 rfl (lv_at hl 0 rfl) ?_
            refine lv_if_eq (tgt := 84) hx hb dX1_sequence_68 (by decide) (fun c_9 => ?_) (fun c_9 => ?_)
            · exact absurd c_9 (by decide)
            · have c_9 : ¬ 4 = 0 := fun zz => c_9 ((nI_eq (a := 4) (b := 0) (by omega) (by omega)).mpr zz)
              refine lv_aload_n hx hb dX1_sequence_71 rfl (lv_at hl 2 rfl) ?_
              refine va_get (D := (dC, dI)) (ci := 1) (v := .int (nI st)) (C := RX1) (T := TX1) (N := 9) hx hb hts hIn hown hK hP 0 rfl rfl 6 (by decide) (hts (.fieldLink RX1 41 RX1 "stand" "I") (by decide +kernel)) (fun _ h9 => h9) rfl dX1_sequence_72 ?_
              refine lv_iload_n hx hb dX1_sequence_75 rfl (lv_at hl 0 rfl) ?_
              refine lv_iadd hx hb dX1_sequence_76 ?_
              refine lv_topi (fun x_10 ex_10 => ?_)
              obtain rfl : x_10 = nI (st + 4) := ex_10.trans (nI_add st 4)
              refine lv_aload_n hx hb dX1_sequence_77 rfl (lv_at hl 2 rfl) ?_
              refine va_get (D := (dC, dI)) (ci := 1) (v := .int (nI ln)) (C := RX1) (T := TX1) (N := 9) hx hb hts hIn hown hK hP 0 rfl rfl 3 (by decide) (hts (.fieldLink RX1 44 RX1 "length" "I") (by decide +kernel)) (fun _ h9 => h9) rfl dX1_sequence_78 ?_
              refine lv_icmp_le (tgt := 86) hx hb dX1_sequence_81 (by decide) (fun c_11 => ?_) (fun c_11 => ?_)
              · have c_11 : st + 4 ≤ ln := (nI_leI (a := st + 4) (b := ln) (by omega) (by omega)).mp c_11
                refine lv_iload_n hx hb dX1_sequence_86 rfl (lv_at hl 0 rfl) ?_
                refine lv_iconst (v := 1) hx hb dX1_sequence_87 (by decide) ?_
                refine lv_icmp_ne (tgt := 95) hx hb dX1_sequence_88 (by decide) (fun c_12 => ?_) (fun c_12 => ?_)
                · have c_12 : ¬ 4 = 1 := fun zz => c_12 ((nI_eq (a := 4) (b := 1) (by omega) (by omega)).mpr zz)
                  refine lv_iload_n hx hb dX1_sequence_95 rfl (lv_at hl 0 rfl) ?_
                  refine lv_iconst (v := 2) hx hb dX1_sequence_96 (by decide) ?_
                  refine lv_icmp_ne (tgt := 108) hx hb dX1_sequence_97 (by decide) (fun c_13 => ?_) (fun c_13 => ?_)
                  · have c_13 : ¬ 4 = 2 := fun zz => c_13 ((nI_eq (a := 4) (b := 2) (by omega) (by omega)).mpr zz)
                    refine lv_iload_n hx hb dX1_sequence_108 rfl (lv_at hl 0 rfl) ?_
                    refine lv_iconst (v := 3) hx hb dX1_sequence_109 (by decide) ?_
                    refine lv_icmp_ne (tgt := 121) hx hb dX1_sequence_110 (by decide) (fun c_14 => ?_) (fun c_14 => ?_)
                    · have c_14 : ¬ 4 = 3 := fun zz => c_14 ((nI_eq (a := 4) (b := 3) (by omega) (by omega)).mpr zz)
                      refine lv_iload_n hx hb dX1_sequence_121 rfl (lv_at hl 1 rfl) ?_
                      refine lv_sipush (v := 240) hx hb dX1_sequence_122 (by decide) ?_
                      refine lv_isub hx hb dX1_sequence_125 ?_
                      refine lv_topi (fun x_15 ex_15 => ?_)
                      obtain rfl : x_15 = nI (kb st - 240) := ex_15.trans (pk_sub (a := kb st) (b := 240) (by omega))
                      refine lv_istore_n (lv' := [(3, .int (nI (kb st - 240))), (2, .int 4), (1, .int (nI (kb st))), (0, .ref g0)]) hx hb dX1_sequence_126 rfl hl (by decide) rfl (fun ls hl => ?_)
                      refine lv_iconst (v := 1) hx hb dX1_sequence_127 (by decide) ?_
                      refine lv_istore (lv' := [(4, .int 1), (3, .int (nI (kb st - 240))), (2, .int 4), (1, .int (nI (kb st))), (0, .ref g0)]) hx hb dX1_sequence_128 hl (by decide) rfl (fun ls hl => ?_)
                      refine lv_iload hx hb dX1_sequence_130 (lv_at hl 0 rfl) ?_
                      refine lv_iload_n hx hb dX1_sequence_132 rfl (lv_at hl 2 rfl) ?_
                      refine lv_icmp_ge (tgt := 186) hx hb dX1_sequence_133 (by decide) (fun c_16 => ?_) (fun c_16 => ?_)
                      · exact absurd c_16 (by decide)
                      · have c_16 : ¬ 4 ≤ 1 := fun zz => c_16 ((nI_leI (a := 4) (b := 1) (by omega) (by omega)).mpr zz)
                        refine lv_aload_n hx hb dX1_sequence_136 rfl (lv_at hl 4 rfl) ?_
                        refine va_get (D := (dC, dI)) (ci := 1) (v := .ref g2) (C := RX1) (T := TX1) (N := 9) hx hb hts hIn hown hK hP 0 rfl rfl 2 (by decide) (hts (.fieldLink RX1 13 RX1 "kept" "[I") (by decide +kernel)) (fun _ h9 => h9) rfl dX1_sequence_137 ?_
                        refine lv_aload_n hx hb dX1_sequence_140 rfl (lv_at hl 4 rfl) ?_
                        refine va_get (D := (dC, dI)) (ci := 1) (v := .int (nI st)) (C := RX1) (T := TX1) (N := 9) hx hb hts hIn hown hK hP 0 rfl rfl 6 (by decide) (hts (.fieldLink RX1 41 RX1 "stand" "I") (by decide +kernel)) (fun _ h9 => h9) rfl dX1_sequence_141 ?_
                        refine lv_iload hx hb dX1_sequence_144 (lv_at hl 0 rfl) ?_
                        refine lv_iadd hx hb dX1_sequence_146 ?_
                        refine lv_topi (fun x_17 ex_17 => ?_)
                        obtain rfl : x_17 = nI (st + 1) := ex_17.trans (nI_add st 1)
                        refine va_iald hx hb hK hP 2 0 rfl rfl (vp_in_nI (n := st + 1) (by omega) (by omega)) dX1_sequence_147 ?_
                        refine lv_topi (fun x_18 ex_18 => ?_)
                        obtain rfl : x_18 = nI (kb (st + 1)) := ex_18.trans (congrArg (fun j => nI (kb j)) ((nI_clamp (by omega))))
                        have hb_19 := hkb (st + 1)
                        refine lv_istore (lv' := [(5, .int (nI (kb (st + 1)))), (4, .int 1), (3, .int (nI (kb st - 240))), (2, .int 4), (1, .int (nI (kb st))), (0, .ref g0)]) hx hb dX1_sequence_148 hl (by decide) rfl (fun ls hl => ?_)
                        refine lv_iload hx hb dX1_sequence_150 (lv_at hl 0 rfl) ?_
                        refine lv_sipush (v := 128) hx hb dX1_sequence_152 (by decide) ?_
                        refine lv_icmp_lt (tgt := 166) hx hb dX1_sequence_155 (by decide) (fun c_20 => ?_) (fun c_20 => ?_)
                        · have c_20 : kb (st + 1) < 128 := (nI_ltI (a := kb (st + 1)) (b := 128) (by omega) (by omega)).mp c_20
                          refine lv_iconst (v := -1) hx hb dX1_sequence_166 (by decide) ?_
                          have hP9 : va_P (dC, dI) vwCl (mw g0 g1 g2 cA (tb, n, kb, ln, rd, fp, st, mt, bg)) s.heap := hP
                          have hD9 : va_D A (mw g0 g1 g2 cA (tb, n, kb, ln, rd, fp, st, mt, bg)) := hD
                          exact W.iret (v := (-1)) hx hb hr (fun t ht hW => ⟨⟨(-1), (tb, n, kb, ln, rd, fp, st, mt, bg), rfl, (by simp only [seqN, seq1, seq2, seq3, seq4, finN, if_pos c_3, if_pos c_4, if_pos c_5, if_pos c_6, if_neg c_7, if_neg c_9, if_pos c_11, if_neg c_12, if_neg c_13, if_neg c_14, if_neg c_16, if_pos c_20, seqR_n, seqR_s, seqS_n, seqS_s, and_self]), by rw [ht]; exact hP9, va_K.moved hW.alike hK, hD9⟩, hS.F ht⟩) hS.2.2 dX1_sequence_167
                        · have c_20 : ¬ kb (st + 1) < 128 := fun zz => c_20 ((nI_ltI (a := kb (st + 1)) (b := 128) (by omega) (by omega)).mpr zz)
                          refine lv_iload hx hb dX1_sequence_158 (lv_at hl 0 rfl) ?_
                          refine lv_sipush (v := 191) hx hb dX1_sequence_160 (by decide) ?_
                          refine lv_icmp_le (tgt := 168) hx hb dX1_sequence_163 (by decide) (fun c_21 => ?_) (fun c_21 => ?_)
                          · have c_21 : kb (st + 1) ≤ 191 := (nI_leI (a := kb (st + 1)) (b := 191) (by omega) (by omega)).mp c_21
                            refine lv_bipush (v := 64) hx hb dX1_sequence_168 (by decide) ?_
                            refine lv_iload_n hx hb dX1_sequence_170 rfl (lv_at hl 2 rfl) ?_
                            refine lv_imul hx hb dX1_sequence_171 ?_
                            refine lv_topi (fun x_22 ex_22 => ?_)
                            obtain rfl : x_22 = nI (64 * (kb st - 240)) := ex_22.trans (pk_mul 64 (kb st - 240))
                            refine lv_iload hx hb dX1_sequence_172 (lv_at hl 0 rfl) ?_
                            refine lv_iadd hx hb dX1_sequence_174 ?_
                            refine lv_topi (fun x_23 ex_23 => ?_)
                            obtain rfl : x_23 = nI (64 * (kb st - 240) + (kb (st + 1))) := ex_23.trans (nI_add (64 * (kb st - 240)) (kb (st + 1)))
                            refine lv_sipush (v := 128) hx hb dX1_sequence_175 (by decide) ?_
                            refine lv_isub hx hb dX1_sequence_178 ?_
                            refine lv_topi (fun x_24 ex_24 => ?_)
                            obtain rfl : x_24 = nI (64 * (kb st - 240) + (kb (st + 1)) - 128) := ex_24.trans (pk_sub (a := 64 * (kb st - 240) + (kb (st + 1))) (b := 128) (by omega))
                            refine lv_istore_n (lv' := [(3, .int (nI (64 * (kb st - 240) + (kb (st + 1)) - 128))), (5, .int (nI (kb (st + 1)))), (4, .int 1), (2, .int 4), (1, .int (nI (kb st))), (0, .ref g0)]) hx hb dX1_sequence_179 rfl hl (by decide) rfl (fun ls hl => ?_)
                            refine lv_iinc (v := 2) (lv' := [(4, .int 2), (3, .int (nI (64 * (kb st - 240) + (kb (st + 1)) - 128))), (5, .int (nI (kb (st + 1)))), (2, .int 4), (1, .int (nI (kb st))), (0, .ref g0)]) hx hb dX1_sequence_180 hl (k := 2) rfl (by decide) (by decide) rfl (fun ls hl => ?_)
                            refine lv_goto (tgt := 130) hx hb dX1_sequence_183 (by decide) ?_
                            refine lv_iload hx hb dX1_sequence_130 (lv_at hl 0 rfl) ?_
                            refine lv_iload_n hx hb dX1_sequence_132 rfl (lv_at hl 3 rfl) ?_
                            refine lv_icmp_ge (tgt := 186) hx hb dX1_sequence_133 (by decide) (fun c_25 => ?_) (fun c_25 => ?_)
                            · exact absurd c_25 (by decide)
                            · have c_25 : ¬ 4 ≤ 2 := fun zz => c_25 ((nI_leI (a := 4) (b := 2) (by omega) (by omega)).mpr zz)
                              refine lv_aload_n hx hb dX1_sequence_136 rfl (lv_at hl 5 rfl) ?_
                              refine va_get (D := (dC, dI)) (ci := 1) (v := .ref g2) (C := RX1) (T := TX1) (N := 9) hx hb hts hIn hown hK hP 0 rfl rfl 2 (by decide) (hts (.fieldLink RX1 13 RX1 "kept" "[I") (by decide +kernel)) (fun _ h9 => h9) rfl dX1_sequence_137 ?_
                              refine lv_aload_n hx hb dX1_sequence_140 rfl (lv_at hl 5 rfl) ?_
                              refine va_get (D := (dC, dI)) (ci := 1) (v := .int (nI st)) (C := RX1) (T := TX1) (N := 9) hx hb hts hIn hown hK hP 0 rfl rfl 6 (by decide) (hts (.fieldLink RX1 41 RX1 "stand" "I") (by decide +kernel)) (fun _ h9 => h9) rfl dX1_sequence_141 ?_
                              refine lv_iload hx hb dX1_sequence_144 (lv_at hl 0 rfl) ?_
                              refine lv_iadd hx hb dX1_sequence_146 ?_
                              refine lv_topi (fun x_26 ex_26 => ?_)
                              obtain rfl : x_26 = nI (st + 2) := ex_26.trans (nI_add st 2)
                              refine va_iald hx hb hK hP 2 0 rfl rfl (vp_in_nI (n := st + 2) (by omega) (by omega)) dX1_sequence_147 ?_
                              refine lv_topi (fun x_27 ex_27 => ?_)
                              obtain rfl : x_27 = nI (kb (st + 2)) := ex_27.trans (congrArg (fun j => nI (kb j)) ((nI_clamp (by omega))))
                              have hb_28 := hkb (st + 2)
                              refine lv_istore (lv' := [(5, .int (nI (kb (st + 2)))), (4, .int 2), (3, .int (nI (64 * (kb st - 240) + (kb (st + 1)) - 128))), (2, .int 4), (1, .int (nI (kb st))), (0, .ref g0)]) hx hb dX1_sequence_148 hl (by decide) rfl (fun ls hl => ?_)
                              refine lv_iload hx hb dX1_sequence_150 (lv_at hl 0 rfl) ?_
                              refine lv_sipush (v := 128) hx hb dX1_sequence_152 (by decide) ?_
                              refine lv_icmp_lt (tgt := 166) hx hb dX1_sequence_155 (by decide) (fun c_29 => ?_) (fun c_29 => ?_)
                              · have c_29 : kb (st + 2) < 128 := (nI_ltI (a := kb (st + 2)) (b := 128) (by omega) (by omega)).mp c_29
                                refine lv_iconst (v := -1) hx hb dX1_sequence_166 (by decide) ?_
                                have hP9 : va_P (dC, dI) vwCl (mw g0 g1 g2 cA (tb, n, kb, ln, rd, fp, st, mt, bg)) s.heap := hP
                                have hD9 : va_D A (mw g0 g1 g2 cA (tb, n, kb, ln, rd, fp, st, mt, bg)) := hD
                                exact W.iret (v := (-1)) hx hb hr (fun t ht hW => ⟨⟨(-1), (tb, n, kb, ln, rd, fp, st, mt, bg), rfl, (by simp only [seqN, seq1, seq2, seq3, seq4, finN, if_pos c_3, if_pos c_4, if_pos c_5, if_pos c_6, if_neg c_7, if_neg c_9, if_pos c_11, if_neg c_12, if_neg c_13, if_neg c_14, if_neg c_16, if_neg c_20, if_pos c_21, if_neg c_25, if_pos c_29, seqR_n, seqR_s, seqS_n, seqS_s, and_self]), by rw [ht]; exact hP9, va_K.moved hW.alike hK, hD9⟩, hS.F ht⟩) hS.2.2 dX1_sequence_167
                              · have c_29 : ¬ kb (st + 2) < 128 := fun zz => c_29 ((nI_ltI (a := kb (st + 2)) (b := 128) (by omega) (by omega)).mpr zz)
                                refine lv_iload hx hb dX1_sequence_158 (lv_at hl 0 rfl) ?_
                                refine lv_sipush (v := 191) hx hb dX1_sequence_160 (by decide) ?_
                                refine lv_icmp_le (tgt := 168) hx hb dX1_sequence_163 (by decide) (fun c_30 => ?_) (fun c_30 => ?_)
                                · have c_30 : kb (st + 2) ≤ 191 := (nI_leI (a := kb (st + 2)) (b := 191) (by omega) (by omega)).mp c_30
                                  refine lv_bipush (v := 64) hx hb dX1_sequence_168 (by decide) ?_
                                  refine lv_iload_n hx hb dX1_sequence_170 rfl (lv_at hl 2 rfl) ?_
                                  refine lv_imul hx hb dX1_sequence_171 ?_
                                  refine lv_topi (fun x_31 ex_31 => ?_)
                                  obtain rfl : x_31 = nI (64 * (64 * (kb st - 240) + (kb (st + 1)) - 128)) := ex_31.trans (pk_mul 64 (64 * (kb st - 240) + (kb (st + 1)) - 128))
                                  refine lv_iload hx hb dX1_sequence_172 (lv_at hl 0 rfl) ?_
                                  refine lv_iadd hx hb dX1_sequence_174 ?_
                                  refine lv_topi (fun x_32 ex_32 => ?_)
                                  obtain rfl : x_32 = nI (64 * (64 * (kb st - 240) + (kb (st + 1)) - 128) + (kb (st + 2))) := ex_32.trans (nI_add (64 * (64 * (kb st - 240) + (kb (st + 1)) - 128)) (kb (st + 2)))
                                  refine lv_sipush (v := 128) hx hb dX1_sequence_175 (by decide) ?_
                                  refine lv_isub hx hb dX1_sequence_178 ?_
                                  refine lv_topi (fun x_33 ex_33 => ?_)
                                  obtain rfl : x_33 = nI (64 * (64 * (kb st - 240) + (kb (st + 1)) - 128) + (kb (st + 2)) - 128) := ex_33.trans (pk_sub (a := 64 * (64 * (kb st - 240) + (kb (st + 1)) - 128) + (kb (st + 2))) (b := 128) (by omega))
                                  refine lv_istore_n (lv' := [(3, .int (nI (64 * (64 * (kb st - 240) + (kb (st + 1)) - 128) + (kb (st + 2)) - 128))), (5, .int (nI (kb (st + 2)))), (4, .int 2), (2, .int 4), (1, .int (nI (kb st))), (0, .ref g0)]) hx hb dX1_sequence_179 rfl hl (by decide) rfl (fun ls hl => ?_)
                                  refine lv_iinc (v := 3) (lv' := [(4, .int 3), (3, .int (nI (64 * (64 * (kb st - 240) + (kb (st + 1)) - 128) + (kb (st + 2)) - 128))), (5, .int (nI (kb (st + 2)))), (2, .int 4), (1, .int (nI (kb st))), (0, .ref g0)]) hx hb dX1_sequence_180 hl (k := 2) rfl (by decide) (by decide) rfl (fun ls hl => ?_)
                                  refine lv_goto (tgt := 130) hx hb dX1_sequence_183 (by decide) ?_
                                  refine lv_iload hx hb dX1_sequence_130 (lv_at hl 0 rfl) ?_
                                  refine lv_iload_n hx hb dX1_sequence_132 rfl (lv_at hl 3 rfl) ?_
                                  refine lv_icmp_ge (tgt := 186) hx hb dX1_sequence_133 (by decide) (fun c_34 => ?_) (fun c_34 => ?_)
                                  · exact absurd c_34 (by decide)
                                  · have c_34 : ¬ 4 ≤ 3 := fun zz => c_34 ((nI_leI (a := 4) (b := 3) (by omega) (by omega)).mpr zz)
                                    refine lv_aload_n hx hb dX1_sequence_136 rfl (lv_at hl 5 rfl) ?_
                                    refine va_get (D := (dC, dI)) (ci := 1) (v := .ref g2) (C := RX1) (T := TX1) (N := 9) hx hb hts hIn hown hK hP 0 rfl rfl 2 (by decide) (hts (.fieldLink RX1 13 RX1 "kept" "[I") (by decide +kernel)) (fun _ h9 => h9) rfl dX1_sequence_137 ?_
                                    refine lv_aload_n hx hb dX1_sequence_140 rfl (lv_at hl 5 rfl) ?_
                                    refine va_get (D := (dC, dI)) (ci := 1) (v := .int (nI st)) (C := RX1) (T := TX1) (N := 9) hx hb hts hIn hown hK hP 0 rfl rfl 6 (by decide) (hts (.fieldLink RX1 41 RX1 "stand" "I") (by decide +kernel)) (fun _ h9 => h9) rfl dX1_sequence_141 ?_
                                    refine lv_iload hx hb dX1_sequence_144 (lv_at hl 0 rfl) ?_
                                    refine lv_iadd hx hb dX1_sequence_146 ?_
                                    refine lv_topi (fun x_35 ex_35 => ?_)
                                    obtain rfl : x_35 = nI (st + 3) := ex_35.trans (nI_add st 3)
                                    refine va_iald hx hb hK hP 2 0 rfl rfl (vp_in_nI (n := st + 3) (by omega) (by omega)) dX1_sequence_147 ?_
                                    refine lv_topi (fun x_36 ex_36 => ?_)
                                    obtain rfl : x_36 = nI (kb (st + 3)) := ex_36.trans (congrArg (fun j => nI (kb j)) ((nI_clamp (by omega))))
                                    have hb_37 := hkb (st + 3)
                                    refine lv_istore (lv' := [(5, .int (nI (kb (st + 3)))), (4, .int 3), (3, .int (nI (64 * (64 * (kb st - 240) + (kb (st + 1)) - 128) + (kb (st + 2)) - 128))), (2, .int 4), (1, .int (nI (kb st))), (0, .ref g0)]) hx hb dX1_sequence_148 hl (by decide) rfl (fun ls hl => ?_)
                                    refine lv_iload hx hb dX1_sequence_150 (lv_at hl 0 rfl) ?_
                                    refine lv_sipush (v := 128) hx hb dX1_sequence_152 (by decide) ?_
                                    refine lv_icmp_lt (tgt := 166) hx hb dX1_sequence_155 (by decide) (fun c_38 => ?_) (fun c_38 => ?_)
                                    · have c_38 : kb (st + 3) < 128 := (nI_ltI (a := kb (st + 3)) (b := 128) (by omega) (by omega)).mp c_38
                                      refine lv_iconst (v := -1) hx hb dX1_sequence_166 (by decide) ?_
                                      have hP9 : va_P (dC, dI) vwCl (mw g0 g1 g2 cA (tb, n, kb, ln, rd, fp, st, mt, bg)) s.heap := hP
                                      have hD9 : va_D A (mw g0 g1 g2 cA (tb, n, kb, ln, rd, fp, st, mt, bg)) := hD
                                      exact W.iret (v := (-1)) hx hb hr (fun t ht hW => ⟨⟨(-1), (tb, n, kb, ln, rd, fp, st, mt, bg), rfl, (by simp only [seqN, seq1, seq2, seq3, seq4, finN, if_pos c_3, if_pos c_4, if_pos c_5, if_pos c_6, if_neg c_7, if_neg c_9, if_pos c_11, if_neg c_12, if_neg c_13, if_neg c_14, if_neg c_16, if_neg c_20, if_pos c_21, if_neg c_25, if_neg c_29, if_pos c_30, if_neg c_34, if_pos c_38, seqR_n, seqR_s, seqS_n, seqS_s, and_self]), by rw [ht]; exact hP9, va_K.moved hW.alike hK, hD9⟩, hS.F ht⟩) hS.2.2 dX1_sequence_167
                                    · have c_38 : ¬ kb (st + 3) < 128 := fun zz => c_38 ((nI_ltI (a := kb (st + 3)) (b := 128) (by omega) (by omega)).mpr zz)
                                      refine lv_iload hx hb dX1_sequence_158 (lv_at hl 0 rfl) ?_
                                      refine lv_sipush (v := 191) hx hb dX1_sequence_160 (by decide) ?_
                                      refine lv_icmp_le (tgt := 168) hx hb dX1_sequence_163 (by decide) (fun c_39 => ?_) (fun c_39 => ?_)
                                      · have c_39 : kb (st + 3) ≤ 191 := (nI_leI (a := kb (st + 3)) (b := 191) (by omega) (by omega)).mp c_39
                                        refine lv_bipush (v := 64) hx hb dX1_sequence_168 (by decide) ?_
                                        refine lv_iload_n hx hb dX1_sequence_170 rfl (lv_at hl 2 rfl) ?_
                                        refine lv_imul hx hb dX1_sequence_171 ?_
                                        refine lv_topi (fun x_40 ex_40 => ?_)
                                        obtain rfl : x_40 = nI (64 * (64 * (64 * (kb st - 240) + (kb (st + 1)) - 128) + (kb (st + 2)) - 128)) := ex_40.trans (pk_mul 64 (64 * (64 * (kb st - 240) + (kb (st + 1)) - 128) + (kb (st + 2)) - 128))
                                        refine lv_iload hx hb dX1_sequence_172 (lv_at hl 0 rfl) ?_
                                        refine lv_iadd hx hb dX1_sequence_174 ?_
                                        refine lv_topi (fun x_41 ex_41 => ?_)
                                        obtain rfl : x_41 = nI (64 * (64 * (64 * (kb st - 240) + (kb (st + 1)) - 128) + (kb (st + 2)) - 128) + (kb (st + 3))) := ex_41.trans (nI_add (64 * (64 * (64 * (kb st - 240) + (kb (st + 1)) - 128) + (kb (st + 2)) - 128)) (kb (st + 3)))
                                        refine lv_sipush (v := 128) hx hb dX1_sequence_175 (by decide) ?_
                                        refine lv_isub hx hb dX1_sequence_178 ?_
                                        refine lv_topi (fun x_42 ex_42 => ?_)
                                        obtain rfl : x_42 = nI (64 * (64 * (64 * (kb st - 240) + (kb (st + 1)) - 128) + (kb (st + 2)) - 128) + (kb (st + 3)) - 128) := ex_42.trans (pk_sub (a := 64 * (64 * (64 * (kb st - 240) + (kb (st + 1)) - 128) + (kb (st + 2)) - 128) + (kb (st + 3))) (b := 128) (by omega))
                                        refine lv_istore_n (lv' := [(3, .int (nI (64 * (64 * (64 * (kb st - 240) + (kb (st + 1)) - 128) + (kb (st + 2)) - 128) + (kb (st + 3)) - 128))), (5, .int (nI (kb (st + 3)))), (4, .int 3), (2, .int 4), (1, .int (nI (kb st))), (0, .ref g0)]) hx hb dX1_sequence_179 rfl hl (by decide) rfl (fun ls hl => ?_)
                                        refine lv_iinc (v := 4) (lv' := [(4, .int 4), (3, .int (nI (64 * (64 * (64 * (kb st - 240) + (kb (st + 1)) - 128) + (kb (st + 2)) - 128) + (kb (st + 3)) - 128))), (5, .int (nI (kb (st + 3)))), (2, .int 4), (1, .int (nI (kb st))), (0, .ref g0)]) hx hb dX1_sequence_180 hl (k := 2) rfl (by decide) (by decide) rfl (fun ls hl => ?_)
                                        refine lv_goto (tgt := 130) hx hb dX1_sequence_183 (by decide) ?_
                                        refine lv_iload hx hb dX1_sequence_130 (lv_at hl 0 rfl) ?_
                                        refine lv_iload_n hx hb dX1_sequence_132 rfl (lv_at hl 3 rfl) ?_
                                        refine lv_icmp_ge (tgt := 186) hx hb dX1_sequence_133 (by decide) (fun c_43 => ?_) (fun c_43 => ?_)
                                        · have c_43 : 4 ≤ 4 := (nI_leI (a := 4) (b := 4) (by omega) (by omega)).mp c_43
                                          refine lv_iload_n hx hb dX1_sequence_186 rfl (lv_at hl 1 rfl) ?_
                                          refine vp_callSi (W.runS (As := [.int (nI (64 * (64 * (64 * (kb st - 240) + (kb (st + 1)) - 128) + (kb (st + 2)) - 128) + (kb (st + 3)) - 128))]) (rest := []) ⟨hx, hb, hml, hown, hts⟩ (c_X1_has l (nI (64 * (64 * (64 * (kb st - 240) + (kb (st + 1)) - 128) + (kb (st + 2)) - 128) + (kb (st + 3)) - 128))) (va_cwS 1 hts gX1_sequence_X1_has rfl rfl rfl (by decide +kernel) ⟨Nat.le_of_ble_eq_true rfl, Nat.le_of_ble_eq_true rfl⟩) ⟨fun _ _ _ _ q => q, fun U hU hW => ⟨rfl, trivial⟩⟩ rfl rfl hl.1 rfl (lv_room (Nat.le_of_ble_eq_true rfl)) dX1_sequence_187 ⟨Nat.le_of_ble_eq_true rfl, Nat.le_of_ble_eq_true rfl⟩) (fun r_44 er_44 => ?_)
                                          obtain rfl : r_44 = bI (mHas (nI (64 * (64 * (64 * (kb st - 240) + (kb (st + 1)) - 128) + (kb (st + 2)) - 128) + (kb (st + 3)) - 128))) := er_44
                                          refine lv_if_eq (tgt := 201) hx hb dX1_sequence_190 (by decide) (fun c_45 => ?_) (fun c_45 => ?_)
                                          · have c_45 := bI_0 c_45
                                            refine lv_iconst (v := -1) hx hb dX1_sequence_201 (by decide) ?_
                                            have hP9 : va_P (dC, dI) vwCl (mw g0 g1 g2 cA (tb, n, kb, ln, rd, fp, st, mt, bg)) s.heap := hP
                                            have hD9 : va_D A (mw g0 g1 g2 cA (tb, n, kb, ln, rd, fp, st, mt, bg)) := hD
                                            exact W.iret (v := (-1)) hx hb hr (fun t ht hW => ⟨⟨(-1), (tb, n, kb, ln, rd, fp, st, mt, bg), rfl, (by simp only [seqN, seq1, seq2, seq3, seq4, finN, if_pos c_3, if_pos c_4, if_pos c_5, if_pos c_6, if_neg c_7, if_neg c_9, if_pos c_11, if_neg c_12, if_neg c_13, if_neg c_14, if_neg c_16, if_neg c_20, if_pos c_21, if_neg c_25, if_neg c_29, if_pos c_30, if_neg c_34, if_neg c_38, if_pos c_39, if_pos c_43, if_neg c_45, seqR_n, seqR_s, seqS_n, seqS_s, and_self]), by rw [ht]; exact hP9, va_K.moved hW.alike hK, hD9⟩, hS.F ht⟩) hS.2.2 dX1_sequence_202
                                          · have c_45 := bI_n0 c_45
                                            refine lv_iload_n hx hb dX1_sequence_193 rfl (lv_at hl 1 rfl) ?_
                                            refine vp_callSi (W.runS (As := [.int (nI (64 * (64 * (64 * (kb st - 240) + (kb (st + 1)) - 128) + (kb (st + 2)) - 128) + (kb (st + 3)) - 128))]) (rest := []) ⟨hx, hb, hml, hown, hts⟩ (c_X1_sizeOf l (nI (64 * (64 * (64 * (kb st - 240) + (kb (st + 1)) - 128) + (kb (st + 2)) - 128) + (kb (st + 3)) - 128))) (va_cwS 1 hts gX1_sequence_X1_sizeOf rfl rfl rfl (by decide +kernel) ⟨Nat.le_of_ble_eq_true rfl, Nat.le_of_ble_eq_true rfl⟩) ⟨fun _ _ _ _ q => q, fun U hU hW => ⟨rfl, trivial⟩⟩ rfl rfl hl.1 rfl (lv_room (Nat.le_of_ble_eq_true rfl)) dX1_sequence_194 ⟨Nat.le_of_ble_eq_true rfl, Nat.le_of_ble_eq_true rfl⟩) (fun r_46 er_46 => ?_)
                                            obtain rfl : r_46 = mSize (nI (64 * (64 * (64 * (kb st - 240) + (kb (st + 1)) - 128) + (kb (st + 2)) - 128) + (kb (st + 3)) - 128)) := er_46
                                            refine lv_iload_n hx hb dX1_sequence_197 rfl (lv_at hl 3 rfl) ?_
                                            refine lv_icmp_eq (tgt := 203) hx hb dX1_sequence_198 (by decide) (fun c_47 => ?_) (fun c_47 => ?_)
                                            · refine lv_aload_n hx hb dX1_sequence_203 rfl (lv_at hl 5 rfl) ?_
                                              refine lv_aload_n hx hb dX1_sequence_204 rfl (lv_at hl 5 rfl) ?_
                                              refine va_get (D := (dC, dI)) (ci := 1) (v := .int (nI st)) (C := RX1) (T := TX1) (N := 9) hx hb hts hIn hown hK hP 0 rfl rfl 6 (by decide) (hts (.fieldLink RX1 41 RX1 "stand" "I") (by decide +kernel)) (fun _ h9 => h9) rfl dX1_sequence_205 ?_
                                              refine lv_iload_n hx hb dX1_sequence_208 rfl (lv_at hl 3 rfl) ?_
                                              refine lv_iadd hx hb dX1_sequence_209 ?_
                                              refine lv_topi (fun x_48 ex_48 => ?_)
                                              obtain rfl : x_48 = nI (st + 4) := ex_48.trans (nI_add st 4)
                                              refine va_put (D := (dC, dI)) (ci := 1) (v := .int (nI (st + 4))) (ty := .int) (C := RX1) (T := TX1) (N := 9) hx hb hts hIn tyX1 tyX1_ok nmX1 hown hK hP hD hS 0 rfl rfl 6 (by decide) (hts (.fieldLink RX1 41 RX1 "stand" "I") (by decide +kernel)) (fun _ h9 => h9) rfl (by decide +kernel) rfl rfl (Nat.le_of_ble_eq_true rfl) dX1_sequence_210 (fun H locs hP hD hS => ?_)
                                              have hP : va_P (dC, dI) vwCl [(g0, .inr (1, [.ref g1, .int (nI n), .ref g2, .int (nI ln), .int (bI rd), .int fp, .int (nI (st + 4)), .int mt, .int bg])), (g1, .inl (cA, 1000, .inl (fun j => nI (tb j)))), (g2, .inl (cA, 1000, .inl (fun j => nI (kb j))))] H := hP
                                              have hD : va_D A [(g0, .inr (1, [.ref g1, .int (nI n), .ref g2, .int (nI ln), .int (bI rd), .int fp, .int (nI (st + 4)), .int mt, .int bg])), (g1, .inl (cA, 1000, .inl (fun j => nI (tb j)))), (g2, .inl (cA, 1000, .inl (fun j => nI (kb j))))] := hD
                                              refine lv_iload_n hx hb dX1_sequence_213 rfl (lv_at hl 1 rfl) ?_
                                              have hP9 : va_P (dC, dI) vwCl (mw g0 g1 g2 cA (tb, n, kb, ln, rd, fp, (st + 4), mt, bg)) H := hP
                                              have hD9 : va_D A (mw g0 g1 g2 cA (tb, n, kb, ln, rd, fp, (st + 4), mt, bg)) := hD
                                              exact W.iret (v := nI (64 * (64 * (64 * (kb st - 240) + (kb (st + 1)) - 128) + (kb (st + 2)) - 128) + (kb (st + 3)) - 128)) hx hb hr (fun t ht hW => ⟨⟨nI (64 * (64 * (64 * (kb st - 240) + (kb (st + 1)) - 128) + (kb (st + 2)) - 128) + (kb (st + 3)) - 128), (tb, n, kb, ln, rd, fp, (st + 4), mt, bg), rfl, (by simp only [seqN, seq1, seq2, seq3, seq4, finN, if_pos c_3, if_pos c_4, if_pos c_5, if_pos c_6, if_neg c_7, if_neg c_9, if_pos c_11, if_neg c_12, if_neg c_13, if_neg c_14, if_neg c_16, if_neg c_20, if_pos c_21, if_neg c_25, if_neg c_29, if_pos c_30, if_neg c_34, if_neg c_38, if_pos c_39, if_pos c_43, if_pos c_45, if_pos c_47, seqR_n, seqR_s, seqS_n, seqS_s, and_self]), by rw [ht]; exact hP9, va_K.moved hW.alike hK, hD9⟩, hS.F ht⟩) hS.2.2 dX1_sequence_214
                                            · refine lv_iconst (v := -1) hx hb dX1_sequence_201 (by decide) ?_
                                              have hP9 : va_P (dC, dI) vwCl (mw g0 g1 g2 cA (tb, n, kb, ln, rd, fp, st, mt, bg)) s.heap := hP
                                              have hD9 : va_D A (mw g0 g1 g2 cA (tb, n, kb, ln, rd, fp, st, mt, bg)) := hD
                                              exact W.iret (v := (-1)) hx hb hr (fun t ht hW => ⟨⟨(-1), (tb, n, kb, ln, rd, fp, st, mt, bg), rfl, (by simp only [seqN, seq1, seq2, seq3, seq4, finN, if_pos c_3, if_pos c_4, if_pos c_5, if_pos c_6, if_neg c_7, if_neg c_9, if_pos c_11, if_neg c_12, if_neg c_13, if_neg c_14, if_neg c_16, if_neg c_20, if_pos c_21, if_neg c_25, if_neg c_29, if_pos c_30, if_neg c_34, if_neg c_38, if_pos c_39, if_pos c_43, if_pos c_45, if_neg c_47, seqR_n, seqR_s, seqS_n, seqS_s, and_self]), by rw [ht]; exact hP9, va_K.moved hW.alike hK, hD9⟩, hS.F ht⟩) hS.2.2 dX1_sequence_202
                                        · exact absurd c_43 (by decide)
                                      · have c_39 : ¬ kb (st + 3) ≤ 191 := fun zz => c_39 ((nI_leI (a := kb (st + 3)) (b := 191) (by omega) (by omega)).mpr zz)
                                        refine lv_iconst (v := -1) hx hb dX1_sequence_166 (by decide) ?_
                                        have hP9 : va_P (dC, dI) vwCl (mw g0 g1 g2 cA (tb, n, kb, ln, rd, fp, st, mt, bg)) s.heap := hP
                                        have hD9 : va_D A (mw g0 g1 g2 cA (tb, n, kb, ln, rd, fp, st, mt, bg)) := hD
                                        exact W.iret (v := (-1)) hx hb hr (fun t ht hW => ⟨⟨(-1), (tb, n, kb, ln, rd, fp, st, mt, bg), rfl, (by simp only [seqN, seq1, seq2, seq3, seq4, finN, if_pos c_3, if_pos c_4, if_pos c_5, if_pos c_6, if_neg c_7, if_neg c_9, if_pos c_11, if_neg c_12, if_neg c_13, if_neg c_14, if_neg c_16, if_neg c_20, if_pos c_21, if_neg c_25, if_neg c_29, if_pos c_30, if_neg c_34, if_neg c_38, if_neg c_39, seqR_n, seqR_s, seqS_n, seqS_s, and_self]), by rw [ht]; exact hP9, va_K.moved hW.alike hK, hD9⟩, hS.F ht⟩) hS.2.2 dX1_sequence_167
                                · have c_30 : ¬ kb (st + 2) ≤ 191 := fun zz => c_30 ((nI_leI (a := kb (st + 2)) (b := 191) (by omega) (by omega)).mpr zz)
                                  refine lv_iconst (v := -1) hx hb dX1_sequence_166 (by decide) ?_
                                  have hP9 : va_P (dC, dI) vwCl (mw g0 g1 g2 cA (tb, n, kb, ln, rd, fp, st, mt, bg)) s.heap := hP
                                  have hD9 : va_D A (mw g0 g1 g2 cA (tb, n, kb, ln, rd, fp, st, mt, bg)) := hD
                                  exact W.iret (v := (-1)) hx hb hr (fun t ht hW => ⟨⟨(-1), (tb, n, kb, ln, rd, fp, st, mt, bg), rfl, (by simp only [seqN, seq1, seq2, seq3, seq4, finN, if_pos c_3, if_pos c_4, if_pos c_5, if_pos c_6, if_neg c_7, if_neg c_9, if_pos c_11, if_neg c_12, if_neg c_13, if_neg c_14, if_neg c_16, if_neg c_20, if_pos c_21, if_neg c_25, if_neg c_29, if_neg c_30, seqR_n, seqR_s, seqS_n, seqS_s, and_self]), by rw [ht]; exact hP9, va_K.moved hW.alike hK, hD9⟩, hS.F ht⟩) hS.2.2 dX1_sequence_167
                          · have c_21 : ¬ kb (st + 1) ≤ 191 := fun zz => c_21 ((nI_leI (a := kb (st + 1)) (b := 191) (by omega) (by omega)).mpr zz)
                            refine lv_iconst (v := -1) hx hb dX1_sequence_166 (by decide) ?_
                            have hP9 : va_P (dC, dI) vwCl (mw g0 g1 g2 cA (tb, n, kb, ln, rd, fp, st, mt, bg)) s.heap := hP
                            have hD9 : va_D A (mw g0 g1 g2 cA (tb, n, kb, ln, rd, fp, st, mt, bg)) := hD
                            exact W.iret (v := (-1)) hx hb hr (fun t ht hW => ⟨⟨(-1), (tb, n, kb, ln, rd, fp, st, mt, bg), rfl, (by simp only [seqN, seq1, seq2, seq3, seq4, finN, if_pos c_3, if_pos c_4, if_pos c_5, if_pos c_6, if_neg c_7, if_neg c_9, if_pos c_11, if_neg c_12, if_neg c_13, if_neg c_14, if_neg c_16, if_neg c_20, if_neg c_21, seqR_n, seqR_s, seqS_n, seqS_s, and_self]), by rw [ht]; exact hP9, va_K.moved hW.alike hK, hD9⟩, hS.F ht⟩) hS.2.2 dX1_sequence_167
                    · exact absurd c_14 (by decide)
                  · exact absurd c_13 (by decide)
                · exact absurd c_12 (by decide)
              · have c_11 : ¬ st + 4 ≤ ln := fun zz => c_11 ((nI_leI (a := st + 4) (b := ln) (by omega) (by omega)).mpr zz)
                refine lv_iconst (v := -1) hx hb dX1_sequence_84 (by decide) ?_
                have hP9 : va_P (dC, dI) vwCl (mw g0 g1 g2 cA (tb, n, kb, ln, rd, fp, st, mt, bg)) s.heap := hP
                have hD9 : va_D A (mw g0 g1 g2 cA (tb, n, kb, ln, rd, fp, st, mt, bg)) := hD
                exact W.iret (v := (-1)) hx hb hr (fun t ht hW => ⟨⟨(-1), (tb, n, kb, ln, rd, fp, st, mt, bg), rfl, (by simp only [seqN, seq1, seq2, seq3, seq4, finN, if_pos c_3, if_pos c_4, if_pos c_5, if_pos c_6, if_neg c_7, if_neg c_9, if_neg c_11, seqR_n, seqR_s, seqS_n, seqS_s, and_self]), by rw [ht]; exact hP9, va_K.moved hW.alike hK, hD9⟩, hS.F ht⟩) hS.2.2 dX1_sequence_85
        · have c_6 : ¬ 240 ≤ kb st := fun zz => c_6 ((nI_leI (a := 240) (b := kb st) (by omega) (by omega)).mpr zz)
          refine lv_iconst (v := 3) hx hb dX1_sequence_50 (by decide) ?_
          refine lv_goto (tgt := 66) hx hb dX1_sequence_51 (by decide) ?_
          refine lv_istore_n (lv' := [(2, .int 3), (1, .int (nI (kb st))), (0, .ref g0)]) hx hb dX1_sequence_66 rfl hl (by decide) rfl (fun ls hl => ?_)
          refine lv_iload_n hx hb dX1_sequence_67 rfl (lv_at hl 0 rfl) ?_
          refine lv_if_eq (tgt := 84) hx hb dX1_sequence_68 (by decide) (fun c_49 => ?_) (fun c_49 => ?_)
          · exact absurd c_49 (by decide)
          · have c_49 : ¬ 3 = 0 := fun zz => c_49 ((nI_eq (a := 3) (b := 0) (by omega) (by omega)).mpr zz)
            refine lv_aload_n hx hb dX1_sequence_71 rfl (lv_at hl 2 rfl) ?_
            refine va_get (D := (dC, dI)) (ci := 1) (v := .int (nI st)) (C := RX1) (T := TX1) (N := 9) hx hb hts hIn hown hK hP 0 rfl rfl 6 (by decide) (hts (.fieldLink RX1 41 RX1 "stand" "I") (by decide +kernel)) (fun _ h9 => h9) rfl dX1_sequence_72 ?_
            refine lv_iload_n hx hb dX1_sequence_75 rfl (lv_at hl 0 rfl) ?_
            refine lv_iadd hx hb dX1_sequence_76 ?_
            refine lv_topi (fun x_50 ex_50 => ?_)
            obtain rfl : x_50 = nI (st + 3) := ex_50.trans (nI_add st 3)
            refine lv_aload_n hx hb dX1_sequence_77 rfl (lv_at hl 2 rfl) ?_
            refine va_get (D := (dC, dI)) (ci := 1) (v := .int (nI ln)) (C := RX1) (T := TX1) (N := 9) hx hb hts hIn hown hK hP 0 rfl rfl 3 (by decide) (hts (.fieldLink RX1 44 RX1 "length" "I") (by decide +kernel)) (fun _ h9 => h9) rfl dX1_sequence_78 ?_
            refine lv_icmp_le (tgt := 86) hx hb dX1_sequence_81 (by decide) (fun c_51 => ?_) (fun c_51 => ?_)
            · have c_51 : st + 3 ≤ ln := (nI_leI (a := st + 3) (b := ln) (by omega) (by omega)).mp c_51
              refine lv_iload_n hx hb dX1_sequence_86 rfl (lv_at hl 0 rfl) ?_
              refine lv_iconst (v := 1) hx hb dX1_sequence_87 (by decide) ?_
              refine lv_icmp_ne (tgt := 95) hx hb dX1_sequence_88 (by decide) (fun c_52 => ?_) (fun c_52 => ?_)
              · have c_52 : ¬ 3 = 1 := fun zz => c_52 ((nI_eq (a := 3) (b := 1) (by omega) (by omega)).mpr zz)
                refine lv_iload_n hx hb dX1_sequence_95 rfl (lv_at hl 0 rfl) ?_
                refine lv_iconst (v := 2) hx hb dX1_sequence_96 (by decide) ?_
                refine lv_icmp_ne (tgt := 108) hx hb dX1_sequence_97 (by decide) (fun c_53 => ?_) (fun c_53 => ?_)
                · have c_53 : ¬ 3 = 2 := fun zz => c_53 ((nI_eq (a := 3) (b := 2) (by omega) (by omega)).mpr zz)
                  refine lv_iload_n hx hb dX1_sequence_108 rfl (lv_at hl 0 rfl) ?_
                  refine lv_iconst (v := 3) hx hb dX1_sequence_109 (by decide) ?_
                  refine lv_icmp_ne (tgt := 121) hx hb dX1_sequence_110 (by decide) (fun c_54 => ?_) (fun c_54 => ?_)
                  · exact absurd c_54 (by decide)
                  · have c_54 : 3 = 3 := (nI_eq (a := 3) (b := 3) (by omega) (by omega)).mp c_54
                    refine lv_iload_n hx hb dX1_sequence_113 rfl (lv_at hl 1 rfl) ?_
                    refine lv_sipush (v := 224) hx hb dX1_sequence_114 (by decide) ?_
                    refine lv_isub hx hb dX1_sequence_117 ?_
                    refine lv_topi (fun x_55 ex_55 => ?_)
                    obtain rfl : x_55 = nI (kb st - 224) := ex_55.trans (pk_sub (a := kb st) (b := 224) (by omega))
                    refine lv_goto (tgt := 126) hx hb dX1_sequence_118 (by decide) ?_
                    refine lv_istore_n (lv' := [(3, .int (nI (kb st - 224))), (2, .int 3), (1, .int (nI (kb st))), (0, .ref g0)]) hx hb dX1_sequence_126 rfl hl (by decide) rfl (fun ls hl => ?_)
                    refine lv_iconst (v := 1) hx hb dX1_sequence_127 (by decide) ?_
                    refine lv_istore (lv' := [(4, .int 1), (3, .int (nI (kb st - 224))), (2, .int 3), (1, .int (nI (kb st))), (0, .ref g0)]) hx hb dX1_sequence_128 hl (by decide) rfl (fun ls hl => ?_)
                    refine lv_iload hx hb dX1_sequence_130 (lv_at hl 0 rfl) ?_
                    refine lv_iload_n hx hb dX1_sequence_132 rfl (lv_at hl 2 rfl) ?_
                    refine lv_icmp_ge (tgt := 186) hx hb dX1_sequence_133 (by decide) (fun c_56 => ?_) (fun c_56 => ?_)
                    · exact absurd c_56 (by decide)
                    · have c_56 : ¬ 3 ≤ 1 := fun zz => c_56 ((nI_leI (a := 3) (b := 1) (by omega) (by omega)).mpr zz)
                      refine lv_aload_n hx hb dX1_sequence_136 rfl (lv_at hl 4 rfl) ?_
                      refine va_get (D := (dC, dI)) (ci := 1) (v := .ref g2) (C := RX1) (T := TX1) (N := 9) hx hb hts hIn hown hK hP 0 rfl rfl 2 (by decide) (hts (.fieldLink RX1 13 RX1 "kept" "[I") (by decide +kernel)) (fun _ h9 => h9) rfl dX1_sequence_137 ?_
                      refine lv_aload_n hx hb dX1_sequence_140 rfl (lv_at hl 4 rfl) ?_
                      refine va_get (D := (dC, dI)) (ci := 1) (v := .int (nI st)) (C := RX1) (T := TX1) (N := 9) hx hb hts hIn hown hK hP 0 rfl rfl 6 (by decide) (hts (.fieldLink RX1 41 RX1 "stand" "I") (by decide +kernel)) (fun _ h9 => h9) rfl dX1_sequence_141 ?_
                      refine lv_iload hx hb dX1_sequence_144 (lv_at hl 0 rfl) ?_
                      refine lv_iadd hx hb dX1_sequence_146 ?_
                      refine lv_topi (fun x_57 ex_57 => ?_)
                      obtain rfl : x_57 = nI (st + 1) := ex_57.trans (nI_add st 1)
                      refine va_iald hx hb hK hP 2 0 rfl rfl (vp_in_nI (n := st + 1) (by omega) (by omega)) dX1_sequence_147 ?_
                      refine lv_topi (fun x_58 ex_58 => ?_)
                      obtain rfl : x_58 = nI (kb (st + 1)) := ex_58.trans (congrArg (fun j => nI (kb j)) ((nI_clamp (by omega))))
                      have hb_59 := hkb (st + 1)
                      refine lv_istore (lv' := [(5, .int (nI (kb (st + 1)))), (4, .int 1), (3, .int (nI (kb st - 224))), (2, .int 3), (1, .int (nI (kb st))), (0, .ref g0)]) hx hb dX1_sequence_148 hl (by decide) rfl (fun ls hl => ?_)
                      refine lv_iload hx hb dX1_sequence_150 (lv_at hl 0 rfl) ?_
                      refine lv_sipush (v := 128) hx hb dX1_sequence_152 (by decide) ?_
                      refine lv_icmp_lt (tgt := 166) hx hb dX1_sequence_155 (by decide) (fun c_60 => ?_) (fun c_60 => ?_)
                      · have c_60 : kb (st + 1) < 128 := (nI_ltI (a := kb (st + 1)) (b := 128) (by omega) (by omega)).mp c_60
                        refine lv_iconst (v := -1) hx hb dX1_sequence_166 (by decide) ?_
                        have hP9 : va_P (dC, dI) vwCl (mw g0 g1 g2 cA (tb, n, kb, ln, rd, fp, st, mt, bg)) s.heap := hP
                        have hD9 : va_D A (mw g0 g1 g2 cA (tb, n, kb, ln, rd, fp, st, mt, bg)) := hD
                        exact W.iret (v := (-1)) hx hb hr (fun t ht hW => ⟨⟨(-1), (tb, n, kb, ln, rd, fp, st, mt, bg), rfl, (by simp only [seqN, seq1, seq2, seq3, seq4, finN, if_pos c_3, if_pos c_4, if_pos c_5, if_neg c_6, if_neg c_49, if_pos c_51, if_neg c_52, if_neg c_53, if_pos c_54, if_neg c_56, if_pos c_60, seqR_n, seqR_s, seqS_n, seqS_s, and_self]), by rw [ht]; exact hP9, va_K.moved hW.alike hK, hD9⟩, hS.F ht⟩) hS.2.2 dX1_sequence_167
                      · have c_60 : ¬ kb (st + 1) < 128 := fun zz => c_60 ((nI_ltI (a := kb (st + 1)) (b := 128) (by omega) (by omega)).mpr zz)
                        refine lv_iload hx hb dX1_sequence_158 (lv_at hl 0 rfl) ?_
                        refine lv_sipush (v := 191) hx hb dX1_sequence_160 (by decide) ?_
                        refine lv_icmp_le (tgt := 168) hx hb dX1_sequence_163 (by decide) (fun c_61 => ?_) (fun c_61 => ?_)
                        · have c_61 : kb (st + 1) ≤ 191 := (nI_leI (a := kb (st + 1)) (b := 191) (by omega) (by omega)).mp c_61
                          refine lv_bipush (v := 64) hx hb dX1_sequence_168 (by decide) ?_
                          refine lv_iload_n hx hb dX1_sequence_170 rfl (lv_at hl 2 rfl) ?_
                          refine lv_imul hx hb dX1_sequence_171 ?_
                          refine lv_topi (fun x_62 ex_62 => ?_)
                          obtain rfl : x_62 = nI (64 * (kb st - 224)) := ex_62.trans (pk_mul 64 (kb st - 224))
                          refine lv_iload hx hb dX1_sequence_172 (lv_at hl 0 rfl) ?_
                          refine lv_iadd hx hb dX1_sequence_174 ?_
                          refine lv_topi (fun x_63 ex_63 => ?_)
                          obtain rfl : x_63 = nI (64 * (kb st - 224) + (kb (st + 1))) := ex_63.trans (nI_add (64 * (kb st - 224)) (kb (st + 1)))
                          refine lv_sipush (v := 128) hx hb dX1_sequence_175 (by decide) ?_
                          refine lv_isub hx hb dX1_sequence_178 ?_
                          refine lv_topi (fun x_64 ex_64 => ?_)
                          obtain rfl : x_64 = nI (64 * (kb st - 224) + (kb (st + 1)) - 128) := ex_64.trans (pk_sub (a := 64 * (kb st - 224) + (kb (st + 1))) (b := 128) (by omega))
                          refine lv_istore_n (lv' := [(3, .int (nI (64 * (kb st - 224) + (kb (st + 1)) - 128))), (5, .int (nI (kb (st + 1)))), (4, .int 1), (2, .int 3), (1, .int (nI (kb st))), (0, .ref g0)]) hx hb dX1_sequence_179 rfl hl (by decide) rfl (fun ls hl => ?_)
                          refine lv_iinc (v := 2) (lv' := [(4, .int 2), (3, .int (nI (64 * (kb st - 224) + (kb (st + 1)) - 128))), (5, .int (nI (kb (st + 1)))), (2, .int 3), (1, .int (nI (kb st))), (0, .ref g0)]) hx hb dX1_sequence_180 hl (k := 2) rfl (by decide) (by decide) rfl (fun ls hl => ?_)
                          refine lv_goto (tgt := 130) hx hb dX1_sequence_183 (by decide) ?_
                          refine lv_iload hx hb dX1_sequence_130 (lv_at hl 0 rfl) ?_
                          refine lv_iload_n hx hb dX1_sequence_132 rfl (lv_at hl 3 rfl) ?_
                          refine lv_icmp_ge (tgt := 186) hx hb dX1_sequence_133 (by decide) (fun c_65 => ?_) (fun c_65 => ?_)
                          · exact absurd c_65 (by decide)
                          · have c_65 : ¬ 3 ≤ 2 := fun zz => c_65 ((nI_leI (a := 3) (b := 2) (by omega) (by omega)).mpr zz)
                            refine lv_aload_n hx hb dX1_sequence_136 rfl (lv_at hl 5 rfl) ?_
                            refine va_get (D := (dC, dI)) (ci := 1) (v := .ref g2) (C := RX1) (T := TX1) (N := 9) hx hb hts hIn hown hK hP 0 rfl rfl 2 (by decide) (hts (.fieldLink RX1 13 RX1 "kept" "[I") (by decide +kernel)) (fun _ h9 => h9) rfl dX1_sequence_137 ?_
                            refine lv_aload_n hx hb dX1_sequence_140 rfl (lv_at hl 5 rfl) ?_
                            refine va_get (D := (dC, dI)) (ci := 1) (v := .int (nI st)) (C := RX1) (T := TX1) (N := 9) hx hb hts hIn hown hK hP 0 rfl rfl 6 (by decide) (hts (.fieldLink RX1 41 RX1 "stand" "I") (by decide +kernel)) (fun _ h9 => h9) rfl dX1_sequence_141 ?_
                            refine lv_iload hx hb dX1_sequence_144 (lv_at hl 0 rfl) ?_
                            refine lv_iadd hx hb dX1_sequence_146 ?_
                            refine lv_topi (fun x_66 ex_66 => ?_)
                            obtain rfl : x_66 = nI (st + 2) := ex_66.trans (nI_add st 2)
                            refine va_iald hx hb hK hP 2 0 rfl rfl (vp_in_nI (n := st + 2) (by omega) (by omega)) dX1_sequence_147 ?_
                            refine lv_topi (fun x_67 ex_67 => ?_)
                            obtain rfl : x_67 = nI (kb (st + 2)) := ex_67.trans (congrArg (fun j => nI (kb j)) ((nI_clamp (by omega))))
                            have hb_68 := hkb (st + 2)
                            refine lv_istore (lv' := [(5, .int (nI (kb (st + 2)))), (4, .int 2), (3, .int (nI (64 * (kb st - 224) + (kb (st + 1)) - 128))), (2, .int 3), (1, .int (nI (kb st))), (0, .ref g0)]) hx hb dX1_sequence_148 hl (by decide) rfl (fun ls hl => ?_)
                            refine lv_iload hx hb dX1_sequence_150 (lv_at hl 0 rfl) ?_
                            refine lv_sipush (v := 128) hx hb dX1_sequence_152 (by decide) ?_
                            refine lv_icmp_lt (tgt := 166) hx hb dX1_sequence_155 (by decide) (fun c_69 => ?_) (fun c_69 => ?_)
                            · have c_69 : kb (st + 2) < 128 := (nI_ltI (a := kb (st + 2)) (b := 128) (by omega) (by omega)).mp c_69
                              refine lv_iconst (v := -1) hx hb dX1_sequence_166 (by decide) ?_
                              have hP9 : va_P (dC, dI) vwCl (mw g0 g1 g2 cA (tb, n, kb, ln, rd, fp, st, mt, bg)) s.heap := hP
                              have hD9 : va_D A (mw g0 g1 g2 cA (tb, n, kb, ln, rd, fp, st, mt, bg)) := hD
                              exact W.iret (v := (-1)) hx hb hr (fun t ht hW => ⟨⟨(-1), (tb, n, kb, ln, rd, fp, st, mt, bg), rfl, (by simp only [seqN, seq1, seq2, seq3, seq4, finN, if_pos c_3, if_pos c_4, if_pos c_5, if_neg c_6, if_neg c_49, if_pos c_51, if_neg c_52, if_neg c_53, if_pos c_54, if_neg c_56, if_neg c_60, if_pos c_61, if_neg c_65, if_pos c_69, seqR_n, seqR_s, seqS_n, seqS_s, and_self]), by rw [ht]; exact hP9, va_K.moved hW.alike hK, hD9⟩, hS.F ht⟩) hS.2.2 dX1_sequence_167
                            · have c_69 : ¬ kb (st + 2) < 128 := fun zz => c_69 ((nI_ltI (a := kb (st + 2)) (b := 128) (by omega) (by omega)).mpr zz)
                              refine lv_iload hx hb dX1_sequence_158 (lv_at hl 0 rfl) ?_
                              refine lv_sipush (v := 191) hx hb dX1_sequence_160 (by decide) ?_
                              refine lv_icmp_le (tgt := 168) hx hb dX1_sequence_163 (by decide) (fun c_70 => ?_) (fun c_70 => ?_)
                              · have c_70 : kb (st + 2) ≤ 191 := (nI_leI (a := kb (st + 2)) (b := 191) (by omega) (by omega)).mp c_70
                                refine lv_bipush (v := 64) hx hb dX1_sequence_168 (by decide) ?_
                                refine lv_iload_n hx hb dX1_sequence_170 rfl (lv_at hl 2 rfl) ?_
                                refine lv_imul hx hb dX1_sequence_171 ?_
                                refine lv_topi (fun x_71 ex_71 => ?_)
                                obtain rfl : x_71 = nI (64 * (64 * (kb st - 224) + (kb (st + 1)) - 128)) := ex_71.trans (pk_mul 64 (64 * (kb st - 224) + (kb (st + 1)) - 128))
                                refine lv_iload hx hb dX1_sequence_172 (lv_at hl 0 rfl) ?_
                                refine lv_iadd hx hb dX1_sequence_174 ?_
                                refine lv_topi (fun x_72 ex_72 => ?_)
                                obtain rfl : x_72 = nI (64 * (64 * (kb st - 224) + (kb (st + 1)) - 128) + (kb (st + 2))) := ex_72.trans (nI_add (64 * (64 * (kb st - 224) + (kb (st + 1)) - 128)) (kb (st + 2)))
                                refine lv_sipush (v := 128) hx hb dX1_sequence_175 (by decide) ?_
                                refine lv_isub hx hb dX1_sequence_178 ?_
                                refine lv_topi (fun x_73 ex_73 => ?_)
                                obtain rfl : x_73 = nI (64 * (64 * (kb st - 224) + (kb (st + 1)) - 128) + (kb (st + 2)) - 128) := ex_73.trans (pk_sub (a := 64 * (64 * (kb st - 224) + (kb (st + 1)) - 128) + (kb (st + 2))) (b := 128) (by omega))
                                refine lv_istore_n (lv' := [(3, .int (nI (64 * (64 * (kb st - 224) + (kb (st + 1)) - 128) + (kb (st + 2)) - 128))), (5, .int (nI (kb (st + 2)))), (4, .int 2), (2, .int 3), (1, .int (nI (kb st))), (0, .ref g0)]) hx hb dX1_sequence_179 rfl hl (by decide) rfl (fun ls hl => ?_)
                                refine lv_iinc (v := 3) (lv' := [(4, .int 3), (3, .int (nI (64 * (64 * (kb st - 224) + (kb (st + 1)) - 128) + (kb (st + 2)) - 128))), (5, .int (nI (kb (st + 2)))), (2, .int 3), (1, .int (nI (kb st))), (0, .ref g0)]) hx hb dX1_sequence_180 hl (k := 2) rfl (by decide) (by decide) rfl (fun ls hl => ?_)
                                refine lv_goto (tgt := 130) hx hb dX1_sequence_183 (by decide) ?_
                                refine lv_iload hx hb dX1_sequence_130 (lv_at hl 0 rfl) ?_
                                refine lv_iload_n hx hb dX1_sequence_132 rfl (lv_at hl 3 rfl) ?_
                                refine lv_icmp_ge (tgt := 186) hx hb dX1_sequence_133 (by decide) (fun c_74 => ?_) (fun c_74 => ?_)
                                · have c_74 : 3 ≤ 3 := (nI_leI (a := 3) (b := 3) (by omega) (by omega)).mp c_74
                                  refine lv_iload_n hx hb dX1_sequence_186 rfl (lv_at hl 1 rfl) ?_
                                  refine vp_callSi (W.runS (As := [.int (nI (64 * (64 * (kb st - 224) + (kb (st + 1)) - 128) + (kb (st + 2)) - 128))]) (rest := []) ⟨hx, hb, hml, hown, hts⟩ (c_X1_has l (nI (64 * (64 * (kb st - 224) + (kb (st + 1)) - 128) + (kb (st + 2)) - 128))) (va_cwS 1 hts gX1_sequence_X1_has rfl rfl rfl (by decide +kernel) ⟨Nat.le_of_ble_eq_true rfl, Nat.le_of_ble_eq_true rfl⟩) ⟨fun _ _ _ _ q => q, fun U hU hW => ⟨rfl, trivial⟩⟩ rfl rfl hl.1 rfl (lv_room (Nat.le_of_ble_eq_true rfl)) dX1_sequence_187 ⟨Nat.le_of_ble_eq_true rfl, Nat.le_of_ble_eq_true rfl⟩) (fun r_75 er_75 => ?_)
                                  obtain rfl : r_75 = bI (mHas (nI (64 * (64 * (kb st - 224) + (kb (st + 1)) - 128) + (kb (st + 2)) - 128))) := er_75
                                  refine lv_if_eq (tgt := 201) hx hb dX1_sequence_190 (by decide) (fun c_76 => ?_) (fun c_76 => ?_)
                                  · have c_76 := bI_0 c_76
                                    refine lv_iconst (v := -1) hx hb dX1_sequence_201 (by decide) ?_
                                    have hP9 : va_P (dC, dI) vwCl (mw g0 g1 g2 cA (tb, n, kb, ln, rd, fp, st, mt, bg)) s.heap := hP
                                    have hD9 : va_D A (mw g0 g1 g2 cA (tb, n, kb, ln, rd, fp, st, mt, bg)) := hD
                                    exact W.iret (v := (-1)) hx hb hr (fun t ht hW => ⟨⟨(-1), (tb, n, kb, ln, rd, fp, st, mt, bg), rfl, (by simp only [seqN, seq1, seq2, seq3, seq4, finN, if_pos c_3, if_pos c_4, if_pos c_5, if_neg c_6, if_neg c_49, if_pos c_51, if_neg c_52, if_neg c_53, if_pos c_54, if_neg c_56, if_neg c_60, if_pos c_61, if_neg c_65, if_neg c_69, if_pos c_70, if_pos c_74, if_neg c_76, seqR_n, seqR_s, seqS_n, seqS_s, and_self]), by rw [ht]; exact hP9, va_K.moved hW.alike hK, hD9⟩, hS.F ht⟩) hS.2.2 dX1_sequence_202
                                  · have c_76 := bI_n0 c_76
                                    refine lv_iload_n hx hb dX1_sequence_193 rfl (lv_at hl 1 rfl) ?_
                                    refine vp_callSi (W.runS (As := [.int (nI (64 * (64 * (kb st - 224) + (kb (st + 1)) - 128) + (kb (st + 2)) - 128))]) (rest := []) ⟨hx, hb, hml, hown, hts⟩ (c_X1_sizeOf l (nI (64 * (64 * (kb st - 224) + (kb (st + 1)) - 128) + (kb (st + 2)) - 128))) (va_cwS 1 hts gX1_sequence_X1_sizeOf rfl rfl rfl (by decide +kernel) ⟨Nat.le_of_ble_eq_true rfl, Nat.le_of_ble_eq_true rfl⟩) ⟨fun _ _ _ _ q => q, fun U hU hW => ⟨rfl, trivial⟩⟩ rfl rfl hl.1 rfl (lv_room (Nat.le_of_ble_eq_true rfl)) dX1_sequence_194 ⟨Nat.le_of_ble_eq_true rfl, Nat.le_of_ble_eq_true rfl⟩) (fun r_77 er_77 => ?_)
                                    obtain rfl : r_77 = mSize (nI (64 * (64 * (kb st - 224) + (kb (st + 1)) - 128) + (kb (st + 2)) - 128)) := er_77
                                    refine lv_iload_n hx hb dX1_sequence_197 rfl (lv_at hl 3 rfl) ?_
                                    refine lv_icmp_eq (tgt := 203) hx hb dX1_sequence_198 (by decide) (fun c_78 => ?_) (fun c_78 => ?_)
                                    · refine lv_aload_n hx hb dX1_sequence_203 rfl (lv_at hl 5 rfl) ?_
                                      refine lv_aload_n hx hb dX1_sequence_204 rfl (lv_at hl 5 rfl) ?_
                                      refine va_get (D := (dC, dI)) (ci := 1) (v := .int (nI st)) (C := RX1) (T := TX1) (N := 9) hx hb hts hIn hown hK hP 0 rfl rfl 6 (by decide) (hts (.fieldLink RX1 41 RX1 "stand" "I") (by decide +kernel)) (fun _ h9 => h9) rfl dX1_sequence_205 ?_
                                      refine lv_iload_n hx hb dX1_sequence_208 rfl (lv_at hl 3 rfl) ?_
                                      refine lv_iadd hx hb dX1_sequence_209 ?_
                                      refine lv_topi (fun x_79 ex_79 => ?_)
                                      obtain rfl : x_79 = nI (st + 3) := ex_79.trans (nI_add st 3)
                                      refine va_put (D := (dC, dI)) (ci := 1) (v := .int (nI (st + 3))) (ty := .int) (C := RX1) (T := TX1) (N := 9) hx hb hts hIn tyX1 tyX1_ok nmX1 hown hK hP hD hS 0 rfl rfl 6 (by decide) (hts (.fieldLink RX1 41 RX1 "stand" "I") (by decide +kernel)) (fun _ h9 => h9) rfl (by decide +kernel) rfl rfl (Nat.le_of_ble_eq_true rfl) dX1_sequence_210 (fun H locs hP hD hS => ?_)
                                      have hP : va_P (dC, dI) vwCl [(g0, .inr (1, [.ref g1, .int (nI n), .ref g2, .int (nI ln), .int (bI rd), .int fp, .int (nI (st + 3)), .int mt, .int bg])), (g1, .inl (cA, 1000, .inl (fun j => nI (tb j)))), (g2, .inl (cA, 1000, .inl (fun j => nI (kb j))))] H := hP
                                      have hD : va_D A [(g0, .inr (1, [.ref g1, .int (nI n), .ref g2, .int (nI ln), .int (bI rd), .int fp, .int (nI (st + 3)), .int mt, .int bg])), (g1, .inl (cA, 1000, .inl (fun j => nI (tb j)))), (g2, .inl (cA, 1000, .inl (fun j => nI (kb j))))] := hD
                                      refine lv_iload_n hx hb dX1_sequence_213 rfl (lv_at hl 1 rfl) ?_
                                      have hP9 : va_P (dC, dI) vwCl (mw g0 g1 g2 cA (tb, n, kb, ln, rd, fp, (st + 3), mt, bg)) H := hP
                                      have hD9 : va_D A (mw g0 g1 g2 cA (tb, n, kb, ln, rd, fp, (st + 3), mt, bg)) := hD
                                      exact W.iret (v := nI (64 * (64 * (kb st - 224) + (kb (st + 1)) - 128) + (kb (st + 2)) - 128)) hx hb hr (fun t ht hW => ⟨⟨nI (64 * (64 * (kb st - 224) + (kb (st + 1)) - 128) + (kb (st + 2)) - 128), (tb, n, kb, ln, rd, fp, (st + 3), mt, bg), rfl, (by simp only [seqN, seq1, seq2, seq3, seq4, finN, if_pos c_3, if_pos c_4, if_pos c_5, if_neg c_6, if_neg c_49, if_pos c_51, if_neg c_52, if_neg c_53, if_pos c_54, if_neg c_56, if_neg c_60, if_pos c_61, if_neg c_65, if_neg c_69, if_pos c_70, if_pos c_74, if_pos c_76, if_pos c_78, seqR_n, seqR_s, seqS_n, seqS_s, and_self]), by rw [ht]; exact hP9, va_K.moved hW.alike hK, hD9⟩, hS.F ht⟩) hS.2.2 dX1_sequence_214
                                    · refine lv_iconst (v := -1) hx hb dX1_sequence_201 (by decide) ?_
                                      have hP9 : va_P (dC, dI) vwCl (mw g0 g1 g2 cA (tb, n, kb, ln, rd, fp, st, mt, bg)) s.heap := hP
                                      have hD9 : va_D A (mw g0 g1 g2 cA (tb, n, kb, ln, rd, fp, st, mt, bg)) := hD
                                      exact W.iret (v := (-1)) hx hb hr (fun t ht hW => ⟨⟨(-1), (tb, n, kb, ln, rd, fp, st, mt, bg), rfl, (by simp only [seqN, seq1, seq2, seq3, seq4, finN, if_pos c_3, if_pos c_4, if_pos c_5, if_neg c_6, if_neg c_49, if_pos c_51, if_neg c_52, if_neg c_53, if_pos c_54, if_neg c_56, if_neg c_60, if_pos c_61, if_neg c_65, if_neg c_69, if_pos c_70, if_pos c_74, if_pos c_76, if_neg c_78, seqR_n, seqR_s, seqS_n, seqS_s, and_self]), by rw [ht]; exact hP9, va_K.moved hW.alike hK, hD9⟩, hS.F ht⟩) hS.2.2 dX1_sequence_202
                                · exact absurd c_74 (by decide)
                              · have c_70 : ¬ kb (st + 2) ≤ 191 := fun zz => c_70 ((nI_leI (a := kb (st + 2)) (b := 191) (by omega) (by omega)).mpr zz)
                                refine lv_iconst (v := -1) hx hb dX1_sequence_166 (by decide) ?_
                                have hP9 : va_P (dC, dI) vwCl (mw g0 g1 g2 cA (tb, n, kb, ln, rd, fp, st, mt, bg)) s.heap := hP
                                have hD9 : va_D A (mw g0 g1 g2 cA (tb, n, kb, ln, rd, fp, st, mt, bg)) := hD
                                exact W.iret (v := (-1)) hx hb hr (fun t ht hW => ⟨⟨(-1), (tb, n, kb, ln, rd, fp, st, mt, bg), rfl, (by simp only [seqN, seq1, seq2, seq3, seq4, finN, if_pos c_3, if_pos c_4, if_pos c_5, if_neg c_6, if_neg c_49, if_pos c_51, if_neg c_52, if_neg c_53, if_pos c_54, if_neg c_56, if_neg c_60, if_pos c_61, if_neg c_65, if_neg c_69, if_neg c_70, seqR_n, seqR_s, seqS_n, seqS_s, and_self]), by rw [ht]; exact hP9, va_K.moved hW.alike hK, hD9⟩, hS.F ht⟩) hS.2.2 dX1_sequence_167
                        · have c_61 : ¬ kb (st + 1) ≤ 191 := fun zz => c_61 ((nI_leI (a := kb (st + 1)) (b := 191) (by omega) (by omega)).mpr zz)
                          refine lv_iconst (v := -1) hx hb dX1_sequence_166 (by decide) ?_
                          have hP9 : va_P (dC, dI) vwCl (mw g0 g1 g2 cA (tb, n, kb, ln, rd, fp, st, mt, bg)) s.heap := hP
                          have hD9 : va_D A (mw g0 g1 g2 cA (tb, n, kb, ln, rd, fp, st, mt, bg)) := hD
                          exact W.iret (v := (-1)) hx hb hr (fun t ht hW => ⟨⟨(-1), (tb, n, kb, ln, rd, fp, st, mt, bg), rfl, (by simp only [seqN, seq1, seq2, seq3, seq4, finN, if_pos c_3, if_pos c_4, if_pos c_5, if_neg c_6, if_neg c_49, if_pos c_51, if_neg c_52, if_neg c_53, if_pos c_54, if_neg c_56, if_neg c_60, if_neg c_61, seqR_n, seqR_s, seqS_n, seqS_s, and_self]), by rw [ht]; exact hP9, va_K.moved hW.alike hK, hD9⟩, hS.F ht⟩) hS.2.2 dX1_sequence_167
                · exact absurd c_53 (by decide)
              · exact absurd c_52 (by decide)
            · have c_51 : ¬ st + 3 ≤ ln := fun zz => c_51 ((nI_leI (a := st + 3) (b := ln) (by omega) (by omega)).mpr zz)
              refine lv_iconst (v := -1) hx hb dX1_sequence_84 (by decide) ?_
              have hP9 : va_P (dC, dI) vwCl (mw g0 g1 g2 cA (tb, n, kb, ln, rd, fp, st, mt, bg)) s.heap := hP
              have hD9 : va_D A (mw g0 g1 g2 cA (tb, n, kb, ln, rd, fp, st, mt, bg)) := hD
              exact W.iret (v := (-1)) hx hb hr (fun t ht hW => ⟨⟨(-1), (tb, n, kb, ln, rd, fp, st, mt, bg), rfl, (by simp only [seqN, seq1, seq2, seq3, seq4, finN, if_pos c_3, if_pos c_4, if_pos c_5, if_neg c_6, if_neg c_49, if_neg c_51, seqR_n, seqR_s, seqS_n, seqS_s, and_self]), by rw [ht]; exact hP9, va_K.moved hW.alike hK, hD9⟩, hS.F ht⟩) hS.2.2 dX1_sequence_85
      · have c_5 : ¬ 224 ≤ kb st := fun zz => c_5 ((nI_leI (a := 224) (b := kb st) (by omega) (by omega)).mpr zz)
        refine lv_iconst (v := 2) hx hb dX1_sequence_39 (by decide) ?_
        refine lv_goto (tgt := 66) hx hb dX1_sequence_40 (by decide) ?_
        refine lv_istore_n (lv' := [(2, .int 2), (1, .int (nI (kb st))), (0, .ref g0)]) hx hb dX1_sequence_66 rfl hl (by decide) rfl (fun ls hl => ?_)
        refine lv_iload_n hx hb dX1_sequence_67 rfl (lv_at hl 0 rfl) ?_
        refine lv_if_eq (tgt := 84) hx hb dX1_sequence_68 (by decide) (fun c_80 => ?_) (fun c_80 => ?_)
        · exact absurd c_80 (by decide)
        · have c_80 : ¬ 2 = 0 := fun zz => c_80 ((nI_eq (a := 2) (b := 0) (by omega) (by omega)).mpr zz)
          refine lv_aload_n hx hb dX1_sequence_71 rfl (lv_at hl 2 rfl) ?_
          refine va_get (D := (dC, dI)) (ci := 1) (v := .int (nI st)) (C := RX1) (T := TX1) (N := 9) hx hb hts hIn hown hK hP 0 rfl rfl 6 (by decide) (hts (.fieldLink RX1 41 RX1 "stand" "I") (by decide +kernel)) (fun _ h9 => h9) rfl dX1_sequence_72 ?_
          refine lv_iload_n hx hb dX1_sequence_75 rfl (lv_at hl 0 rfl) ?_
          refine lv_iadd hx hb dX1_sequence_76 ?_
          refine lv_topi (fun x_81 ex_81 => ?_)
          obtain rfl : x_81 = nI (st + 2) := ex_81.trans (nI_add st 2)
          refine lv_aload_n hx hb dX1_sequence_77 rfl (lv_at hl 2 rfl) ?_
          refine va_get (D := (dC, dI)) (ci := 1) (v := .int (nI ln)) (C := RX1) (T := TX1) (N := 9) hx hb hts hIn hown hK hP 0 rfl rfl 3 (by decide) (hts (.fieldLink RX1 44 RX1 "length" "I") (by decide +kernel)) (fun _ h9 => h9) rfl dX1_sequence_78 ?_
          refine lv_icmp_le (tgt := 86) hx hb dX1_sequence_81 (by decide) (fun c_82 => ?_) (fun c_82 => ?_)
          · have c_82 : st + 2 ≤ ln := (nI_leI (a := st + 2) (b := ln) (by omega) (by omega)).mp c_82
            refine lv_iload_n hx hb dX1_sequence_86 rfl (lv_at hl 0 rfl) ?_
            refine lv_iconst (v := 1) hx hb dX1_sequence_87 (by decide) ?_
            refine lv_icmp_ne (tgt := 95) hx hb dX1_sequence_88 (by decide) (fun c_83 => ?_) (fun c_83 => ?_)
            · have c_83 : ¬ 2 = 1 := fun zz => c_83 ((nI_eq (a := 2) (b := 1) (by omega) (by omega)).mpr zz)
              refine lv_iload_n hx hb dX1_sequence_95 rfl (lv_at hl 0 rfl) ?_
              refine lv_iconst (v := 2) hx hb dX1_sequence_96 (by decide) ?_
              refine lv_icmp_ne (tgt := 108) hx hb dX1_sequence_97 (by decide) (fun c_84 => ?_) (fun c_84 => ?_)
              · exact absurd c_84 (by decide)
              · have c_84 : 2 = 2 := (nI_eq (a := 2) (b := 2) (by omega) (by omega)).mp c_84
                refine lv_iload_n hx hb dX1_sequence_100 rfl (lv_at hl 1 rfl) ?_
                refine lv_sipush (v := 192) hx hb dX1_sequence_101 (by decide) ?_
                refine lv_isub hx hb dX1_sequence_104 ?_
                refine lv_topi (fun x_85 ex_85 => ?_)
                obtain rfl : x_85 = nI (kb st - 192) := ex_85.trans (pk_sub (a := kb st) (b := 192) (by omega))
                refine lv_goto (tgt := 126) hx hb dX1_sequence_105 (by decide) ?_
                refine lv_istore_n (lv' := [(3, .int (nI (kb st - 192))), (2, .int 2), (1, .int (nI (kb st))), (0, .ref g0)]) hx hb dX1_sequence_126 rfl hl (by decide) rfl (fun ls hl => ?_)
                refine lv_iconst (v := 1) hx hb dX1_sequence_127 (by decide) ?_
                refine lv_istore (lv' := [(4, .int 1), (3, .int (nI (kb st - 192))), (2, .int 2), (1, .int (nI (kb st))), (0, .ref g0)]) hx hb dX1_sequence_128 hl (by decide) rfl (fun ls hl => ?_)
                refine lv_iload hx hb dX1_sequence_130 (lv_at hl 0 rfl) ?_
                refine lv_iload_n hx hb dX1_sequence_132 rfl (lv_at hl 2 rfl) ?_
                refine lv_icmp_ge (tgt := 186) hx hb dX1_sequence_133 (by decide) (fun c_86 => ?_) (fun c_86 => ?_)
                · exact absurd c_86 (by decide)
                · have c_86 : ¬ 2 ≤ 1 := fun zz => c_86 ((nI_leI (a := 2) (b := 1) (by omega) (by omega)).mpr zz)
                  refine lv_aload_n hx hb dX1_sequence_136 rfl (lv_at hl 4 rfl) ?_
                  refine va_get (D := (dC, dI)) (ci := 1) (v := .ref g2) (C := RX1) (T := TX1) (N := 9) hx hb hts hIn hown hK hP 0 rfl rfl 2 (by decide) (hts (.fieldLink RX1 13 RX1 "kept" "[I") (by decide +kernel)) (fun _ h9 => h9) rfl dX1_sequence_137 ?_
                  refine lv_aload_n hx hb dX1_sequence_140 rfl (lv_at hl 4 rfl) ?_
                  refine va_get (D := (dC, dI)) (ci := 1) (v := .int (nI st)) (C := RX1) (T := TX1) (N := 9) hx hb hts hIn hown hK hP 0 rfl rfl 6 (by decide) (hts (.fieldLink RX1 41 RX1 "stand" "I") (by decide +kernel)) (fun _ h9 => h9) rfl dX1_sequence_141 ?_
                  refine lv_iload hx hb dX1_sequence_144 (lv_at hl 0 rfl) ?_
                  refine lv_iadd hx hb dX1_sequence_146 ?_
                  refine lv_topi (fun x_87 ex_87 => ?_)
                  obtain rfl : x_87 = nI (st + 1) := ex_87.trans (nI_add st 1)
                  refine va_iald hx hb hK hP 2 0 rfl rfl (vp_in_nI (n := st + 1) (by omega) (by omega)) dX1_sequence_147 ?_
                  refine lv_topi (fun x_88 ex_88 => ?_)
                  obtain rfl : x_88 = nI (kb (st + 1)) := ex_88.trans (congrArg (fun j => nI (kb j)) ((nI_clamp (by omega))))
                  have hb_89 := hkb (st + 1)
                  refine lv_istore (lv' := [(5, .int (nI (kb (st + 1)))), (4, .int 1), (3, .int (nI (kb st - 192))), (2, .int 2), (1, .int (nI (kb st))), (0, .ref g0)]) hx hb dX1_sequence_148 hl (by decide) rfl (fun ls hl => ?_)
                  refine lv_iload hx hb dX1_sequence_150 (lv_at hl 0 rfl) ?_
                  refine lv_sipush (v := 128) hx hb dX1_sequence_152 (by decide) ?_
                  refine lv_icmp_lt (tgt := 166) hx hb dX1_sequence_155 (by decide) (fun c_90 => ?_) (fun c_90 => ?_)
                  · have c_90 : kb (st + 1) < 128 := (nI_ltI (a := kb (st + 1)) (b := 128) (by omega) (by omega)).mp c_90
                    refine lv_iconst (v := -1) hx hb dX1_sequence_166 (by decide) ?_
                    have hP9 : va_P (dC, dI) vwCl (mw g0 g1 g2 cA (tb, n, kb, ln, rd, fp, st, mt, bg)) s.heap := hP
                    have hD9 : va_D A (mw g0 g1 g2 cA (tb, n, kb, ln, rd, fp, st, mt, bg)) := hD
                    exact W.iret (v := (-1)) hx hb hr (fun t ht hW => ⟨⟨(-1), (tb, n, kb, ln, rd, fp, st, mt, bg), rfl, (by simp only [seqN, seq1, seq2, seq3, seq4, finN, if_pos c_3, if_pos c_4, if_neg c_5, if_neg c_80, if_pos c_82, if_neg c_83, if_pos c_84, if_neg c_86, if_pos c_90, seqR_n, seqR_s, seqS_n, seqS_s, and_self]), by rw [ht]; exact hP9, va_K.moved hW.alike hK, hD9⟩, hS.F ht⟩) hS.2.2 dX1_sequence_167
                  · have c_90 : ¬ kb (st + 1) < 128 := fun zz => c_90 ((nI_ltI (a := kb (st + 1)) (b := 128) (by omega) (by omega)).mpr zz)
                    refine lv_iload hx hb dX1_sequence_158 (lv_at hl 0 rfl) ?_
                    refine lv_sipush (v := 191) hx hb dX1_sequence_160 (by decide) ?_
                    refine lv_icmp_le (tgt := 168) hx hb dX1_sequence_163 (by decide) (fun c_91 => ?_) (fun c_91 => ?_)
                    · have c_91 : kb (st + 1) ≤ 191 := (nI_leI (a := kb (st + 1)) (b := 191) (by omega) (by omega)).mp c_91
                      refine lv_bipush (v := 64) hx hb dX1_sequence_168 (by decide) ?_
                      refine lv_iload_n hx hb dX1_sequence_170 rfl (lv_at hl 2 rfl) ?_
                      refine lv_imul hx hb dX1_sequence_171 ?_
                      refine lv_topi (fun x_92 ex_92 => ?_)
                      obtain rfl : x_92 = nI (64 * (kb st - 192)) := ex_92.trans (pk_mul 64 (kb st - 192))
                      refine lv_iload hx hb dX1_sequence_172 (lv_at hl 0 rfl) ?_
                      refine lv_iadd hx hb dX1_sequence_174 ?_
                      refine lv_topi (fun x_93 ex_93 => ?_)
                      obtain rfl : x_93 = nI (64 * (kb st - 192) + (kb (st + 1))) := ex_93.trans (nI_add (64 * (kb st - 192)) (kb (st + 1)))
                      refine lv_sipush (v := 128) hx hb dX1_sequence_175 (by decide) ?_
                      refine lv_isub hx hb dX1_sequence_178 ?_
                      refine lv_topi (fun x_94 ex_94 => ?_)
                      obtain rfl : x_94 = nI (64 * (kb st - 192) + (kb (st + 1)) - 128) := ex_94.trans (pk_sub (a := 64 * (kb st - 192) + (kb (st + 1))) (b := 128) (by omega))
                      refine lv_istore_n (lv' := [(3, .int (nI (64 * (kb st - 192) + (kb (st + 1)) - 128))), (5, .int (nI (kb (st + 1)))), (4, .int 1), (2, .int 2), (1, .int (nI (kb st))), (0, .ref g0)]) hx hb dX1_sequence_179 rfl hl (by decide) rfl (fun ls hl => ?_)
                      refine lv_iinc (v := 2) (lv' := [(4, .int 2), (3, .int (nI (64 * (kb st - 192) + (kb (st + 1)) - 128))), (5, .int (nI (kb (st + 1)))), (2, .int 2), (1, .int (nI (kb st))), (0, .ref g0)]) hx hb dX1_sequence_180 hl (k := 2) rfl (by decide) (by decide) rfl (fun ls hl => ?_)
                      refine lv_goto (tgt := 130) hx hb dX1_sequence_183 (by decide) ?_
                      refine lv_iload hx hb dX1_sequence_130 (lv_at hl 0 rfl) ?_
                      refine lv_iload_n hx hb dX1_sequence_132 rfl (lv_at hl 3 rfl) ?_
                      refine lv_icmp_ge (tgt := 186) hx hb dX1_sequence_133 (by decide) (fun c_95 => ?_) (fun c_95 => ?_)
                      · have c_95 : 2 ≤ 2 := (nI_leI (a := 2) (b := 2) (by omega) (by omega)).mp c_95
                        refine lv_iload_n hx hb dX1_sequence_186 rfl (lv_at hl 1 rfl) ?_
                        refine vp_callSi (W.runS (As := [.int (nI (64 * (kb st - 192) + (kb (st + 1)) - 128))]) (rest := []) ⟨hx, hb, hml, hown, hts⟩ (c_X1_has l (nI (64 * (kb st - 192) + (kb (st + 1)) - 128))) (va_cwS 1 hts gX1_sequence_X1_has rfl rfl rfl (by decide +kernel) ⟨Nat.le_of_ble_eq_true rfl, Nat.le_of_ble_eq_true rfl⟩) ⟨fun _ _ _ _ q => q, fun U hU hW => ⟨rfl, trivial⟩⟩ rfl rfl hl.1 rfl (lv_room (Nat.le_of_ble_eq_true rfl)) dX1_sequence_187 ⟨Nat.le_of_ble_eq_true rfl, Nat.le_of_ble_eq_true rfl⟩) (fun r_96 er_96 => ?_)
                        obtain rfl : r_96 = bI (mHas (nI (64 * (kb st - 192) + (kb (st + 1)) - 128))) := er_96
                        refine lv_if_eq (tgt := 201) hx hb dX1_sequence_190 (by decide) (fun c_97 => ?_) (fun c_97 => ?_)
                        · have c_97 := bI_0 c_97
                          refine lv_iconst (v := -1) hx hb dX1_sequence_201 (by decide) ?_
                          have hP9 : va_P (dC, dI) vwCl (mw g0 g1 g2 cA (tb, n, kb, ln, rd, fp, st, mt, bg)) s.heap := hP
                          have hD9 : va_D A (mw g0 g1 g2 cA (tb, n, kb, ln, rd, fp, st, mt, bg)) := hD
                          exact W.iret (v := (-1)) hx hb hr (fun t ht hW => ⟨⟨(-1), (tb, n, kb, ln, rd, fp, st, mt, bg), rfl, (by simp only [seqN, seq1, seq2, seq3, seq4, finN, if_pos c_3, if_pos c_4, if_neg c_5, if_neg c_80, if_pos c_82, if_neg c_83, if_pos c_84, if_neg c_86, if_neg c_90, if_pos c_91, if_pos c_95, if_neg c_97, seqR_n, seqR_s, seqS_n, seqS_s, and_self]), by rw [ht]; exact hP9, va_K.moved hW.alike hK, hD9⟩, hS.F ht⟩) hS.2.2 dX1_sequence_202
                        · have c_97 := bI_n0 c_97
                          refine lv_iload_n hx hb dX1_sequence_193 rfl (lv_at hl 1 rfl) ?_
                          refine vp_callSi (W.runS (As := [.int (nI (64 * (kb st - 192) + (kb (st + 1)) - 128))]) (rest := []) ⟨hx, hb, hml, hown, hts⟩ (c_X1_sizeOf l (nI (64 * (kb st - 192) + (kb (st + 1)) - 128))) (va_cwS 1 hts gX1_sequence_X1_sizeOf rfl rfl rfl (by decide +kernel) ⟨Nat.le_of_ble_eq_true rfl, Nat.le_of_ble_eq_true rfl⟩) ⟨fun _ _ _ _ q => q, fun U hU hW => ⟨rfl, trivial⟩⟩ rfl rfl hl.1 rfl (lv_room (Nat.le_of_ble_eq_true rfl)) dX1_sequence_194 ⟨Nat.le_of_ble_eq_true rfl, Nat.le_of_ble_eq_true rfl⟩) (fun r_98 er_98 => ?_)
                          obtain rfl : r_98 = mSize (nI (64 * (kb st - 192) + (kb (st + 1)) - 128)) := er_98
                          refine lv_iload_n hx hb dX1_sequence_197 rfl (lv_at hl 3 rfl) ?_
                          refine lv_icmp_eq (tgt := 203) hx hb dX1_sequence_198 (by decide) (fun c_99 => ?_) (fun c_99 => ?_)
                          · refine lv_aload_n hx hb dX1_sequence_203 rfl (lv_at hl 5 rfl) ?_
                            refine lv_aload_n hx hb dX1_sequence_204 rfl (lv_at hl 5 rfl) ?_
                            refine va_get (D := (dC, dI)) (ci := 1) (v := .int (nI st)) (C := RX1) (T := TX1) (N := 9) hx hb hts hIn hown hK hP 0 rfl rfl 6 (by decide) (hts (.fieldLink RX1 41 RX1 "stand" "I") (by decide +kernel)) (fun _ h9 => h9) rfl dX1_sequence_205 ?_
                            refine lv_iload_n hx hb dX1_sequence_208 rfl (lv_at hl 3 rfl) ?_
                            refine lv_iadd hx hb dX1_sequence_209 ?_
                            refine lv_topi (fun x_100 ex_100 => ?_)
                            obtain rfl : x_100 = nI (st + 2) := ex_100.trans (nI_add st 2)
                            refine va_put (D := (dC, dI)) (ci := 1) (v := .int (nI (st + 2))) (ty := .int) (C := RX1) (T := TX1) (N := 9) hx hb hts hIn tyX1 tyX1_ok nmX1 hown hK hP hD hS 0 rfl rfl 6 (by decide) (hts (.fieldLink RX1 41 RX1 "stand" "I") (by decide +kernel)) (fun _ h9 => h9) rfl (by decide +kernel) rfl rfl (Nat.le_of_ble_eq_true rfl) dX1_sequence_210 (fun H locs hP hD hS => ?_)
                            have hP : va_P (dC, dI) vwCl [(g0, .inr (1, [.ref g1, .int (nI n), .ref g2, .int (nI ln), .int (bI rd), .int fp, .int (nI (st + 2)), .int mt, .int bg])), (g1, .inl (cA, 1000, .inl (fun j => nI (tb j)))), (g2, .inl (cA, 1000, .inl (fun j => nI (kb j))))] H := hP
                            have hD : va_D A [(g0, .inr (1, [.ref g1, .int (nI n), .ref g2, .int (nI ln), .int (bI rd), .int fp, .int (nI (st + 2)), .int mt, .int bg])), (g1, .inl (cA, 1000, .inl (fun j => nI (tb j)))), (g2, .inl (cA, 1000, .inl (fun j => nI (kb j))))] := hD
                            refine lv_iload_n hx hb dX1_sequence_213 rfl (lv_at hl 1 rfl) ?_
                            have hP9 : va_P (dC, dI) vwCl (mw g0 g1 g2 cA (tb, n, kb, ln, rd, fp, (st + 2), mt, bg)) H := hP
                            have hD9 : va_D A (mw g0 g1 g2 cA (tb, n, kb, ln, rd, fp, (st + 2), mt, bg)) := hD
                            exact W.iret (v := nI (64 * (kb st - 192) + (kb (st + 1)) - 128)) hx hb hr (fun t ht hW => ⟨⟨nI (64 * (kb st - 192) + (kb (st + 1)) - 128), (tb, n, kb, ln, rd, fp, (st + 2), mt, bg), rfl, (by simp only [seqN, seq1, seq2, seq3, seq4, finN, if_pos c_3, if_pos c_4, if_neg c_5, if_neg c_80, if_pos c_82, if_neg c_83, if_pos c_84, if_neg c_86, if_neg c_90, if_pos c_91, if_pos c_95, if_pos c_97, if_pos c_99, seqR_n, seqR_s, seqS_n, seqS_s, and_self]), by rw [ht]; exact hP9, va_K.moved hW.alike hK, hD9⟩, hS.F ht⟩) hS.2.2 dX1_sequence_214
                          · refine lv_iconst (v := -1) hx hb dX1_sequence_201 (by decide) ?_
                            have hP9 : va_P (dC, dI) vwCl (mw g0 g1 g2 cA (tb, n, kb, ln, rd, fp, st, mt, bg)) s.heap := hP
                            have hD9 : va_D A (mw g0 g1 g2 cA (tb, n, kb, ln, rd, fp, st, mt, bg)) := hD
                            exact W.iret (v := (-1)) hx hb hr (fun t ht hW => ⟨⟨(-1), (tb, n, kb, ln, rd, fp, st, mt, bg), rfl, (by simp only [seqN, seq1, seq2, seq3, seq4, finN, if_pos c_3, if_pos c_4, if_neg c_5, if_neg c_80, if_pos c_82, if_neg c_83, if_pos c_84, if_neg c_86, if_neg c_90, if_pos c_91, if_pos c_95, if_pos c_97, if_neg c_99, seqR_n, seqR_s, seqS_n, seqS_s, and_self]), by rw [ht]; exact hP9, va_K.moved hW.alike hK, hD9⟩, hS.F ht⟩) hS.2.2 dX1_sequence_202
                      · exact absurd c_95 (by decide)
                    · have c_91 : ¬ kb (st + 1) ≤ 191 := fun zz => c_91 ((nI_leI (a := kb (st + 1)) (b := 191) (by omega) (by omega)).mpr zz)
                      refine lv_iconst (v := -1) hx hb dX1_sequence_166 (by decide) ?_
                      have hP9 : va_P (dC, dI) vwCl (mw g0 g1 g2 cA (tb, n, kb, ln, rd, fp, st, mt, bg)) s.heap := hP
                      have hD9 : va_D A (mw g0 g1 g2 cA (tb, n, kb, ln, rd, fp, st, mt, bg)) := hD
                      exact W.iret (v := (-1)) hx hb hr (fun t ht hW => ⟨⟨(-1), (tb, n, kb, ln, rd, fp, st, mt, bg), rfl, (by simp only [seqN, seq1, seq2, seq3, seq4, finN, if_pos c_3, if_pos c_4, if_neg c_5, if_neg c_80, if_pos c_82, if_neg c_83, if_pos c_84, if_neg c_86, if_neg c_90, if_neg c_91, seqR_n, seqR_s, seqS_n, seqS_s, and_self]), by rw [ht]; exact hP9, va_K.moved hW.alike hK, hD9⟩, hS.F ht⟩) hS.2.2 dX1_sequence_167
            · exact absurd c_83 (by decide)
          · have c_82 : ¬ st + 2 ≤ ln := fun zz => c_82 ((nI_leI (a := st + 2) (b := ln) (by omega) (by omega)).mpr zz)
            refine lv_iconst (v := -1) hx hb dX1_sequence_84 (by decide) ?_
            have hP9 : va_P (dC, dI) vwCl (mw g0 g1 g2 cA (tb, n, kb, ln, rd, fp, st, mt, bg)) s.heap := hP
            have hD9 : va_D A (mw g0 g1 g2 cA (tb, n, kb, ln, rd, fp, st, mt, bg)) := hD
            exact W.iret (v := (-1)) hx hb hr (fun t ht hW => ⟨⟨(-1), (tb, n, kb, ln, rd, fp, st, mt, bg), rfl, (by simp only [seqN, seq1, seq2, seq3, seq4, finN, if_pos c_3, if_pos c_4, if_neg c_5, if_neg c_80, if_neg c_82, seqR_n, seqR_s, seqS_n, seqS_s, and_self]), by rw [ht]; exact hP9, va_K.moved hW.alike hK, hD9⟩, hS.F ht⟩) hS.2.2 dX1_sequence_85
    · have c_4 : ¬ 192 ≤ kb st := fun zz => c_4 ((nI_leI (a := 192) (b := kb st) (by omega) (by omega)).mpr zz)
      refine lv_iconst (v := 0) hx hb dX1_sequence_28 (by decide) ?_
      refine lv_goto (tgt := 66) hx hb dX1_sequence_29 (by decide) ?_
      refine lv_istore_n (lv' := [(2, .int 0), (1, .int (nI (kb st))), (0, .ref g0)]) hx hb dX1_sequence_66 rfl hl (by decide) rfl (fun ls hl => ?_)
      refine lv_iload_n hx hb dX1_sequence_67 rfl (lv_at hl 0 rfl) ?_
      refine lv_if_eq (tgt := 84) hx hb dX1_sequence_68 (by decide) (fun c_101 => ?_) (fun c_101 => ?_)
      · have c_101 : 0 = 0 := (nI_eq (a := 0) (b := 0) (by omega) (by omega)).mp c_101
        refine lv_iconst (v := -1) hx hb dX1_sequence_84 (by decide) ?_
        have hP9 : va_P (dC, dI) vwCl (mw g0 g1 g2 cA (tb, n, kb, ln, rd, fp, st, mt, bg)) s.heap := hP
        have hD9 : va_D A (mw g0 g1 g2 cA (tb, n, kb, ln, rd, fp, st, mt, bg)) := hD
        exact W.iret (v := (-1)) hx hb hr (fun t ht hW => ⟨⟨(-1), (tb, n, kb, ln, rd, fp, st, mt, bg), rfl, (by simp only [seqN, seq1, seq2, seq3, seq4, finN, if_pos c_3, if_neg c_4, if_pos c_101, seqR_n, seqR_s, seqS_n, seqS_s, and_self]), by rw [ht]; exact hP9, va_K.moved hW.alike hK, hD9⟩, hS.F ht⟩) hS.2.2 dX1_sequence_85
      · exact absurd c_101 (by decide)
  · have c_3 : ¬ 128 ≤ kb st := fun zz => c_3 ((nI_leI (a := 128) (b := kb st) (by omega) (by omega)).mpr zz)
    refine lv_iconst (v := 1) hx hb dX1_sequence_17 (by decide) ?_
    refine lv_goto (tgt := 66) hx hb dX1_sequence_18 (by decide) ?_
    refine lv_istore_n (lv' := [(2, .int 1), (1, .int (nI (kb st))), (0, .ref g0)]) hx hb dX1_sequence_66 rfl hl (by decide) rfl (fun ls hl => ?_)
    refine lv_iload_n hx hb dX1_sequence_67 rfl (lv_at hl 0 rfl) ?_
    refine lv_if_eq (tgt := 84) hx hb dX1_sequence_68 (by decide) (fun c_102 => ?_) (fun c_102 => ?_)
    · exact absurd c_102 (by decide)
    · have c_102 : ¬ 1 = 0 := fun zz => c_102 ((nI_eq (a := 1) (b := 0) (by omega) (by omega)).mpr zz)
      refine lv_aload_n hx hb dX1_sequence_71 rfl (lv_at hl 2 rfl) ?_
      refine va_get (D := (dC, dI)) (ci := 1) (v := .int (nI st)) (C := RX1) (T := TX1) (N := 9) hx hb hts hIn hown hK hP 0 rfl rfl 6 (by decide) (hts (.fieldLink RX1 41 RX1 "stand" "I") (by decide +kernel)) (fun _ h9 => h9) rfl dX1_sequence_72 ?_
      refine lv_iload_n hx hb dX1_sequence_75 rfl (lv_at hl 0 rfl) ?_
      refine lv_iadd hx hb dX1_sequence_76 ?_
      refine lv_topi (fun x_103 ex_103 => ?_)
      obtain rfl : x_103 = nI (st + 1) := ex_103.trans (nI_add st 1)
      refine lv_aload_n hx hb dX1_sequence_77 rfl (lv_at hl 2 rfl) ?_
      refine va_get (D := (dC, dI)) (ci := 1) (v := .int (nI ln)) (C := RX1) (T := TX1) (N := 9) hx hb hts hIn hown hK hP 0 rfl rfl 3 (by decide) (hts (.fieldLink RX1 44 RX1 "length" "I") (by decide +kernel)) (fun _ h9 => h9) rfl dX1_sequence_78 ?_
      refine lv_icmp_le (tgt := 86) hx hb dX1_sequence_81 (by decide) (fun c_104 => ?_) (fun c_104 => ?_)
      · have c_104 : st + 1 ≤ ln := (nI_leI (a := st + 1) (b := ln) (by omega) (by omega)).mp c_104
        refine lv_iload_n hx hb dX1_sequence_86 rfl (lv_at hl 0 rfl) ?_
        refine lv_iconst (v := 1) hx hb dX1_sequence_87 (by decide) ?_
        refine lv_icmp_ne (tgt := 95) hx hb dX1_sequence_88 (by decide) (fun c_105 => ?_) (fun c_105 => ?_)
        · exact absurd c_105 (by decide)
        · have c_105 : 1 = 1 := (nI_eq (a := 1) (b := 1) (by omega) (by omega)).mp c_105
          refine lv_iload_n hx hb dX1_sequence_91 rfl (lv_at hl 1 rfl) ?_
          refine lv_goto (tgt := 126) hx hb dX1_sequence_92 (by decide) ?_
          refine lv_istore_n (lv' := [(3, .int (nI (kb st))), (2, .int 1), (1, .int (nI (kb st))), (0, .ref g0)]) hx hb dX1_sequence_126 rfl hl (by decide) rfl (fun ls hl => ?_)
          refine lv_iconst (v := 1) hx hb dX1_sequence_127 (by decide) ?_
          refine lv_istore (lv' := [(4, .int 1), (3, .int (nI (kb st))), (2, .int 1), (1, .int (nI (kb st))), (0, .ref g0)]) hx hb dX1_sequence_128 hl (by decide) rfl (fun ls hl => ?_)
          refine lv_iload hx hb dX1_sequence_130 (lv_at hl 0 rfl) ?_
          refine lv_iload_n hx hb dX1_sequence_132 rfl (lv_at hl 2 rfl) ?_
          refine lv_icmp_ge (tgt := 186) hx hb dX1_sequence_133 (by decide) (fun c_106 => ?_) (fun c_106 => ?_)
          · have c_106 : 1 ≤ 1 := (nI_leI (a := 1) (b := 1) (by omega) (by omega)).mp c_106
            refine lv_iload_n hx hb dX1_sequence_186 rfl (lv_at hl 1 rfl) ?_
            refine vp_callSi (W.runS (As := [.int (nI (kb st))]) (rest := []) ⟨hx, hb, hml, hown, hts⟩ (c_X1_has l (nI (kb st))) (va_cwS 1 hts gX1_sequence_X1_has rfl rfl rfl (by decide +kernel) ⟨Nat.le_of_ble_eq_true rfl, Nat.le_of_ble_eq_true rfl⟩) ⟨fun _ _ _ _ q => q, fun U hU hW => ⟨rfl, trivial⟩⟩ rfl rfl hl.1 rfl (lv_room (Nat.le_of_ble_eq_true rfl)) dX1_sequence_187 ⟨Nat.le_of_ble_eq_true rfl, Nat.le_of_ble_eq_true rfl⟩) (fun r_107 er_107 => ?_)
            obtain rfl : r_107 = bI (mHas (nI (kb st))) := er_107
            refine lv_if_eq (tgt := 201) hx hb dX1_sequence_190 (by decide) (fun c_108 => ?_) (fun c_108 => ?_)
            · have c_108 := bI_0 c_108
              refine lv_iconst (v := -1) hx hb dX1_sequence_201 (by decide) ?_
              have hP9 : va_P (dC, dI) vwCl (mw g0 g1 g2 cA (tb, n, kb, ln, rd, fp, st, mt, bg)) s.heap := hP
              have hD9 : va_D A (mw g0 g1 g2 cA (tb, n, kb, ln, rd, fp, st, mt, bg)) := hD
              exact W.iret (v := (-1)) hx hb hr (fun t ht hW => ⟨⟨(-1), (tb, n, kb, ln, rd, fp, st, mt, bg), rfl, (by simp only [seqN, seq1, seq2, seq3, seq4, finN, if_neg c_3, if_neg c_102, if_pos c_104, if_pos c_105, if_pos c_106, if_neg c_108, seqR_n, seqR_s, seqS_n, seqS_s, and_self]), by rw [ht]; exact hP9, va_K.moved hW.alike hK, hD9⟩, hS.F ht⟩) hS.2.2 dX1_sequence_202
            · have c_108 := bI_n0 c_108
              refine lv_iload_n hx hb dX1_sequence_193 rfl (lv_at hl 1 rfl) ?_
              refine vp_callSi (W.runS (As := [.int (nI (kb st))]) (rest := []) ⟨hx, hb, hml, hown, hts⟩ (c_X1_sizeOf l (nI (kb st))) (va_cwS 1 hts gX1_sequence_X1_sizeOf rfl rfl rfl (by decide +kernel) ⟨Nat.le_of_ble_eq_true rfl, Nat.le_of_ble_eq_true rfl⟩) ⟨fun _ _ _ _ q => q, fun U hU hW => ⟨rfl, trivial⟩⟩ rfl rfl hl.1 rfl (lv_room (Nat.le_of_ble_eq_true rfl)) dX1_sequence_194 ⟨Nat.le_of_ble_eq_true rfl, Nat.le_of_ble_eq_true rfl⟩) (fun r_109 er_109 => ?_)
              obtain rfl : r_109 = mSize (nI (kb st)) := er_109
              refine lv_iload_n hx hb dX1_sequence_197 rfl (lv_at hl 2 rfl) ?_
              refine lv_icmp_eq (tgt := 203) hx hb dX1_sequence_198 (by decide) (fun c_110 => ?_) (fun c_110 => ?_)
              · refine lv_aload_n hx hb dX1_sequence_203 rfl (lv_at hl 4 rfl) ?_
                refine lv_aload_n hx hb dX1_sequence_204 rfl (lv_at hl 4 rfl) ?_
                refine va_get (D := (dC, dI)) (ci := 1) (v := .int (nI st)) (C := RX1) (T := TX1) (N := 9) hx hb hts hIn hown hK hP 0 rfl rfl 6 (by decide) (hts (.fieldLink RX1 41 RX1 "stand" "I") (by decide +kernel)) (fun _ h9 => h9) rfl dX1_sequence_205 ?_
                refine lv_iload_n hx hb dX1_sequence_208 rfl (lv_at hl 2 rfl) ?_
                refine lv_iadd hx hb dX1_sequence_209 ?_
                refine lv_topi (fun x_111 ex_111 => ?_)
                obtain rfl : x_111 = nI (st + 1) := ex_111.trans (nI_add st 1)
                refine va_put (D := (dC, dI)) (ci := 1) (v := .int (nI (st + 1))) (ty := .int) (C := RX1) (T := TX1) (N := 9) hx hb hts hIn tyX1 tyX1_ok nmX1 hown hK hP hD hS 0 rfl rfl 6 (by decide) (hts (.fieldLink RX1 41 RX1 "stand" "I") (by decide +kernel)) (fun _ h9 => h9) rfl (by decide +kernel) rfl rfl (Nat.le_of_ble_eq_true rfl) dX1_sequence_210 (fun H locs hP hD hS => ?_)
                have hP : va_P (dC, dI) vwCl [(g0, .inr (1, [.ref g1, .int (nI n), .ref g2, .int (nI ln), .int (bI rd), .int fp, .int (nI (st + 1)), .int mt, .int bg])), (g1, .inl (cA, 1000, .inl (fun j => nI (tb j)))), (g2, .inl (cA, 1000, .inl (fun j => nI (kb j))))] H := hP
                have hD : va_D A [(g0, .inr (1, [.ref g1, .int (nI n), .ref g2, .int (nI ln), .int (bI rd), .int fp, .int (nI (st + 1)), .int mt, .int bg])), (g1, .inl (cA, 1000, .inl (fun j => nI (tb j)))), (g2, .inl (cA, 1000, .inl (fun j => nI (kb j))))] := hD
                refine lv_iload_n hx hb dX1_sequence_213 rfl (lv_at hl 1 rfl) ?_
                have hP9 : va_P (dC, dI) vwCl (mw g0 g1 g2 cA (tb, n, kb, ln, rd, fp, (st + 1), mt, bg)) H := hP
                have hD9 : va_D A (mw g0 g1 g2 cA (tb, n, kb, ln, rd, fp, (st + 1), mt, bg)) := hD
                exact W.iret (v := nI (kb st)) hx hb hr (fun t ht hW => ⟨⟨nI (kb st), (tb, n, kb, ln, rd, fp, (st + 1), mt, bg), rfl, (by simp only [seqN, seq1, seq2, seq3, seq4, finN, if_neg c_3, if_neg c_102, if_pos c_104, if_pos c_105, if_pos c_106, if_pos c_108, if_pos c_110, seqR_n, seqR_s, seqS_n, seqS_s, and_self]), by rw [ht]; exact hP9, va_K.moved hW.alike hK, hD9⟩, hS.F ht⟩) hS.2.2 dX1_sequence_214
              · refine lv_iconst (v := -1) hx hb dX1_sequence_201 (by decide) ?_
                have hP9 : va_P (dC, dI) vwCl (mw g0 g1 g2 cA (tb, n, kb, ln, rd, fp, st, mt, bg)) s.heap := hP
                have hD9 : va_D A (mw g0 g1 g2 cA (tb, n, kb, ln, rd, fp, st, mt, bg)) := hD
                exact W.iret (v := (-1)) hx hb hr (fun t ht hW => ⟨⟨(-1), (tb, n, kb, ln, rd, fp, st, mt, bg), rfl, (by simp only [seqN, seq1, seq2, seq3, seq4, finN, if_neg c_3, if_neg c_102, if_pos c_104, if_pos c_105, if_pos c_106, if_pos c_108, if_neg c_110, seqR_n, seqR_s, seqS_n, seqS_s, and_self]), by rw [ht]; exact hP9, va_K.moved hW.alike hK, hD9⟩, hS.F ht⟩) hS.2.2 dX1_sequence_202
          · exact absurd c_106 (by decide)
      · have c_104 : ¬ st + 1 ≤ ln := fun zz => c_104 ((nI_leI (a := st + 1) (b := ln) (by omega) (by omega)).mpr zz)
        refine lv_iconst (v := -1) hx hb dX1_sequence_84 (by decide) ?_
        have hP9 : va_P (dC, dI) vwCl (mw g0 g1 g2 cA (tb, n, kb, ln, rd, fp, st, mt, bg)) s.heap := hP
        have hD9 : va_D A (mw g0 g1 g2 cA (tb, n, kb, ln, rd, fp, st, mt, bg)) := hD
        exact W.iret (v := (-1)) hx hb hr (fun t ht hW => ⟨⟨(-1), (tb, n, kb, ln, rd, fp, st, mt, bg), rfl, (by simp only [seqN, seq1, seq2, seq3, seq4, finN, if_neg c_3, if_neg c_102, if_neg c_104, seqR_n, seqR_s, seqS_n, seqS_s, and_self]), by rw [ht]; exact hP9, va_K.moved hW.alike hK, hD9⟩, hS.F ht⟩) hS.2.2 dX1_sequence_85
end
section
theorem s0N_le (kb : Nat → Nat) (ln st : Nat) : s0N kb ln st ≤ st + 3 := by
  unfold s0N
  by_cases c1 : st = 0
  · rw [if_pos c1]
    by_cases c2 : ln ≤ 2
    · rw [if_pos c2]; omega
    · rw [if_neg c2]
      by_cases c3 : kb 0 = 239
      · rw [if_pos c3]
        by_cases c4 : kb 1 = 187
        · rw [if_pos c4]
          by_cases c5 : kb 2 = 191
          · rw [if_pos c5]; omega
          · rw [if_neg c5]; omega
        · rw [if_neg c4]; omega
      · rw [if_neg c3]; omega
  · rw [if_neg c1]; omega
set_option maxHeartbeats 4000000 in
set_option maxRecDepth 100000 in
theorem c_X1_next_end (l : Launch) (dC : Nat → ClassId) (dI : Nat → Nat → Nat) (g0 g1 g2 : Nat) (cA : ClassId) (sz : Nat) (tb : Nat → Nat) (n : Nat) (kb : Nat → Nat) (ln : Nat) (rd : Bool) (fp : Int32) (st : Nat) (mt bg : Int32) (hkb : ∀ j, kb j < 256) (hln : ln ≤ 1000) (hst : st ≤ 1000) (hend : ln ≤ s0N kb ln st) : Met l yX1_next wsX1_next ({ frames := 2, cells := 0, slots := 0, locals := 46 }) (va_Pc [.ref g0] (fun U => mmut dC dI g0 g1 g2 cA sz (tb, n, kb, ln, rd, fp, st, mt, bg) U)) (va_Qi (fun (r : Int32) (u : MS) => r = 0 ∧ u = (tb, n, kb, ln, rd, fp, s0N kb ln st, mt, bg)) (matt dC dI g0 g1 g2 cA (va_A (mw g0 g1 g2 cA (tb, n, kb, ln, rd, fp, st, mt, bg)) sz)) (va_A (mw g0 g1 g2 cA (tb, n, kb, ln, rd, fp, st, mt, bg)) sz)) 0 0 (va_A (mw g0 g1 g2 cA (tb, n, kb, ln, rd, fp, st, mt, bg)) sz) := by
  refine Met.ofW (cc := cX1_next) (maxL := 1) (ret := (some .boolean)) (by decide) rfl ?_
  intro p e s m args below meth c s₁ B hml hv
  obtain ⟨rfl, hsz, hP, hK, hD0⟩ := hv
  have hx := B.exec
  have hb := B.bytes
  have hr := B.returns
  have hts := atoms_spec (ws := wsX1_next) B.pre
  have hown : s.vm.findClass RX1 = some m.cls := findClass_of_methodNamed B.named
  subst hsz
  have hD := hD0.self (sz := s.heap.size)
  generalize hAe : va_A (mw g0 g1 g2 cA (tb, n, kb, ln, rd, fp, st, mt, bg)) s.heap.size = A at hD ⊢
  have hA : ∀ q : Nat, s.heap.size ≤ q → A q := fun q h => by rw [← hAe]; exact Or.inr h
  have hS : va_S A s.heap s.heap [] := va_S.rf
  have hP : va_P (dC, dI) vwCl [(g0, .inr (1, [.ref g1, .int (nI n), .ref g2, .int (nI ln), .int (bI rd), .int fp, .int (nI st), .int mt, .int bg])), (g1, .inl (cA, 1000, .inl (fun j => nI (tb j)))), (g2, .inl (cA, 1000, .inl (fun j => nI (kb j))))] s.heap := hP
  have hD : va_D A [(g0, .inr (1, [.ref g1, .int (nI n), .ref g2, .int (nI ln), .int (bI rd), .int fp, .int (nI st), .int mt, .int bg])), (g1, .inl (cA, 1000, .inl (fun j => nI (tb j)))), (g2, .inl (cA, 1000, .inl (fun j => nI (kb j))))] := hD
  have hIn : ∀ w ∈ wsX10, w ∈ wsX1_next := by decide +kernel
  have hl := lv_entry ([.ref g0]) (n := 1) (Nat.le_of_ble_eq_true rfl)
  rw [lg_entry_eq]
  generalize (lg_sl ([.ref g0]) ++ List.replicate (1 - (lg_sl ([.ref g0])).length) Slot.unset).toArray = ls at hl ⊢
  have hl : lv_has ls 1 [(0, .ref g0)] := hl
  have hs3 : s0N kb ln st ≤ st + 3 := s0N_le kb ln st
  have j56 : ∀ (H : Heap) (locs : List Loc) (ls : Array Slot), va_P (dC, dI) vwCl [(g0, .inr (1, [.ref g1, .int (nI n), .ref g2, .int (nI ln), .int (bI rd), .int fp, .int (nI (s0N kb ln st)), .int mt, .int bg])), (g1, .inl (cA, 1000, .inl (fun j => nI (tb j)))), (g2, .inl (cA, 1000, .inl (fun j => nI (kb j))))] H → va_D A [(g0, .inr (1, [.ref g1, .int (nI n), .ref g2, .int (nI ln), .int (bI rd), .int fp, .int (nI (s0N kb ln st)), .int mt, .int bg])), (g1, .inl (cA, 1000, .inl (fun j => nI (tb j)))), (g2, .inl (cA, 1000, .inl (fun j => nI (kb j))))] → va_S A s.heap H locs → lv_has ls 1 [(0, .ref g0)] → W p l e (headSpec wsX1_next ({ frames := 2, cells := 0, slots := 0, locals := 46 })).room s m ([.ref g0] : List Value).toArray below meth c H locs 0 0 (MQ below (va_Qi (fun (r : Int32) (u : MS) => r = 0 ∧ u = (tb, n, kb, ln, rd, fp, s0N kb ln st, mt, bg)) (matt dC dI g0 g1 g2 cA A) A) ([.ref g0] : List Value).toArray s 0 0 A) (F0 m 56 ls []) := by
    intro H locs ls hP hD hS hl
    refine lv_aload_n hx hb dX1_next_56 rfl (lv_at hl 0 rfl) ?_
    refine va_get (D := (dC, dI)) (ci := 1) (v := .int (nI (s0N kb ln st))) (C := RX1) (T := TX1) (N := 9) hx hb hts hIn hown hK hP 0 rfl rfl 6 (by decide) (hts (.fieldLink RX1 41 RX1 "stand" "I") (by decide +kernel)) (fun _ h9 => h9) rfl dX1_next_57 ?_
    refine lv_aload_n hx hb dX1_next_60 rfl (lv_at hl 0 rfl) ?_
    refine va_get (D := (dC, dI)) (ci := 1) (v := .int (nI ln)) (C := RX1) (T := TX1) (N := 9) hx hb hts hIn hown hK hP 0 rfl rfl 3 (by decide) (hts (.fieldLink RX1 44 RX1 "length" "I") (by decide +kernel)) (fun _ h9 => h9) rfl dX1_next_61 ?_
    refine lv_icmp_lt (tgt := 69) hx hb dX1_next_64 (by decide) (fun c_1 => ?_) (fun c_1 => ?_)
    · exact absurd ((nI_ltI (a := s0N kb ln st) (b := ln) (by omega) (by omega)).mp c_1) (by omega)
    · have c_1 : ¬ s0N kb ln st < ln := fun zz => c_1 ((nI_ltI (a := s0N kb ln st) (b := ln) (by omega) (by omega)).mpr zz)
      refine lv_iconst (v := 0) hx hb dX1_next_67 (by decide) ?_
      have hP9 : va_P (dC, dI) vwCl (mw g0 g1 g2 cA (tb, n, kb, ln, rd, fp, (s0N kb ln st), mt, bg)) H := hP
      have hD9 : va_D A (mw g0 g1 g2 cA (tb, n, kb, ln, rd, fp, (s0N kb ln st), mt, bg)) := hD
      exact W.zret (v := 0) (ty := .boolean) hx hb hr (rfl) (fun t ht hW => ⟨⟨0, (tb, n, kb, ln, rd, fp, (s0N kb ln st), mt, bg), rfl, ⟨rfl, rfl⟩, by rw [ht]; exact hP9, va_K.moved hW.alike hK, hD9⟩, hS.F ht⟩) hS.2.2 dX1_next_68
  refine lv_aload_n hx hb dX1_next_0 rfl (lv_at hl 0 rfl) ?_
  refine va_get (D := (dC, dI)) (ci := 1) (v := .int (nI st)) (C := RX1) (T := TX1) (N := 9) hx hb hts hIn hown hK hP 0 rfl rfl 6 (by decide) (hts (.fieldLink RX1 41 RX1 "stand" "I") (by decide +kernel)) (fun _ h9 => h9) rfl dX1_next_1 ?_
  refine lv_if_ne (tgt := 56) hx hb dX1_next_4 (by decide) (fun c_2 => ?_) (fun c_2 => ?_)
  · have c_2 : ¬ st = 0 := fun zz => c_2 ((nI_eq (a := st) (b := 0) (by omega) (by omega)).mpr zz)
    have e9 : s0N kb ln st = st := by simp only [s0N, if_neg c_2]
    exact j56 s.heap [] ls (by rw [e9]; exact hP) (by rw [e9]; exact hD) hS hl
  · have c_2 : st = 0 := (nI_eq (a := st) (b := 0) (by omega) (by omega)).mp c_2
    refine lv_aload_n hx hb dX1_next_7 rfl (lv_at hl 0 rfl) ?_
    refine va_get (D := (dC, dI)) (ci := 1) (v := .int (nI ln)) (C := RX1) (T := TX1) (N := 9) hx hb hts hIn hown hK hP 0 rfl rfl 3 (by decide) (hts (.fieldLink RX1 44 RX1 "length" "I") (by decide +kernel)) (fun _ h9 => h9) rfl dX1_next_8 ?_
    refine lv_iconst (v := 2) hx hb dX1_next_11 (by decide) ?_
    refine lv_icmp_le (tgt := 56) hx hb dX1_next_12 (by decide) (fun c_3 => ?_) (fun c_3 => ?_)
    · have c_3 : ln ≤ 2 := (nI_leI (a := ln) (b := 2) (by omega) (by omega)).mp c_3
      have e9 : s0N kb ln st = st := by simp only [s0N, if_pos c_2, if_pos c_3]
      exact j56 s.heap [] ls (by rw [e9]; exact hP) (by rw [e9]; exact hD) hS hl
    · have c_3 : ¬ ln ≤ 2 := fun zz => c_3 ((nI_leI (a := ln) (b := 2) (by omega) (by omega)).mpr zz)
      refine lv_aload_n hx hb dX1_next_15 rfl (lv_at hl 0 rfl) ?_
      refine va_get (D := (dC, dI)) (ci := 1) (v := .ref g2) (C := RX1) (T := TX1) (N := 9) hx hb hts hIn hown hK hP 0 rfl rfl 2 (by decide) (hts (.fieldLink RX1 13 RX1 "kept" "[I") (by decide +kernel)) (fun _ h9 => h9) rfl dX1_next_16 ?_
      refine lv_iconst (v := 0) hx hb dX1_next_19 (by decide) ?_
      refine va_iald hx hb hK hP 2 0 rfl rfl (vp_in_nI (n := 0) (by omega) (by omega)) dX1_next_20 ?_
      refine lv_topi (fun x_4 ex_4 => ?_)
      obtain rfl : x_4 = nI (kb 0) := ex_4.trans (congrArg (fun j => nI (kb j)) ((by decide)))
      have hb_5 := hkb 0
      refine lv_sipush (v := 239) hx hb dX1_next_21 (by decide) ?_
      refine lv_icmp_ne (tgt := 56) hx hb dX1_next_24 (by decide) (fun c_6 => ?_) (fun c_6 => ?_)
      · have c_6 : ¬ kb 0 = 239 := fun zz => c_6 ((nI_eq (a := kb 0) (b := 239) (by omega) (by omega)).mpr zz)
        have e9 : s0N kb ln st = st := by simp only [s0N, if_pos c_2, if_neg c_3, if_neg c_6]
        exact j56 s.heap [] ls (by rw [e9]; exact hP) (by rw [e9]; exact hD) hS hl
      · have c_6 : kb 0 = 239 := (nI_eq (a := kb 0) (b := 239) (by omega) (by omega)).mp c_6
        refine lv_aload_n hx hb dX1_next_27 rfl (lv_at hl 0 rfl) ?_
        refine va_get (D := (dC, dI)) (ci := 1) (v := .ref g2) (C := RX1) (T := TX1) (N := 9) hx hb hts hIn hown hK hP 0 rfl rfl 2 (by decide) (hts (.fieldLink RX1 13 RX1 "kept" "[I") (by decide +kernel)) (fun _ h9 => h9) rfl dX1_next_28 ?_
        refine lv_iconst (v := 1) hx hb dX1_next_31 (by decide) ?_
        refine va_iald hx hb hK hP 2 0 rfl rfl (vp_in_nI (n := 1) (by omega) (by omega)) dX1_next_32 ?_
        refine lv_topi (fun x_7 ex_7 => ?_)
        obtain rfl : x_7 = nI (kb 1) := ex_7.trans (congrArg (fun j => nI (kb j)) ((by decide)))
        have hb_8 := hkb 1
        refine lv_sipush (v := 187) hx hb dX1_next_33 (by decide) ?_
        refine lv_icmp_ne (tgt := 56) hx hb dX1_next_36 (by decide) (fun c_9 => ?_) (fun c_9 => ?_)
        · have c_9 : ¬ kb 1 = 187 := fun zz => c_9 ((nI_eq (a := kb 1) (b := 187) (by omega) (by omega)).mpr zz)
          have e9 : s0N kb ln st = st := by simp only [s0N, if_pos c_2, if_neg c_3, if_pos c_6, if_neg c_9]
          exact j56 s.heap [] ls (by rw [e9]; exact hP) (by rw [e9]; exact hD) hS hl
        · have c_9 : kb 1 = 187 := (nI_eq (a := kb 1) (b := 187) (by omega) (by omega)).mp c_9
          refine lv_aload_n hx hb dX1_next_39 rfl (lv_at hl 0 rfl) ?_
          refine va_get (D := (dC, dI)) (ci := 1) (v := .ref g2) (C := RX1) (T := TX1) (N := 9) hx hb hts hIn hown hK hP 0 rfl rfl 2 (by decide) (hts (.fieldLink RX1 13 RX1 "kept" "[I") (by decide +kernel)) (fun _ h9 => h9) rfl dX1_next_40 ?_
          refine lv_iconst (v := 2) hx hb dX1_next_43 (by decide) ?_
          refine va_iald hx hb hK hP 2 0 rfl rfl (vp_in_nI (n := 2) (by omega) (by omega)) dX1_next_44 ?_
          refine lv_topi (fun x_10 ex_10 => ?_)
          obtain rfl : x_10 = nI (kb 2) := ex_10.trans (congrArg (fun j => nI (kb j)) ((by decide)))
          have hb_11 := hkb 2
          refine lv_sipush (v := 191) hx hb dX1_next_45 (by decide) ?_
          refine lv_icmp_ne (tgt := 56) hx hb dX1_next_48 (by decide) (fun c_12 => ?_) (fun c_12 => ?_)
          · have c_12 : ¬ kb 2 = 191 := fun zz => c_12 ((nI_eq (a := kb 2) (b := 191) (by omega) (by omega)).mpr zz)
            have e9 : s0N kb ln st = st := by simp only [s0N, if_pos c_2, if_neg c_3, if_pos c_6, if_pos c_9, if_neg c_12]
            exact j56 s.heap [] ls (by rw [e9]; exact hP) (by rw [e9]; exact hD) hS hl
          · have c_12 : kb 2 = 191 := (nI_eq (a := kb 2) (b := 191) (by omega) (by omega)).mp c_12
            refine lv_aload_n hx hb dX1_next_51 rfl (lv_at hl 0 rfl) ?_
            refine lv_iconst (v := 3) hx hb dX1_next_52 (by decide) ?_
            refine va_put (D := (dC, dI)) (ci := 1) (v := .int 3) (ty := .int) (C := RX1) (T := TX1) (N := 9) hx hb hts hIn tyX1 tyX1_ok nmX1 hown hK hP hD hS 0 rfl rfl 6 (by decide) (hts (.fieldLink RX1 41 RX1 "stand" "I") (by decide +kernel)) (fun _ h9 => h9) rfl (by decide +kernel) rfl rfl (Nat.le_of_ble_eq_true rfl) dX1_next_53 (fun H locs hP hD hS => ?_)
            have hP : va_P (dC, dI) vwCl [(g0, .inr (1, [.ref g1, .int (nI n), .ref g2, .int (nI ln), .int (bI rd), .int fp, .int 3, .int mt, .int bg])), (g1, .inl (cA, 1000, .inl (fun j => nI (tb j)))), (g2, .inl (cA, 1000, .inl (fun j => nI (kb j))))] H := hP
            have hD : va_D A [(g0, .inr (1, [.ref g1, .int (nI n), .ref g2, .int (nI ln), .int (bI rd), .int fp, .int 3, .int mt, .int bg])), (g1, .inl (cA, 1000, .inl (fun j => nI (tb j)))), (g2, .inl (cA, 1000, .inl (fun j => nI (kb j))))] := hD
            have e9 : s0N kb ln st = 3 := by simp only [s0N, if_pos c_2, if_neg c_3, if_pos c_6, if_pos c_9, if_pos c_12]
            exact j56 H locs ls (by rw [e9]; exact hP) (by rw [e9]; exact hD) hS hl
set_option maxHeartbeats 4000000 in
set_option maxRecDepth 100000 in
theorem c_X1_next_some (l : Launch) (dC : Nat → ClassId) (dI : Nat → Nat → Nat) (g0 g1 g2 : Nat) (cA : ClassId) (sz : Nat) (tb : Nat → Nat) (n : Nat) (kb : Nat → Nat) (ln : Nat) (rd : Bool) (fp : Int32) (st : Nat) (mt bg : Int32) (hkb : ∀ j, kb j < 256) (hln : ln ≤ 1000) (hst : st ≤ 1000) (v wd : Nat) (hgo : ¬ ln ≤ s0N kb ln st) (hs : seqN kb ln (s0N kb ln st) = some (v, wd)) : Met l yX1_next wsX1_next ({ frames := 2, cells := 0, slots := 0, locals := 46 }) (va_Pc [.ref g0] (fun U => mmut dC dI g0 g1 g2 cA sz (tb, n, kb, ln, rd, fp, st, mt, bg) U)) (va_Qi (fun (r : Int32) (u : MS) => r = 1 ∧ u = (tb, n, kb, ln, rd, fp, nxS kb ln (s0N kb ln st + wd) v, nI (nxM v), nI (s0N kb ln st))) (matt dC dI g0 g1 g2 cA (va_A (mw g0 g1 g2 cA (tb, n, kb, ln, rd, fp, st, mt, bg)) sz)) (va_A (mw g0 g1 g2 cA (tb, n, kb, ln, rd, fp, st, mt, bg)) sz)) 0 0 (va_A (mw g0 g1 g2 cA (tb, n, kb, ln, rd, fp, st, mt, bg)) sz) := by
  refine Met.ofW (cc := cX1_next) (maxL := 1) (ret := (some .boolean)) (by decide) rfl ?_
  intro p e s m args below meth c s₁ B hml hv
  obtain ⟨rfl, hsz, hP, hK, hD0⟩ := hv
  have hx := B.exec
  have hb := B.bytes
  have hr := B.returns
  have hts := atoms_spec (ws := wsX1_next) B.pre
  have hown : s.vm.findClass RX1 = some m.cls := findClass_of_methodNamed B.named
  subst hsz
  have hD := hD0.self (sz := s.heap.size)
  generalize hAe : va_A (mw g0 g1 g2 cA (tb, n, kb, ln, rd, fp, st, mt, bg)) s.heap.size = A at hD ⊢
  have hA : ∀ q : Nat, s.heap.size ≤ q → A q := fun q h => by rw [← hAe]; exact Or.inr h
  have hS : va_S A s.heap s.heap [] := va_S.rf
  have hP : va_P (dC, dI) vwCl [(g0, .inr (1, [.ref g1, .int (nI n), .ref g2, .int (nI ln), .int (bI rd), .int fp, .int (nI st), .int mt, .int bg])), (g1, .inl (cA, 1000, .inl (fun j => nI (tb j)))), (g2, .inl (cA, 1000, .inl (fun j => nI (kb j))))] s.heap := hP
  have hD : va_D A [(g0, .inr (1, [.ref g1, .int (nI n), .ref g2, .int (nI ln), .int (bI rd), .int fp, .int (nI st), .int mt, .int bg])), (g1, .inl (cA, 1000, .inl (fun j => nI (tb j)))), (g2, .inl (cA, 1000, .inl (fun j => nI (kb j))))] := hD
  have hIn : ∀ w ∈ wsX10, w ∈ wsX1_next := by decide +kernel
  have hl := lv_entry ([.ref g0]) (n := 1) (Nat.le_of_ble_eq_true rfl)
  rw [lg_entry_eq]
  generalize (lg_sl ([.ref g0]) ++ List.replicate (1 - (lg_sl ([.ref g0])).length) Slot.unset).toArray = ls at hl ⊢
  have hl : lv_has ls 1 [(0, .ref g0)] := hl
  have hs3 : s0N kb ln st ≤ st + 3 := s0N_le kb ln st
  have j56 : ∀ (H : Heap) (locs : List Loc) (ls : Array Slot), va_P (dC, dI) vwCl [(g0, .inr (1, [.ref g1, .int (nI n), .ref g2, .int (nI ln), .int (bI rd), .int fp, .int (nI (s0N kb ln st)), .int mt, .int bg])), (g1, .inl (cA, 1000, .inl (fun j => nI (tb j)))), (g2, .inl (cA, 1000, .inl (fun j => nI (kb j))))] H → va_D A [(g0, .inr (1, [.ref g1, .int (nI n), .ref g2, .int (nI ln), .int (bI rd), .int fp, .int (nI (s0N kb ln st)), .int mt, .int bg])), (g1, .inl (cA, 1000, .inl (fun j => nI (tb j)))), (g2, .inl (cA, 1000, .inl (fun j => nI (kb j))))] → va_S A s.heap H locs → lv_has ls 1 [(0, .ref g0)] → W p l e (headSpec wsX1_next ({ frames := 2, cells := 0, slots := 0, locals := 46 })).room s m ([.ref g0] : List Value).toArray below meth c H locs 0 0 (MQ below (va_Qi (fun (r : Int32) (u : MS) => r = 1 ∧ u = (tb, n, kb, ln, rd, fp, nxS kb ln (s0N kb ln st + wd) v, nI (nxM v), nI (s0N kb ln st))) (matt dC dI g0 g1 g2 cA A) A) ([.ref g0] : List Value).toArray s 0 0 A) (F0 m 56 ls []) := by
    intro H locs ls hP hD hS hl
    obtain ⟨hv1, hw1, hw4, hsw⟩ := seqN_lt hkb hs
    refine lv_aload_n hx hb dX1_next_56 rfl (lv_at hl 0 rfl) ?_
    refine va_get (D := (dC, dI)) (ci := 1) (v := .int (nI (s0N kb ln st))) (C := RX1) (T := TX1) (N := 9) hx hb hts hIn hown hK hP 0 rfl rfl 6 (by decide) (hts (.fieldLink RX1 41 RX1 "stand" "I") (by decide +kernel)) (fun _ h9 => h9) rfl dX1_next_57 ?_
    refine lv_aload_n hx hb dX1_next_60 rfl (lv_at hl 0 rfl) ?_
    refine va_get (D := (dC, dI)) (ci := 1) (v := .int (nI ln)) (C := RX1) (T := TX1) (N := 9) hx hb hts hIn hown hK hP 0 rfl rfl 3 (by decide) (hts (.fieldLink RX1 44 RX1 "length" "I") (by decide +kernel)) (fun _ h9 => h9) rfl dX1_next_61 ?_
    refine lv_icmp_lt (tgt := 69) hx hb dX1_next_64 (by decide) (fun c_1 => ?_) (fun c_1 => ?_)
    · have c_1 : s0N kb ln st < ln := (nI_ltI (a := s0N kb ln st) (b := ln) (by omega) (by omega)).mp c_1
      refine lv_aload_n hx hb dX1_next_69 rfl (lv_at hl 0 rfl) ?_
      refine lv_aload_n hx hb dX1_next_70 rfl (lv_at hl 0 rfl) ?_
      refine va_get (D := (dC, dI)) (ci := 1) (v := .int (nI (s0N kb ln st))) (C := RX1) (T := TX1) (N := 9) hx hb hts hIn hown hK hP 0 rfl rfl 6 (by decide) (hts (.fieldLink RX1 41 RX1 "stand" "I") (by decide +kernel)) (fun _ h9 => h9) rfl dX1_next_71 ?_
      refine va_put (D := (dC, dI)) (ci := 1) (v := .int (nI (s0N kb ln st))) (ty := .int) (C := RX1) (T := TX1) (N := 9) hx hb hts hIn tyX1 tyX1_ok nmX1 hown hK hP hD hS 0 rfl rfl 8 (by decide) (hts (.fieldLink RX1 50 RX1 "began" "I") (by decide +kernel)) (fun _ h9 => h9) rfl (by decide +kernel) rfl rfl (Nat.le_of_ble_eq_true rfl) dX1_next_74 (fun H locs hP hD hS => ?_)
      have hP : va_P (dC, dI) vwCl [(g0, .inr (1, [.ref g1, .int (nI n), .ref g2, .int (nI ln), .int (bI rd), .int fp, .int (nI (s0N kb ln st)), .int mt, .int (nI (s0N kb ln st))])), (g1, .inl (cA, 1000, .inl (fun j => nI (tb j)))), (g2, .inl (cA, 1000, .inl (fun j => nI (kb j))))] H := hP
      have hD : va_D A [(g0, .inr (1, [.ref g1, .int (nI n), .ref g2, .int (nI ln), .int (bI rd), .int fp, .int (nI (s0N kb ln st)), .int mt, .int (nI (s0N kb ln st))])), (g1, .inl (cA, 1000, .inl (fun j => nI (tb j)))), (g2, .inl (cA, 1000, .inl (fun j => nI (kb j))))] := hD
      refine lv_aload_n hx hb dX1_next_77 rfl (lv_at hl 0 rfl) ?_
      refine lv_aload_n hx hb dX1_next_78 rfl (lv_at hl 0 rfl) ?_
      have hFc := va_free (wc := mw g0 g1 g2 cA (tb, n, kb, ln, rd, fp, (s0N kb ln st), mt, (nI (s0N kb ln st)))) hD hS hA [0, 1, 2] rfl
      refine va_calli (va_runV (As := []) (rest := [.ref g0]) ⟨hx, hb, hml, hown, hts⟩ (c_X1_sequence l dC dI g0 g1 g2 cA H.size tb n kb ln rd fp (s0N kb ln st) mt (nI (s0N kb ln st)) hkb (by omega) hln) (cwV 0 hts gX1_next_X1_sequence rfl rfl rfl (by decide +kernel) ⟨Nat.le_of_ble_eq_true rfl, Nat.le_of_ble_eq_true rfl⟩) ⟨mmut_blind, va_recv hK hP (ci := 1) (q0 := 0) rfl rfl, fun U hU hW => ⟨rfl, mmut_of hP hK hD hU hW⟩⟩ rfl rfl hl.1 rfl (lv_room (Nat.le_of_ble_eq_true rfl)) dX1_next_79 ⟨Nat.le_of_ble_eq_true rfl, Nat.le_of_ble_eq_true rfl⟩) hS (fun q _ h => hFc q h) hFc (fun r_2 u_2 t_2 H1 locs ht hvm hw hB hz1 hk1 hS => ?_)
      obtain ⟨hw0, hw1⟩ := hw
      rw [hs] at hw0 hw1
      obtain rfl : r_2 = nI v := hw0
      obtain rfl : u_2 = (tb, n, kb, ln, rd, fp, ((s0N kb ln st) + wd), mt, (nI (s0N kb ln st))) := hw1
      obtain ⟨hP1, hK1, hD1⟩ := hB
      rw [ht] at hP1
      obtain ⟨hP, hD⟩ := va_join (wr := []) (w1 := mw g0 g1 g2 cA (tb, n, kb, ln, rd, fp, ((s0N kb ln st) + wd), mt, (nI (s0N kb ln st)))) hP hD [0, 1, 2] [] rfl rfl (by decide) (by decide) hk1 hFc hP1 hD1
      generalize H1 = H at hP hS ⊢
      have hP : va_P (dC, dI) vwCl [(g0, .inr (1, [.ref g1, .int (nI n), .ref g2, .int (nI ln), .int (bI rd), .int fp, .int (nI ((s0N kb ln st) + wd)), .int mt, .int (nI (s0N kb ln st))])), (g1, .inl (cA, 1000, .inl (fun j => nI (tb j)))), (g2, .inl (cA, 1000, .inl (fun j => nI (kb j))))] H := hP
      have hD : va_D A [(g0, .inr (1, [.ref g1, .int (nI n), .ref g2, .int (nI ln), .int (bI rd), .int fp, .int (nI ((s0N kb ln st) + wd)), .int mt, .int (nI (s0N kb ln st))])), (g1, .inl (cA, 1000, .inl (fun j => nI (tb j)))), (g2, .inl (cA, 1000, .inl (fun j => nI (kb j))))] := hD
      refine va_put (D := (dC, dI)) (ci := 1) (v := .int (nI v)) (ty := .int) (C := RX1) (T := TX1) (N := 9) hx hb hts hIn tyX1 tyX1_ok nmX1 hown hK hP hD hS 0 rfl rfl 7 (by decide) (hts (.fieldLink RX1 57 RX1 "met" "I") (by decide +kernel)) (fun _ h9 => h9) rfl (by decide +kernel) rfl rfl (Nat.le_of_ble_eq_true rfl) dX1_next_82 (fun H locs hP hD hS => ?_)
      have hP : va_P (dC, dI) vwCl [(g0, .inr (1, [.ref g1, .int (nI n), .ref g2, .int (nI ln), .int (bI rd), .int fp, .int (nI ((s0N kb ln st) + wd)), .int (nI v), .int (nI (s0N kb ln st))])), (g1, .inl (cA, 1000, .inl (fun j => nI (tb j)))), (g2, .inl (cA, 1000, .inl (fun j => nI (kb j))))] H := hP
      have hD : va_D A [(g0, .inr (1, [.ref g1, .int (nI n), .ref g2, .int (nI ln), .int (bI rd), .int fp, .int (nI ((s0N kb ln st) + wd)), .int (nI v), .int (nI (s0N kb ln st))])), (g1, .inl (cA, 1000, .inl (fun j => nI (tb j)))), (g2, .inl (cA, 1000, .inl (fun j => nI (kb j))))] := hD
      refine lv_aload_n hx hb dX1_next_85 rfl (lv_at hl 0 rfl) ?_
      refine va_get (D := (dC, dI)) (ci := 1) (v := .int (nI v)) (C := RX1) (T := TX1) (N := 9) hx hb hts hIn hown hK hP 0 rfl rfl 7 (by decide) (hts (.fieldLink RX1 57 RX1 "met" "I") (by decide +kernel)) (fun _ h9 => h9) rfl dX1_next_86 ?_
      refine lv_bipush (v := 13) hx hb dX1_next_89 (by decide) ?_
      refine lv_icmp_ne (tgt := 142) hx hb dX1_next_91 (by decide) (fun c_3 => ?_) (fun c_3 => ?_)
      · have c_3 : ¬ v = 13 := fun zz => c_3 ((nI_eq (a := v) (b := 13) (by omega) (by omega)).mpr zz)
        refine lv_iconst (v := 1) hx hb dX1_next_142 (by decide) ?_
        have hP9 : va_P (dC, dI) vwCl (mw g0 g1 g2 cA (tb, n, kb, ln, rd, fp, ((s0N kb ln st) + wd), (nI v), (nI (s0N kb ln st)))) H := hP
        have hD9 : va_D A (mw g0 g1 g2 cA (tb, n, kb, ln, rd, fp, ((s0N kb ln st) + wd), (nI v), (nI (s0N kb ln st)))) := hD
        exact W.zret (v := 1) (ty := .boolean) hx hb hr (rfl) (fun t ht hW => ⟨⟨1, (tb, n, kb, ln, rd, fp, ((s0N kb ln st) + wd), (nI v), (nI (s0N kb ln st))), rfl, (by refine ⟨rfl, ?_⟩; first | (simp only [nxM, nxS, if_neg c_3]; done) | (simp only [nxM, nxS, if_neg c_3]; rfl)), by rw [ht]; exact hP9, va_K.moved hW.alike hK, hD9⟩, hS.F ht⟩) hS.2.2 dX1_next_143
      · have c_3 : v = 13 := (nI_eq (a := v) (b := 13) (by omega) (by omega)).mp c_3
        refine lv_aload_n hx hb dX1_next_94 rfl (lv_at hl 0 rfl) ?_
        refine lv_bipush (v := 10) hx hb dX1_next_95 (by decide) ?_
        refine va_put (D := (dC, dI)) (ci := 1) (v := .int 10) (ty := .int) (C := RX1) (T := TX1) (N := 9) hx hb hts hIn tyX1 tyX1_ok nmX1 hown hK hP hD hS 0 rfl rfl 7 (by decide) (hts (.fieldLink RX1 57 RX1 "met" "I") (by decide +kernel)) (fun _ h9 => h9) rfl (by decide +kernel) rfl rfl (Nat.le_of_ble_eq_true rfl) dX1_next_97 (fun H locs hP hD hS => ?_)
        have hP : va_P (dC, dI) vwCl [(g0, .inr (1, [.ref g1, .int (nI n), .ref g2, .int (nI ln), .int (bI rd), .int fp, .int (nI ((s0N kb ln st) + wd)), .int 10, .int (nI (s0N kb ln st))])), (g1, .inl (cA, 1000, .inl (fun j => nI (tb j)))), (g2, .inl (cA, 1000, .inl (fun j => nI (kb j))))] H := hP
        have hD : va_D A [(g0, .inr (1, [.ref g1, .int (nI n), .ref g2, .int (nI ln), .int (bI rd), .int fp, .int (nI ((s0N kb ln st) + wd)), .int 10, .int (nI (s0N kb ln st))])), (g1, .inl (cA, 1000, .inl (fun j => nI (tb j)))), (g2, .inl (cA, 1000, .inl (fun j => nI (kb j))))] := hD
        refine lv_aload_n hx hb dX1_next_100 rfl (lv_at hl 0 rfl) ?_
        refine lv_aload_n hx hb dX1_next_101 rfl (lv_at hl 0 rfl) ?_
        refine va_get (D := (dC, dI)) (ci := 1) (v := .int (nI ((s0N kb ln st) + wd))) (C := RX1) (T := TX1) (N := 9) hx hb hts hIn hown hK hP 0 rfl rfl 6 (by decide) (hts (.fieldLink RX1 41 RX1 "stand" "I") (by decide +kernel)) (fun _ h9 => h9) rfl dX1_next_102 ?_
        refine lv_aload_n hx hb dX1_next_105 rfl (lv_at hl 0 rfl) ?_
        refine va_get (D := (dC, dI)) (ci := 1) (v := .int (nI ln)) (C := RX1) (T := TX1) (N := 9) hx hb hts hIn hown hK hP 0 rfl rfl 3 (by decide) (hts (.fieldLink RX1 44 RX1 "length" "I") (by decide +kernel)) (fun _ h9 => h9) rfl dX1_next_106 ?_
        refine lv_icmp_ge (tgt := 135) hx hb dX1_next_109 (by decide) (fun c_4 => ?_) (fun c_4 => ?_)
        · have c_4 : ln ≤ (s0N kb ln st) + wd := (nI_leI (a := ln) (b := (s0N kb ln st) + wd) (by omega) (by omega)).mp c_4
          refine lv_aload_n hx hb dX1_next_135 rfl (lv_at hl 0 rfl) ?_
          refine va_get (D := (dC, dI)) (ci := 1) (v := .int (nI ((s0N kb ln st) + wd))) (C := RX1) (T := TX1) (N := 9) hx hb hts hIn hown hK hP 0 rfl rfl 6 (by decide) (hts (.fieldLink RX1 41 RX1 "stand" "I") (by decide +kernel)) (fun _ h9 => h9) rfl dX1_next_136 ?_
          refine va_put (D := (dC, dI)) (ci := 1) (v := .int (nI ((s0N kb ln st) + wd))) (ty := .int) (C := RX1) (T := TX1) (N := 9) hx hb hts hIn tyX1 tyX1_ok nmX1 hown hK hP hD hS 0 rfl rfl 6 (by decide) (hts (.fieldLink RX1 41 RX1 "stand" "I") (by decide +kernel)) (fun _ h9 => h9) rfl (by decide +kernel) rfl rfl (Nat.le_of_ble_eq_true rfl) dX1_next_139 (fun H locs hP hD hS => ?_)
          have hP : va_P (dC, dI) vwCl [(g0, .inr (1, [.ref g1, .int (nI n), .ref g2, .int (nI ln), .int (bI rd), .int fp, .int (nI ((s0N kb ln st) + wd)), .int 10, .int (nI (s0N kb ln st))])), (g1, .inl (cA, 1000, .inl (fun j => nI (tb j)))), (g2, .inl (cA, 1000, .inl (fun j => nI (kb j))))] H := hP
          have hD : va_D A [(g0, .inr (1, [.ref g1, .int (nI n), .ref g2, .int (nI ln), .int (bI rd), .int fp, .int (nI ((s0N kb ln st) + wd)), .int 10, .int (nI (s0N kb ln st))])), (g1, .inl (cA, 1000, .inl (fun j => nI (tb j)))), (g2, .inl (cA, 1000, .inl (fun j => nI (kb j))))] := hD
          refine lv_iconst (v := 1) hx hb dX1_next_142 (by decide) ?_
          have hP9 : va_P (dC, dI) vwCl (mw g0 g1 g2 cA (tb, n, kb, ln, rd, fp, ((s0N kb ln st) + wd), 10, (nI (s0N kb ln st)))) H := hP
          have hD9 : va_D A (mw g0 g1 g2 cA (tb, n, kb, ln, rd, fp, ((s0N kb ln st) + wd), 10, (nI (s0N kb ln st)))) := hD
          exact W.zret (v := 1) (ty := .boolean) hx hb hr (rfl) (fun t ht hW => ⟨⟨1, (tb, n, kb, ln, rd, fp, ((s0N kb ln st) + wd), 10, (nI (s0N kb ln st))), rfl, (by refine ⟨rfl, ?_⟩; first | (simp only [nxM, nxS, if_pos c_3, if_pos c_4]; done) | (simp only [nxM, nxS, if_pos c_3, if_pos c_4]; rfl)), by rw [ht]; exact hP9, va_K.moved hW.alike hK, hD9⟩, hS.F ht⟩) hS.2.2 dX1_next_143
        · have c_4 : ¬ ln ≤ (s0N kb ln st) + wd := fun zz => c_4 ((nI_leI (a := ln) (b := (s0N kb ln st) + wd) (by omega) (by omega)).mpr zz)
          refine lv_aload_n hx hb dX1_next_112 rfl (lv_at hl 0 rfl) ?_
          refine va_get (D := (dC, dI)) (ci := 1) (v := .ref g2) (C := RX1) (T := TX1) (N := 9) hx hb hts hIn hown hK hP 0 rfl rfl 2 (by decide) (hts (.fieldLink RX1 13 RX1 "kept" "[I") (by decide +kernel)) (fun _ h9 => h9) rfl dX1_next_113 ?_
          refine lv_aload_n hx hb dX1_next_116 rfl (lv_at hl 0 rfl) ?_
          refine va_get (D := (dC, dI)) (ci := 1) (v := .int (nI ((s0N kb ln st) + wd))) (C := RX1) (T := TX1) (N := 9) hx hb hts hIn hown hK hP 0 rfl rfl 6 (by decide) (hts (.fieldLink RX1 41 RX1 "stand" "I") (by decide +kernel)) (fun _ h9 => h9) rfl dX1_next_117 ?_
          refine va_iald hx hb hK hP 2 0 rfl rfl (vp_in_nI (n := (s0N kb ln st) + wd) (by omega) (by omega)) dX1_next_120 ?_
          refine lv_topi (fun x_5 ex_5 => ?_)
          obtain rfl : x_5 = nI (kb ((s0N kb ln st) + wd)) := ex_5.trans (congrArg (fun j => nI (kb j)) ((nI_clamp (by omega))))
          have hb_6 := hkb ((s0N kb ln st) + wd)
          refine lv_bipush (v := 10) hx hb dX1_next_121 (by decide) ?_
          refine lv_icmp_ne (tgt := 135) hx hb dX1_next_123 (by decide) (fun c_7 => ?_) (fun c_7 => ?_)
          · have c_7 : ¬ kb ((s0N kb ln st) + wd) = 10 := fun zz => c_7 ((nI_eq (a := kb ((s0N kb ln st) + wd)) (b := 10) (by omega) (by omega)).mpr zz)
            refine lv_aload_n hx hb dX1_next_135 rfl (lv_at hl 0 rfl) ?_
            refine va_get (D := (dC, dI)) (ci := 1) (v := .int (nI ((s0N kb ln st) + wd))) (C := RX1) (T := TX1) (N := 9) hx hb hts hIn hown hK hP 0 rfl rfl 6 (by decide) (hts (.fieldLink RX1 41 RX1 "stand" "I") (by decide +kernel)) (fun _ h9 => h9) rfl dX1_next_136 ?_
            refine va_put (D := (dC, dI)) (ci := 1) (v := .int (nI ((s0N kb ln st) + wd))) (ty := .int) (C := RX1) (T := TX1) (N := 9) hx hb hts hIn tyX1 tyX1_ok nmX1 hown hK hP hD hS 0 rfl rfl 6 (by decide) (hts (.fieldLink RX1 41 RX1 "stand" "I") (by decide +kernel)) (fun _ h9 => h9) rfl (by decide +kernel) rfl rfl (Nat.le_of_ble_eq_true rfl) dX1_next_139 (fun H locs hP hD hS => ?_)
            have hP : va_P (dC, dI) vwCl [(g0, .inr (1, [.ref g1, .int (nI n), .ref g2, .int (nI ln), .int (bI rd), .int fp, .int (nI ((s0N kb ln st) + wd)), .int 10, .int (nI (s0N kb ln st))])), (g1, .inl (cA, 1000, .inl (fun j => nI (tb j)))), (g2, .inl (cA, 1000, .inl (fun j => nI (kb j))))] H := hP
            have hD : va_D A [(g0, .inr (1, [.ref g1, .int (nI n), .ref g2, .int (nI ln), .int (bI rd), .int fp, .int (nI ((s0N kb ln st) + wd)), .int 10, .int (nI (s0N kb ln st))])), (g1, .inl (cA, 1000, .inl (fun j => nI (tb j)))), (g2, .inl (cA, 1000, .inl (fun j => nI (kb j))))] := hD
            refine lv_iconst (v := 1) hx hb dX1_next_142 (by decide) ?_
            have hP9 : va_P (dC, dI) vwCl (mw g0 g1 g2 cA (tb, n, kb, ln, rd, fp, ((s0N kb ln st) + wd), 10, (nI (s0N kb ln st)))) H := hP
            have hD9 : va_D A (mw g0 g1 g2 cA (tb, n, kb, ln, rd, fp, ((s0N kb ln st) + wd), 10, (nI (s0N kb ln st)))) := hD
            exact W.zret (v := 1) (ty := .boolean) hx hb hr (rfl) (fun t ht hW => ⟨⟨1, (tb, n, kb, ln, rd, fp, ((s0N kb ln st) + wd), 10, (nI (s0N kb ln st))), rfl, (by refine ⟨rfl, ?_⟩; first | (simp only [nxM, nxS, if_pos c_3, if_neg c_4, if_neg c_7]; done) | (simp only [nxM, nxS, if_pos c_3, if_neg c_4, if_neg c_7]; rfl)), by rw [ht]; exact hP9, va_K.moved hW.alike hK, hD9⟩, hS.F ht⟩) hS.2.2 dX1_next_143
          · have c_7 : kb ((s0N kb ln st) + wd) = 10 := (nI_eq (a := kb ((s0N kb ln st) + wd)) (b := 10) (by omega) (by omega)).mp c_7
            refine lv_aload_n hx hb dX1_next_126 rfl (lv_at hl 0 rfl) ?_
            refine va_get (D := (dC, dI)) (ci := 1) (v := .int (nI ((s0N kb ln st) + wd))) (C := RX1) (T := TX1) (N := 9) hx hb hts hIn hown hK hP 0 rfl rfl 6 (by decide) (hts (.fieldLink RX1 41 RX1 "stand" "I") (by decide +kernel)) (fun _ h9 => h9) rfl dX1_next_127 ?_
            refine lv_iconst (v := 1) hx hb dX1_next_130 (by decide) ?_
            refine lv_iadd hx hb dX1_next_131 ?_
            refine lv_topi (fun x_8 ex_8 => ?_)
            obtain rfl : x_8 = nI ((s0N kb ln st) + wd + 1) := ex_8.trans (nI_add ((s0N kb ln st) + wd) 1)
            refine lv_goto (tgt := 139) hx hb dX1_next_132 (by decide) ?_
            refine va_put (D := (dC, dI)) (ci := 1) (v := .int (nI ((s0N kb ln st) + wd + 1))) (ty := .int) (C := RX1) (T := TX1) (N := 9) hx hb hts hIn tyX1 tyX1_ok nmX1 hown hK hP hD hS 0 rfl rfl 6 (by decide) (hts (.fieldLink RX1 41 RX1 "stand" "I") (by decide +kernel)) (fun _ h9 => h9) rfl (by decide +kernel) rfl rfl (Nat.le_of_ble_eq_true rfl) dX1_next_139 (fun H locs hP hD hS => ?_)
            have hP : va_P (dC, dI) vwCl [(g0, .inr (1, [.ref g1, .int (nI n), .ref g2, .int (nI ln), .int (bI rd), .int fp, .int (nI ((s0N kb ln st) + wd + 1)), .int 10, .int (nI (s0N kb ln st))])), (g1, .inl (cA, 1000, .inl (fun j => nI (tb j)))), (g2, .inl (cA, 1000, .inl (fun j => nI (kb j))))] H := hP
            have hD : va_D A [(g0, .inr (1, [.ref g1, .int (nI n), .ref g2, .int (nI ln), .int (bI rd), .int fp, .int (nI ((s0N kb ln st) + wd + 1)), .int 10, .int (nI (s0N kb ln st))])), (g1, .inl (cA, 1000, .inl (fun j => nI (tb j)))), (g2, .inl (cA, 1000, .inl (fun j => nI (kb j))))] := hD
            refine lv_iconst (v := 1) hx hb dX1_next_142 (by decide) ?_
            have hP9 : va_P (dC, dI) vwCl (mw g0 g1 g2 cA (tb, n, kb, ln, rd, fp, ((s0N kb ln st) + wd + 1), 10, (nI (s0N kb ln st)))) H := hP
            have hD9 : va_D A (mw g0 g1 g2 cA (tb, n, kb, ln, rd, fp, ((s0N kb ln st) + wd + 1), 10, (nI (s0N kb ln st)))) := hD
            exact W.zret (v := 1) (ty := .boolean) hx hb hr (rfl) (fun t ht hW => ⟨⟨1, (tb, n, kb, ln, rd, fp, ((s0N kb ln st) + wd + 1), 10, (nI (s0N kb ln st))), rfl, (by refine ⟨rfl, ?_⟩; first | (simp only [nxM, nxS, if_pos c_3, if_neg c_4, if_pos c_7]; done) | (simp only [nxM, nxS, if_pos c_3, if_neg c_4, if_pos c_7]; rfl)), by rw [ht]; exact hP9, va_K.moved hW.alike hK, hD9⟩, hS.F ht⟩) hS.2.2 dX1_next_143
    · exact absurd ((nI_ltI (a := s0N kb ln st) (b := ln) (by omega) (by omega)).mpr (by omega)) c_1
  refine lv_aload_n hx hb dX1_next_0 rfl (lv_at hl 0 rfl) ?_
  refine va_get (D := (dC, dI)) (ci := 1) (v := .int (nI st)) (C := RX1) (T := TX1) (N := 9) hx hb hts hIn hown hK hP 0 rfl rfl 6 (by decide) (hts (.fieldLink RX1 41 RX1 "stand" "I") (by decide +kernel)) (fun _ h9 => h9) rfl dX1_next_1 ?_
  refine lv_if_ne (tgt := 56) hx hb dX1_next_4 (by decide) (fun c_9 => ?_) (fun c_9 => ?_)
  · have c_9 : ¬ st = 0 := fun zz => c_9 ((nI_eq (a := st) (b := 0) (by omega) (by omega)).mpr zz)
    have e9 : s0N kb ln st = st := by simp only [s0N, if_neg c_9]
    exact j56 s.heap [] ls (by rw [e9]; exact hP) (by rw [e9]; exact hD) hS hl
  · have c_9 : st = 0 := (nI_eq (a := st) (b := 0) (by omega) (by omega)).mp c_9
    refine lv_aload_n hx hb dX1_next_7 rfl (lv_at hl 0 rfl) ?_
    refine va_get (D := (dC, dI)) (ci := 1) (v := .int (nI ln)) (C := RX1) (T := TX1) (N := 9) hx hb hts hIn hown hK hP 0 rfl rfl 3 (by decide) (hts (.fieldLink RX1 44 RX1 "length" "I") (by decide +kernel)) (fun _ h9 => h9) rfl dX1_next_8 ?_
    refine lv_iconst (v := 2) hx hb dX1_next_11 (by decide) ?_
    refine lv_icmp_le (tgt := 56) hx hb dX1_next_12 (by decide) (fun c_10 => ?_) (fun c_10 => ?_)
    · have c_10 : ln ≤ 2 := (nI_leI (a := ln) (b := 2) (by omega) (by omega)).mp c_10
      have e9 : s0N kb ln st = st := by simp only [s0N, if_pos c_9, if_pos c_10]
      exact j56 s.heap [] ls (by rw [e9]; exact hP) (by rw [e9]; exact hD) hS hl
    · have c_10 : ¬ ln ≤ 2 := fun zz => c_10 ((nI_leI (a := ln) (b := 2) (by omega) (by omega)).mpr zz)
      refine lv_aload_n hx hb dX1_next_15 rfl (lv_at hl 0 rfl) ?_
      refine va_get (D := (dC, dI)) (ci := 1) (v := .ref g2) (C := RX1) (T := TX1) (N := 9) hx hb hts hIn hown hK hP 0 rfl rfl 2 (by decide) (hts (.fieldLink RX1 13 RX1 "kept" "[I") (by decide +kernel)) (fun _ h9 => h9) rfl dX1_next_16 ?_
      refine lv_iconst (v := 0) hx hb dX1_next_19 (by decide) ?_
      refine va_iald hx hb hK hP 2 0 rfl rfl (vp_in_nI (n := 0) (by omega) (by omega)) dX1_next_20 ?_
      refine lv_topi (fun x_11 ex_11 => ?_)
      obtain rfl : x_11 = nI (kb 0) := ex_11.trans (congrArg (fun j => nI (kb j)) ((by decide)))
      have hb_12 := hkb 0
      refine lv_sipush (v := 239) hx hb dX1_next_21 (by decide) ?_
      refine lv_icmp_ne (tgt := 56) hx hb dX1_next_24 (by decide) (fun c_13 => ?_) (fun c_13 => ?_)
      · have c_13 : ¬ kb 0 = 239 := fun zz => c_13 ((nI_eq (a := kb 0) (b := 239) (by omega) (by omega)).mpr zz)
        have e9 : s0N kb ln st = st := by simp only [s0N, if_pos c_9, if_neg c_10, if_neg c_13]
        exact j56 s.heap [] ls (by rw [e9]; exact hP) (by rw [e9]; exact hD) hS hl
      · have c_13 : kb 0 = 239 := (nI_eq (a := kb 0) (b := 239) (by omega) (by omega)).mp c_13
        refine lv_aload_n hx hb dX1_next_27 rfl (lv_at hl 0 rfl) ?_
        refine va_get (D := (dC, dI)) (ci := 1) (v := .ref g2) (C := RX1) (T := TX1) (N := 9) hx hb hts hIn hown hK hP 0 rfl rfl 2 (by decide) (hts (.fieldLink RX1 13 RX1 "kept" "[I") (by decide +kernel)) (fun _ h9 => h9) rfl dX1_next_28 ?_
        refine lv_iconst (v := 1) hx hb dX1_next_31 (by decide) ?_
        refine va_iald hx hb hK hP 2 0 rfl rfl (vp_in_nI (n := 1) (by omega) (by omega)) dX1_next_32 ?_
        refine lv_topi (fun x_14 ex_14 => ?_)
        obtain rfl : x_14 = nI (kb 1) := ex_14.trans (congrArg (fun j => nI (kb j)) ((by decide)))
        have hb_15 := hkb 1
        refine lv_sipush (v := 187) hx hb dX1_next_33 (by decide) ?_
        refine lv_icmp_ne (tgt := 56) hx hb dX1_next_36 (by decide) (fun c_16 => ?_) (fun c_16 => ?_)
        · have c_16 : ¬ kb 1 = 187 := fun zz => c_16 ((nI_eq (a := kb 1) (b := 187) (by omega) (by omega)).mpr zz)
          have e9 : s0N kb ln st = st := by simp only [s0N, if_pos c_9, if_neg c_10, if_pos c_13, if_neg c_16]
          exact j56 s.heap [] ls (by rw [e9]; exact hP) (by rw [e9]; exact hD) hS hl
        · have c_16 : kb 1 = 187 := (nI_eq (a := kb 1) (b := 187) (by omega) (by omega)).mp c_16
          refine lv_aload_n hx hb dX1_next_39 rfl (lv_at hl 0 rfl) ?_
          refine va_get (D := (dC, dI)) (ci := 1) (v := .ref g2) (C := RX1) (T := TX1) (N := 9) hx hb hts hIn hown hK hP 0 rfl rfl 2 (by decide) (hts (.fieldLink RX1 13 RX1 "kept" "[I") (by decide +kernel)) (fun _ h9 => h9) rfl dX1_next_40 ?_
          refine lv_iconst (v := 2) hx hb dX1_next_43 (by decide) ?_
          refine va_iald hx hb hK hP 2 0 rfl rfl (vp_in_nI (n := 2) (by omega) (by omega)) dX1_next_44 ?_
          refine lv_topi (fun x_17 ex_17 => ?_)
          obtain rfl : x_17 = nI (kb 2) := ex_17.trans (congrArg (fun j => nI (kb j)) ((by decide)))
          have hb_18 := hkb 2
          refine lv_sipush (v := 191) hx hb dX1_next_45 (by decide) ?_
          refine lv_icmp_ne (tgt := 56) hx hb dX1_next_48 (by decide) (fun c_19 => ?_) (fun c_19 => ?_)
          · have c_19 : ¬ kb 2 = 191 := fun zz => c_19 ((nI_eq (a := kb 2) (b := 191) (by omega) (by omega)).mpr zz)
            have e9 : s0N kb ln st = st := by simp only [s0N, if_pos c_9, if_neg c_10, if_pos c_13, if_pos c_16, if_neg c_19]
            exact j56 s.heap [] ls (by rw [e9]; exact hP) (by rw [e9]; exact hD) hS hl
          · have c_19 : kb 2 = 191 := (nI_eq (a := kb 2) (b := 191) (by omega) (by omega)).mp c_19
            refine lv_aload_n hx hb dX1_next_51 rfl (lv_at hl 0 rfl) ?_
            refine lv_iconst (v := 3) hx hb dX1_next_52 (by decide) ?_
            refine va_put (D := (dC, dI)) (ci := 1) (v := .int 3) (ty := .int) (C := RX1) (T := TX1) (N := 9) hx hb hts hIn tyX1 tyX1_ok nmX1 hown hK hP hD hS 0 rfl rfl 6 (by decide) (hts (.fieldLink RX1 41 RX1 "stand" "I") (by decide +kernel)) (fun _ h9 => h9) rfl (by decide +kernel) rfl rfl (Nat.le_of_ble_eq_true rfl) dX1_next_53 (fun H locs hP hD hS => ?_)
            have hP : va_P (dC, dI) vwCl [(g0, .inr (1, [.ref g1, .int (nI n), .ref g2, .int (nI ln), .int (bI rd), .int fp, .int 3, .int mt, .int bg])), (g1, .inl (cA, 1000, .inl (fun j => nI (tb j)))), (g2, .inl (cA, 1000, .inl (fun j => nI (kb j))))] H := hP
            have hD : va_D A [(g0, .inr (1, [.ref g1, .int (nI n), .ref g2, .int (nI ln), .int (bI rd), .int fp, .int 3, .int mt, .int bg])), (g1, .inl (cA, 1000, .inl (fun j => nI (tb j)))), (g2, .inl (cA, 1000, .inl (fun j => nI (kb j))))] := hD
            have e9 : s0N kb ln st = 3 := by simp only [s0N, if_pos c_9, if_neg c_10, if_pos c_13, if_pos c_16, if_pos c_19]
            exact j56 H locs ls (by rw [e9]; exact hP) (by rw [e9]; exact hD) hS hl
end
section
def cpN (kb tb : Nat → Nat) (i : Nat) : Nat → Nat := fun j => if j < i then tb j else kb j
theorem cpN_0 (kb tb : Nat → Nat) : cpN kb tb 0 = kb := by funext j; rw [cpN, if_neg (by omega)]
theorem cpN_s {kb tb : Nat → Nat} {i : Nat} : updN (cpN kb tb i) i (tb i) = cpN kb tb (i + 1) := by
  funext j
  by_cases h : j = i
  · rw [updN, if_pos h, cpN, if_pos (by omega), h]
  · rw [updN, if_neg h, cpN, cpN]
    by_cases h2 : j < i
    · rw [if_pos h2, if_pos (by omega)]
    · rw [if_neg h2, if_neg (by omega)]
theorem cpN_lt {kb tb : Nat → Nat} (htb : ∀ j, tb j < 256) (hkb : ∀ j, kb j < 256) (i : Nat) : ∀ j, cpN kb tb i j < 256 := by
  intro j
  rw [cpN]
  by_cases h : j < i
  · rw [if_pos h]; exact htb j
  · rw [if_neg h]; exact hkb j
def pass1 (kb : Nat → Nat) (ln : Nat) : Nat → Nat → Option (Int32 × Nat)
  | 0, _ => none
  | d + 1, st => if ln ≤ st then none else match seqN kb ln st with
    | none => some (-2, st)
    | some q => if mAll (nI q.1) then pass1 kb ln d (st + q.2) else some (-3, st)
theorem pass1_end {kb : Nat → Nat} {ln d st : Nat} (h : ln ≤ st) : pass1 kb ln d st = none := by
  cases d with
  | zero => rfl
  | succ d => rw [pass1, if_pos h]
theorem nxS_le (kb : Nat → Nat) (ln st v : Nat) (h : st ≤ ln) : nxS kb ln st v ≤ ln := by
  unfold nxS
  by_cases c1 : v = 13
  · rw [if_pos c1]
    by_cases c2 : ln ≤ st
    · rw [if_pos c2]; exact h
    · rw [if_neg c2]
      by_cases c3 : kb st = 10
      · rw [if_pos c3]; omega
      · rw [if_neg c3]; exact h
  · rw [if_neg c1]; exact h
theorem chain_sg {kb : Nat → Nat} {ln k : Nat} {mf bf sg : Nat → Nat} (hkb : ∀ j, kb j < 256) (h : Chain kb ln k mf bf sg) : ∀ j, j ≤ k → sg j ≤ ln := by
  intro j hj
  cases j with
  | zero => rw [h.1]; exact Nat.zero_le _
  | succ j =>
    obtain ⟨hgo, v, w, hs, -, -, hsg⟩ := h.2.1 j (by omega)
    have hl := seqN_lt hkb hs
    rw [hsg]
    exact nxS_le _ _ _ _ (by omega)
set_option maxHeartbeats 4000000 in
set_option maxRecDepth 100000 in
theorem c_X1_read_bad (l : Launch) (dC : Nat → ClassId) (dI : Nat → Nat → Nat) (g0 g1 g2 : Nat) (cA : ClassId) (sz : Nat) (tb : Nat → Nat) (n : Nat) (kb : Nat → Nat) (ln : Nat) (rd : Bool) (fp : Int32) (st : Nat) (mt bg : Int32) (htb : ∀ j, tb j < 256) (hkb : ∀ j, kb j < 256) (hln : n ≤ 1000) (cd : Int32) (pla : Nat) (hp : pass1 (cpN kb tb n) n n 0 = some (cd, pla)) : Met l yX1_read wsX1_read ({ frames := 3, cells := 0, slots := 0, locals := 66 }) (va_Pc [.ref g0] (fun U => mmut dC dI g0 g1 g2 cA sz (tb, n, kb, ln, rd, fp, st, mt, bg) U)) (va_Qi (fun (r : Int32) (u : MS) => r = cd ∧ ∃ (st' : Nat), u = (tb, 0, cpN kb tb n, n, false, nI pla, st', mt, bg)) (matt dC dI g0 g1 g2 cA (va_A (mw g0 g1 g2 cA (tb, n, kb, ln, rd, fp, st, mt, bg)) sz)) (va_A (mw g0 g1 g2 cA (tb, n, kb, ln, rd, fp, st, mt, bg)) sz)) 0 0 (va_A (mw g0 g1 g2 cA (tb, n, kb, ln, rd, fp, st, mt, bg)) sz) := by
  refine Met.ofW (cc := cX1_read) (maxL := 2) (ret := (some .int)) (by decide) rfl ?_
  intro p e s m args below meth c s₁ B hml hv
  obtain ⟨rfl, hsz, hP, hK, hD0⟩ := hv
  have hx := B.exec
  have hb := B.bytes
  have hr := B.returns
  have hts := atoms_spec (ws := wsX1_read) B.pre
  have hown : s.vm.findClass RX1 = some m.cls := findClass_of_methodNamed B.named
  subst hsz
  have hD := hD0.self (sz := s.heap.size)
  generalize hAe : va_A (mw g0 g1 g2 cA (tb, n, kb, ln, rd, fp, st, mt, bg)) s.heap.size = A at hD ⊢
  have hA : ∀ q : Nat, s.heap.size ≤ q → A q := fun q h => by rw [← hAe]; exact Or.inr h
  have hS : va_S A s.heap s.heap [] := va_S.rf
  have hP : va_P (dC, dI) vwCl [(g0, .inr (1, [.ref g1, .int (nI n), .ref g2, .int (nI ln), .int (bI rd), .int fp, .int (nI st), .int mt, .int bg])), (g1, .inl (cA, 1000, .inl (fun j => nI (tb j)))), (g2, .inl (cA, 1000, .inl (fun j => nI (kb j))))] s.heap := hP
  have hD : va_D A [(g0, .inr (1, [.ref g1, .int (nI n), .ref g2, .int (nI ln), .int (bI rd), .int fp, .int (nI st), .int mt, .int bg])), (g1, .inl (cA, 1000, .inl (fun j => nI (tb j)))), (g2, .inl (cA, 1000, .inl (fun j => nI (kb j))))] := hD
  have hIn : ∀ w ∈ wsX10, w ∈ wsX1_read := by decide +kernel
  have hl := lv_entry ([.ref g0]) (n := 2) (Nat.le_of_ble_eq_true rfl)
  rw [lg_entry_eq]
  generalize (lg_sl ([.ref g0]) ++ List.replicate (2 - (lg_sl ([.ref g0])).length) Slot.unset).toArray = ls at hl ⊢
  have hl : lv_has ls 2 [(0, .ref g0)] := hl
  have hkc := cpN_lt htb hkb n
  have loop2 : ∀ (d st2 : Nat) (fp2 : Int32) (H : Heap) (locs : List Loc) (ls : Array Slot), n ≤ st2 + d → st2 ≤ n → pass1 (cpN kb tb n) n d st2 = some (cd, pla) → va_P (dC, dI) vwCl [(g0, .inr (1, [.ref g1, .int (nI 0), .ref g2, .int (nI n), .int (bI false), .int fp2, .int (nI st2), .int mt, .int bg])), (g1, .inl (cA, 1000, .inl (fun j => nI (tb j)))), (g2, .inl (cA, 1000, .inl (fun j => nI ((cpN kb tb n) j))))] H → va_D A [(g0, .inr (1, [.ref g1, .int (nI 0), .ref g2, .int (nI n), .int (bI false), .int fp2, .int (nI st2), .int mt, .int bg])), (g1, .inl (cA, 1000, .inl (fun j => nI (tb j)))), (g2, .inl (cA, 1000, .inl (fun j => nI ((cpN kb tb n) j))))] → va_S A s.heap H locs → lv_has ls 2 [(0, .ref g0)] → W p l e (headSpec wsX1_read ({ frames := 3, cells := 0, slots := 0, locals := 66 })).room s m ([.ref g0] : List Value).toArray below meth c H locs 0 0 (MQ below (va_Qi (fun (r : Int32) (u : MS) => r = cd ∧ ∃ (st' : Nat), u = (tb, 0, cpN kb tb n, n, false, nI pla, st', mt, bg)) (matt dC dI g0 g1 g2 cA A) A) ([.ref g0] : List Value).toArray s 0 0 A) (F0 m 51 ls []) := by
    intro d
    induction d with
    | zero =>
      intro st2 fp2 H locs ls hd hst2 hpp hP hD hS hl
      refine lv_aload_n hx hb dX1_read_51 rfl (lv_at hl 0 rfl) ?_
      refine va_get (D := (dC, dI)) (ci := 1) (v := .int (nI st2)) (C := RX1) (T := TX1) (N := 9) hx hb hts hIn hown hK hP 0 rfl rfl 6 (by decide) (hts (.fieldLink RX1 41 RX1 "stand" "I") (by decide +kernel)) (fun _ h9 => h9) rfl dX1_read_52 ?_
      refine lv_aload_n hx hb dX1_read_55 rfl (lv_at hl 0 rfl) ?_
      refine va_get (D := (dC, dI)) (ci := 1) (v := .int (nI n)) (C := RX1) (T := TX1) (N := 9) hx hb hts hIn hown hK hP 0 rfl rfl 3 (by decide) (hts (.fieldLink RX1 44 RX1 "length" "I") (by decide +kernel)) (fun _ h9 => h9) rfl dX1_read_56 ?_
      refine lv_icmp_ge (tgt := 95) hx hb dX1_read_59 (by decide) (fun c_1 => ?_) (fun c_1 => ?_)
      · have c_1 : n ≤ st2 := (nI_leI (a := n) (b := st2) (by omega) (by omega)).mp c_1
        exact absurd hpp (by rw [pass1_end (by omega)]; simp)
      · exact absurd (nI_le (by omega) (by omega)) c_1
    | succ d ih =>
      intro st2 fp2 H locs ls hd hst2 hpp hP hD hS hl
      refine lv_aload_n hx hb dX1_read_51 rfl (lv_at hl 0 rfl) ?_
      refine va_get (D := (dC, dI)) (ci := 1) (v := .int (nI st2)) (C := RX1) (T := TX1) (N := 9) hx hb hts hIn hown hK hP 0 rfl rfl 6 (by decide) (hts (.fieldLink RX1 41 RX1 "stand" "I") (by decide +kernel)) (fun _ h9 => h9) rfl dX1_read_52 ?_
      refine lv_aload_n hx hb dX1_read_55 rfl (lv_at hl 0 rfl) ?_
      refine va_get (D := (dC, dI)) (ci := 1) (v := .int (nI n)) (C := RX1) (T := TX1) (N := 9) hx hb hts hIn hown hK hP 0 rfl rfl 3 (by decide) (hts (.fieldLink RX1 44 RX1 "length" "I") (by decide +kernel)) (fun _ h9 => h9) rfl dX1_read_56 ?_
      refine lv_icmp_ge (tgt := 95) hx hb dX1_read_59 (by decide) (fun c_2 => ?_) (fun c_2 => ?_)
      · have c_2 : n ≤ st2 := (nI_leI (a := n) (b := st2) (by omega) (by omega)).mp c_2
        exact absurd hpp (by rw [pass1_end (by omega)]; simp)
      · have c_2 : ¬ n ≤ st2 := fun zz => c_2 ((nI_leI (a := n) (b := st2) (by omega) (by omega)).mpr zz)
        refine lv_aload_n hx hb dX1_read_62 rfl (lv_at hl 0 rfl) ?_
        refine lv_aload_n hx hb dX1_read_63 rfl (lv_at hl 0 rfl) ?_
        refine va_get (D := (dC, dI)) (ci := 1) (v := .int (nI st2)) (C := RX1) (T := TX1) (N := 9) hx hb hts hIn hown hK hP 0 rfl rfl 6 (by decide) (hts (.fieldLink RX1 41 RX1 "stand" "I") (by decide +kernel)) (fun _ h9 => h9) rfl dX1_read_64 ?_
        refine va_put (D := (dC, dI)) (ci := 1) (v := .int (nI st2)) (ty := .int) (C := RX1) (T := TX1) (N := 9) hx hb hts hIn tyX1 tyX1_ok nmX1 hown hK hP hD hS 0 rfl rfl 5 (by decide) (hts (.fieldLink RX1 16 RX1 "place" "I") (by decide +kernel)) (fun _ h9 => h9) rfl (by decide +kernel) rfl rfl (Nat.le_of_ble_eq_true rfl) dX1_read_67 (fun H locs hP hD hS => ?_)
        have hP : va_P (dC, dI) vwCl [(g0, .inr (1, [.ref g1, .int (nI 0), .ref g2, .int (nI n), .int (bI false), .int (nI st2), .int (nI st2), .int mt, .int bg])), (g1, .inl (cA, 1000, .inl (fun j => nI (tb j)))), (g2, .inl (cA, 1000, .inl (fun j => nI ((cpN kb tb n) j))))] H := hP
        have hD : va_D A [(g0, .inr (1, [.ref g1, .int (nI 0), .ref g2, .int (nI n), .int (bI false), .int (nI st2), .int (nI st2), .int mt, .int bg])), (g1, .inl (cA, 1000, .inl (fun j => nI (tb j)))), (g2, .inl (cA, 1000, .inl (fun j => nI ((cpN kb tb n) j))))] := hD
        have hlt2 : st2 < n := by omega
        cases hsq : seqN (cpN kb tb n) n st2 with
        | none =>
          refine lv_aload_n hx hb dX1_read_70 rfl (lv_at hl 0 rfl) ?_
          have hFc := va_free (wc := mw g0 g1 g2 cA (tb, 0, (cpN kb tb n), n, false, (nI st2), st2, mt, bg)) hD hS hA [0, 1, 2] rfl
          refine va_calli (va_runV (As := []) (rest := []) ⟨hx, hb, hml, hown, hts⟩ (c_X1_sequence l dC dI g0 g1 g2 cA H.size tb 0 (cpN kb tb n) n false (nI st2) st2 mt bg hkc (by omega) hln) (cwV 0 hts gX1_read_X1_sequence rfl rfl rfl (by decide +kernel) ⟨Nat.le_of_ble_eq_true rfl, Nat.le_of_ble_eq_true rfl⟩) ⟨mmut_blind, va_recv hK hP (ci := 1) (q0 := 0) rfl rfl, fun U hU hW => ⟨rfl, mmut_of hP hK hD hU hW⟩⟩ rfl rfl hl.1 rfl (lv_room (Nat.le_of_ble_eq_true rfl)) dX1_read_71 ⟨Nat.le_of_ble_eq_true rfl, Nat.le_of_ble_eq_true rfl⟩) hS (fun q _ h => hFc q h) hFc (fun r_3 u_3 t_3 H1 locs ht hvm hw hB hz1 hk1 hS => ?_)
          obtain ⟨hw0, hw1⟩ := hw
          rw [hsq] at hw0 hw1
          obtain rfl : r_3 = (-1) := hw0
          obtain rfl : u_3 = (tb, 0, (cpN kb tb n), n, false, (nI st2), st2, mt, bg) := hw1
          obtain ⟨hP1, hK1, hD1⟩ := hB
          rw [ht] at hP1
          obtain ⟨hP, hD⟩ := va_join (wr := []) (w1 := mw g0 g1 g2 cA (tb, 0, (cpN kb tb n), n, false, (nI st2), st2, mt, bg)) hP hD [0, 1, 2] [] rfl rfl (by decide) (by decide) hk1 hFc hP1 hD1
          generalize H1 = H at hP hS ⊢
          have hP : va_P (dC, dI) vwCl [(g0, .inr (1, [.ref g1, .int (nI 0), .ref g2, .int (nI n), .int (bI false), .int (nI st2), .int (nI st2), .int mt, .int bg])), (g1, .inl (cA, 1000, .inl (fun j => nI (tb j)))), (g2, .inl (cA, 1000, .inl (fun j => nI ((cpN kb tb n) j))))] H := hP
          have hD : va_D A [(g0, .inr (1, [.ref g1, .int (nI 0), .ref g2, .int (nI n), .int (bI false), .int (nI st2), .int (nI st2), .int mt, .int bg])), (g1, .inl (cA, 1000, .inl (fun j => nI (tb j)))), (g2, .inl (cA, 1000, .inl (fun j => nI ((cpN kb tb n) j))))] := hD
          refine lv_istore_n (lv' := [(1, .int (-1)), (0, .ref g0)]) hx hb dX1_read_74 rfl hl (by decide) rfl (fun ls hl => ?_)
          refine lv_iload_n hx hb dX1_read_75 rfl (lv_at hl 0 rfl) ?_
          refine lv_if_ge (tgt := 82) hx hb dX1_read_76 (by decide) (fun c_4 => ?_) (fun c_4 => ?_)
          · exact absurd c_4 (by decide)
          · refine lv_bipush (v := -2) hx hb dX1_read_79 (by decide) ?_
            have hP9 : va_P (dC, dI) vwCl (mw g0 g1 g2 cA (tb, 0, (cpN kb tb n), n, false, (nI st2), st2, mt, bg)) H := hP
            have hD9 : va_D A (mw g0 g1 g2 cA (tb, 0, (cpN kb tb n), n, false, (nI st2), st2, mt, bg)) := hD
            exact W.iret (v := (-2)) hx hb hr (fun t ht hW => ⟨⟨(-2), (tb, 0, (cpN kb tb n), n, false, (nI st2), st2, mt, bg), rfl, (by rw [pass1, if_neg (by omega), hsq] at hpp; have e9 := Prod.mk.inj (Option.some.inj hpp); exact ⟨e9.1, _, by rw [e9.2]⟩), by rw [ht]; exact hP9, va_K.moved hW.alike hK, hD9⟩, hS.F ht⟩) hS.2.2 dX1_read_81
        | some qq =>
          obtain ⟨v, wd⟩ := qq
          obtain ⟨hv1, hw1', hw4, hsw⟩ := seqN_lt hkc hsq
          refine lv_aload_n hx hb dX1_read_70 rfl (lv_at hl 0 rfl) ?_
          have hFc := va_free (wc := mw g0 g1 g2 cA (tb, 0, (cpN kb tb n), n, false, (nI st2), st2, mt, bg)) hD hS hA [0, 1, 2] rfl
          refine va_calli (va_runV (As := []) (rest := []) ⟨hx, hb, hml, hown, hts⟩ (c_X1_sequence l dC dI g0 g1 g2 cA H.size tb 0 (cpN kb tb n) n false (nI st2) st2 mt bg hkc (by omega) hln) (cwV 0 hts gX1_read_X1_sequence rfl rfl rfl (by decide +kernel) ⟨Nat.le_of_ble_eq_true rfl, Nat.le_of_ble_eq_true rfl⟩) ⟨mmut_blind, va_recv hK hP (ci := 1) (q0 := 0) rfl rfl, fun U hU hW => ⟨rfl, mmut_of hP hK hD hU hW⟩⟩ rfl rfl hl.1 rfl (lv_room (Nat.le_of_ble_eq_true rfl)) dX1_read_71 ⟨Nat.le_of_ble_eq_true rfl, Nat.le_of_ble_eq_true rfl⟩) hS (fun q _ h => hFc q h) hFc (fun r_5 u_5 t_5 H1 locs ht hvm hw hB hz1 hk1 hS => ?_)
          obtain ⟨hw0, hw1⟩ := hw
          rw [hsq] at hw0 hw1
          obtain rfl : r_5 = nI v := hw0
          obtain rfl : u_5 = (tb, 0, (cpN kb tb n), n, false, (nI st2), (st2 + wd), mt, bg) := hw1
          obtain ⟨hP1, hK1, hD1⟩ := hB
          rw [ht] at hP1
          obtain ⟨hP, hD⟩ := va_join (wr := []) (w1 := mw g0 g1 g2 cA (tb, 0, (cpN kb tb n), n, false, (nI st2), (st2 + wd), mt, bg)) hP hD [0, 1, 2] [] rfl rfl (by decide) (by decide) hk1 hFc hP1 hD1
          generalize H1 = H at hP hS ⊢
          have hP : va_P (dC, dI) vwCl [(g0, .inr (1, [.ref g1, .int (nI 0), .ref g2, .int (nI n), .int (bI false), .int (nI st2), .int (nI (st2 + wd)), .int mt, .int bg])), (g1, .inl (cA, 1000, .inl (fun j => nI (tb j)))), (g2, .inl (cA, 1000, .inl (fun j => nI ((cpN kb tb n) j))))] H := hP
          have hD : va_D A [(g0, .inr (1, [.ref g1, .int (nI 0), .ref g2, .int (nI n), .int (bI false), .int (nI st2), .int (nI (st2 + wd)), .int mt, .int bg])), (g1, .inl (cA, 1000, .inl (fun j => nI (tb j)))), (g2, .inl (cA, 1000, .inl (fun j => nI ((cpN kb tb n) j))))] := hD
          refine lv_istore_n (lv' := [(1, .int (nI v)), (0, .ref g0)]) hx hb dX1_read_74 rfl hl (by decide) rfl (fun ls hl => ?_)
          refine lv_iload_n hx hb dX1_read_75 rfl (lv_at hl 0 rfl) ?_
          refine lv_if_ge (tgt := 82) hx hb dX1_read_76 (by decide) (fun c_6 => ?_) (fun c_6 => ?_)
          · have c_6 : 0 ≤ v := (nI_leI (a := 0) (b := v) (by omega) (by omega)).mp c_6
            refine lv_iload_n hx hb dX1_read_82 rfl (lv_at hl 0 rfl) ?_
            refine vp_callSi (W.runS (As := [.int (nI v)]) (rest := []) ⟨hx, hb, hml, hown, hts⟩ (c_X1_isAllowed l (nI v)) (va_cwS 1 hts gX1_read_X1_isAllowed rfl rfl rfl (by decide +kernel) ⟨Nat.le_of_ble_eq_true rfl, Nat.le_of_ble_eq_true rfl⟩) ⟨fun _ _ _ _ q => q, fun U hU hW => ⟨rfl, trivial⟩⟩ rfl rfl hl.1 rfl (lv_room (Nat.le_of_ble_eq_true rfl)) dX1_read_83 ⟨Nat.le_of_ble_eq_true rfl, Nat.le_of_ble_eq_true rfl⟩) (fun r_7 er_7 => ?_)
            obtain rfl : r_7 = bI (mAll (nI v)) := er_7
            refine lv_if_ne (tgt := 92) hx hb dX1_read_86 (by decide) (fun c_8 => ?_) (fun c_8 => ?_)
            · have c_8 := bI_n0 c_8
              refine lv_goto (tgt := 51) hx hb dX1_read_92 (by decide) ?_
              have hp2 : pass1 (cpN kb tb n) n d (st2 + wd) = some (cd, pla) := by rw [← hpp, pass1, if_neg (by omega), hsq]; simp only [c_8, if_true]
              exact ih (st2 + wd) _ H locs ls (by omega) (by omega) hp2 hP hD hS (lv_sub hl [1] rfl)
            · have c_8 := bI_0 c_8
              refine lv_bipush (v := -3) hx hb dX1_read_89 (by decide) ?_
              have hP9 : va_P (dC, dI) vwCl (mw g0 g1 g2 cA (tb, 0, (cpN kb tb n), n, false, (nI st2), (st2 + wd), mt, bg)) H := hP
              have hD9 : va_D A (mw g0 g1 g2 cA (tb, 0, (cpN kb tb n), n, false, (nI st2), (st2 + wd), mt, bg)) := hD
              exact W.iret (v := (-3)) hx hb hr (fun t ht hW => ⟨⟨(-3), (tb, 0, (cpN kb tb n), n, false, (nI st2), (st2 + wd), mt, bg), rfl, (by rw [pass1, if_neg (by omega), hsq] at hpp; simp only [c_8] at hpp; have e9 := Prod.mk.inj (Option.some.inj hpp); exact ⟨e9.1, _, by rw [e9.2]⟩), by rw [ht]; exact hP9, va_K.moved hW.alike hK, hD9⟩, hS.F ht⟩) hS.2.2 dX1_read_91
          · exact absurd (nI_pos' (by omega)) c_6
  have loop1 : ∀ (d i : Nat) (H : Heap) (locs : List Loc) (ls : Array Slot), i + d = n → va_P (dC, dI) vwCl [(g0, .inr (1, [.ref g1, .int (nI 0), .ref g2, .int (nI n), .int (bI false), .int fp, .int (nI st), .int mt, .int bg])), (g1, .inl (cA, 1000, .inl (fun j => nI (tb j)))), (g2, .inl (cA, 1000, .inl (fun j => nI ((cpN kb tb i) j))))] H → va_D A [(g0, .inr (1, [.ref g1, .int (nI 0), .ref g2, .int (nI n), .int (bI false), .int fp, .int (nI st), .int mt, .int bg])), (g1, .inl (cA, 1000, .inl (fun j => nI (tb j)))), (g2, .inl (cA, 1000, .inl (fun j => nI ((cpN kb tb i) j))))] → va_S A s.heap H locs → lv_has ls 2 [(1, .int (nI i)), (0, .ref g0)] → W p l e (headSpec wsX1_read ({ frames := 3, cells := 0, slots := 0, locals := 66 })).room s m ([.ref g0] : List Value).toArray below meth c H locs 0 0 (MQ below (va_Qi (fun (r : Int32) (u : MS) => r = cd ∧ ∃ (st' : Nat), u = (tb, 0, cpN kb tb n, n, false, nI pla, st', mt, bg)) (matt dC dI g0 g1 g2 cA A) A) ([.ref g0] : List Value).toArray s 0 0 A) (F0 m 20 ls []) := by
    intro d
    induction d with
    | zero =>
      intro i H locs ls hid hP hD hS hl
      obtain rfl : i = n := by omega
      refine lv_iload_n hx hb dX1_read_20 rfl (lv_at hl 0 rfl) ?_
      refine lv_aload_n hx hb dX1_read_21 rfl (lv_at hl 1 rfl) ?_
      refine va_get (D := (dC, dI)) (ci := 1) (v := .int (nI i)) (C := RX1) (T := TX1) (N := 9) hx hb hts hIn hown hK hP 0 rfl rfl 3 (by decide) (hts (.fieldLink RX1 44 RX1 "length" "I") (by decide +kernel)) (fun _ h9 => h9) rfl dX1_read_22 ?_
      refine lv_icmp_ge (tgt := 46) hx hb dX1_read_25 (by decide) (fun c_9 => ?_) (fun c_9 => ?_)
      · have c_9 : i ≤ i := (nI_leI (a := i) (b := i) (by omega) (by omega)).mp c_9
        refine lv_aload_n hx hb dX1_read_46 rfl (lv_at hl 1 rfl) ?_
        refine lv_iconst (v := 0) hx hb dX1_read_47 (by decide) ?_
        refine va_put (D := (dC, dI)) (ci := 1) (v := .int 0) (ty := .int) (C := RX1) (T := TX1) (N := 9) hx hb hts hIn tyX1 tyX1_ok nmX1 hown hK hP hD hS 0 rfl rfl 6 (by decide) (hts (.fieldLink RX1 41 RX1 "stand" "I") (by decide +kernel)) (fun _ h9 => h9) rfl (by decide +kernel) rfl rfl (Nat.le_of_ble_eq_true rfl) dX1_read_48 (fun H locs hP hD hS => ?_)
        have hP : va_P (dC, dI) vwCl [(g0, .inr (1, [.ref g1, .int (nI 0), .ref g2, .int (nI i), .int (bI false), .int fp, .int 0, .int mt, .int bg])), (g1, .inl (cA, 1000, .inl (fun j => nI (tb j)))), (g2, .inl (cA, 1000, .inl (fun j => nI ((cpN kb tb i) j))))] H := hP
        have hD : va_D A [(g0, .inr (1, [.ref g1, .int (nI 0), .ref g2, .int (nI i), .int (bI false), .int fp, .int 0, .int mt, .int bg])), (g1, .inl (cA, 1000, .inl (fun j => nI (tb j)))), (g2, .inl (cA, 1000, .inl (fun j => nI ((cpN kb tb i) j))))] := hD
        exact loop2 i 0 fp H locs ls (by omega) (by omega) hp hP hD hS (lv_sub hl [1] rfl)
      · exact absurd (nI_le (by omega) (by omega)) c_9
    | succ d ih =>
      intro i H locs ls hid hP hD hS hl
      refine lv_iload_n hx hb dX1_read_20 rfl (lv_at hl 0 rfl) ?_
      refine lv_aload_n hx hb dX1_read_21 rfl (lv_at hl 1 rfl) ?_
      refine va_get (D := (dC, dI)) (ci := 1) (v := .int (nI n)) (C := RX1) (T := TX1) (N := 9) hx hb hts hIn hown hK hP 0 rfl rfl 3 (by decide) (hts (.fieldLink RX1 44 RX1 "length" "I") (by decide +kernel)) (fun _ h9 => h9) rfl dX1_read_22 ?_
      refine lv_icmp_ge (tgt := 46) hx hb dX1_read_25 (by decide) (fun c_10 => ?_) (fun c_10 => ?_)
      · exact absurd c_10 (nI_ge (by omega) (by omega))
      · have c_10 : ¬ n ≤ i := fun zz => c_10 ((nI_leI (a := n) (b := i) (by omega) (by omega)).mpr zz)
        refine lv_aload_n hx hb dX1_read_28 rfl (lv_at hl 1 rfl) ?_
        refine va_get (D := (dC, dI)) (ci := 1) (v := .ref g2) (C := RX1) (T := TX1) (N := 9) hx hb hts hIn hown hK hP 0 rfl rfl 2 (by decide) (hts (.fieldLink RX1 13 RX1 "kept" "[I") (by decide +kernel)) (fun _ h9 => h9) rfl dX1_read_29 ?_
        refine lv_iload_n hx hb dX1_read_32 rfl (lv_at hl 0 rfl) ?_
        refine lv_aload_n hx hb dX1_read_33 rfl (lv_at hl 1 rfl) ?_
        refine va_get (D := (dC, dI)) (ci := 1) (v := .ref g1) (C := RX1) (T := TX1) (N := 9) hx hb hts hIn hown hK hP 0 rfl rfl 0 (by decide) (hts (.fieldLink RX1 7 RX1 "text" "[I") (by decide +kernel)) (fun _ h9 => h9) rfl dX1_read_34 ?_
        refine lv_iload_n hx hb dX1_read_37 rfl (lv_at hl 0 rfl) ?_
        refine va_iald hx hb hK hP 1 0 rfl rfl (vp_in_nI (n := i) (by omega) (by omega)) dX1_read_38 ?_
        refine lv_topi (fun x_11 ex_11 => ?_)
        obtain rfl : x_11 = nI (tb i) := ex_11.trans (congrArg (fun j => nI (tb j)) ((nI_clamp (by omega))))
        refine va_iast hx hb hK hP hD hS 2 0 rfl rfl (vp_in_nI (by omega) (by omega)) dX1_read_39 (fun H locs hP hD hS => ?_)
        rw [nI_clamp (by omega), upd_nI] at hP hD
        have hP : va_P (dC, dI) vwCl [(g0, .inr (1, [.ref g1, .int (nI 0), .ref g2, .int (nI n), .int (bI false), .int fp, .int (nI st), .int mt, .int bg])), (g1, .inl (cA, 1000, .inl (fun j => nI (tb j)))), (g2, .inl (cA, 1000, .inl (fun j => nI ((updN (cpN kb tb i) i (tb i)) j))))] H := hP
        have hD : va_D A [(g0, .inr (1, [.ref g1, .int (nI 0), .ref g2, .int (nI n), .int (bI false), .int fp, .int (nI st), .int mt, .int bg])), (g1, .inl (cA, 1000, .inl (fun j => nI (tb j)))), (g2, .inl (cA, 1000, .inl (fun j => nI ((updN (cpN kb tb i) i (tb i)) j))))] := hD
        refine lv_iinc (v := nI (i + 1)) (lv' := [(1, .int (nI (i + 1))), (0, .ref g0)]) hx hb dX1_read_40 hl (k := 0) rfl (nI_1 i) (by decide) rfl (fun ls hl => ?_)
        refine lv_goto (tgt := 20) hx hb dX1_read_43 (by decide) ?_
        rw [cpN_s] at hP hD
        exact ih (i + 1) H locs ls (by omega) hP hD hS (lv_sub hl [0, 1] rfl)
  refine lv_aload_n hx hb dX1_read_0 rfl (lv_at hl 0 rfl) ?_
  refine lv_aload_n hx hb dX1_read_1 rfl (lv_at hl 0 rfl) ?_
  refine va_get (D := (dC, dI)) (ci := 1) (v := .int (nI n)) (C := RX1) (T := TX1) (N := 9) hx hb hts hIn hown hK hP 0 rfl rfl 1 (by decide) (hts (.fieldLink RX1 20 RX1 "size" "I") (by decide +kernel)) (fun _ h9 => h9) rfl dX1_read_2 ?_
  refine va_put (D := (dC, dI)) (ci := 1) (v := .int (nI n)) (ty := .int) (C := RX1) (T := TX1) (N := 9) hx hb hts hIn tyX1 tyX1_ok nmX1 hown hK hP hD hS 0 rfl rfl 3 (by decide) (hts (.fieldLink RX1 44 RX1 "length" "I") (by decide +kernel)) (fun _ h9 => h9) rfl (by decide +kernel) rfl rfl (Nat.le_of_ble_eq_true rfl) dX1_read_5 (fun H locs hP hD hS => ?_)
  have hP : va_P (dC, dI) vwCl [(g0, .inr (1, [.ref g1, .int (nI n), .ref g2, .int (nI n), .int (bI rd), .int fp, .int (nI st), .int mt, .int bg])), (g1, .inl (cA, 1000, .inl (fun j => nI (tb j)))), (g2, .inl (cA, 1000, .inl (fun j => nI (kb j))))] H := hP
  have hD : va_D A [(g0, .inr (1, [.ref g1, .int (nI n), .ref g2, .int (nI n), .int (bI rd), .int fp, .int (nI st), .int mt, .int bg])), (g1, .inl (cA, 1000, .inl (fun j => nI (tb j)))), (g2, .inl (cA, 1000, .inl (fun j => nI (kb j))))] := hD
  refine lv_aload_n hx hb dX1_read_8 rfl (lv_at hl 0 rfl) ?_
  refine lv_iconst (v := 0) hx hb dX1_read_9 (by decide) ?_
  refine va_put (D := (dC, dI)) (ci := 1) (v := .int 0) (ty := .int) (C := RX1) (T := TX1) (N := 9) hx hb hts hIn tyX1 tyX1_ok nmX1 hown hK hP hD hS 0 rfl rfl 1 (by decide) (hts (.fieldLink RX1 20 RX1 "size" "I") (by decide +kernel)) (fun _ h9 => h9) rfl (by decide +kernel) rfl rfl (Nat.le_of_ble_eq_true rfl) dX1_read_10 (fun H locs hP hD hS => ?_)
  have hP : va_P (dC, dI) vwCl [(g0, .inr (1, [.ref g1, .int 0, .ref g2, .int (nI n), .int (bI rd), .int fp, .int (nI st), .int mt, .int bg])), (g1, .inl (cA, 1000, .inl (fun j => nI (tb j)))), (g2, .inl (cA, 1000, .inl (fun j => nI (kb j))))] H := hP
  have hD : va_D A [(g0, .inr (1, [.ref g1, .int 0, .ref g2, .int (nI n), .int (bI rd), .int fp, .int (nI st), .int mt, .int bg])), (g1, .inl (cA, 1000, .inl (fun j => nI (tb j)))), (g2, .inl (cA, 1000, .inl (fun j => nI (kb j))))] := hD
  refine lv_aload_n hx hb dX1_read_13 rfl (lv_at hl 0 rfl) ?_
  refine lv_iconst (v := 0) hx hb dX1_read_14 (by decide) ?_
  refine va_put (D := (dC, dI)) (ci := 1) (v := .int 0) (ty := .boolean) (C := RX1) (T := TX1) (N := 9) hx hb hts hIn tyX1 tyX1_ok nmX1 hown hK hP hD hS 0 rfl rfl 4 (by decide) (hts (.fieldLink RX1 60 RX1 "read" "Z") (by decide +kernel)) (fun _ h9 => h9) rfl (by decide +kernel) rfl rfl (Nat.le_of_ble_eq_true rfl) dX1_read_15 (fun H locs hP hD hS => ?_)
  have hP : va_P (dC, dI) vwCl [(g0, .inr (1, [.ref g1, .int 0, .ref g2, .int (nI n), .int 0, .int fp, .int (nI st), .int mt, .int bg])), (g1, .inl (cA, 1000, .inl (fun j => nI (tb j)))), (g2, .inl (cA, 1000, .inl (fun j => nI (kb j))))] H := hP
  have hD : va_D A [(g0, .inr (1, [.ref g1, .int 0, .ref g2, .int (nI n), .int 0, .int fp, .int (nI st), .int mt, .int bg])), (g1, .inl (cA, 1000, .inl (fun j => nI (tb j)))), (g2, .inl (cA, 1000, .inl (fun j => nI (kb j))))] := hD
  refine lv_iconst (v := 0) hx hb dX1_read_18 (by decide) ?_
  refine lv_istore_n (lv' := [(1, .int 0), (0, .ref g0)]) hx hb dX1_read_19 rfl hl (by decide) rfl (fun ls hl => ?_)
  exact loop1 n 0 H locs ls (by omega) (by rw [cpN_0]; exact hP) (by rw [cpN_0]; exact hD) hS (lv_sub hl [0, 1] rfl)
set_option maxHeartbeats 4000000 in
set_option maxRecDepth 100000 in
theorem c_X1_read_ok (l : Launch) (dC : Nat → ClassId) (dI : Nat → Nat → Nat) (g0 g1 g2 : Nat) (cA : ClassId) (sz : Nat) (tb : Nat → Nat) (n : Nat) (kb : Nat → Nat) (ln : Nat) (rd : Bool) (fp : Int32) (st : Nat) (mt bg : Int32) (htb : ∀ j, tb j < 256) (hkb : ∀ j, kb j < 256) (hln : n ≤ 1000) (hp : pass1 (cpN kb tb n) n n 0 = none) (k : Nat) (hk : k ≤ 1000) (mf bf sg : Nat → Nat) (hch : Chain (cpN kb tb n) n k mf bf sg) : Met l yX1_read wsX1_read ({ frames := 3, cells := 0, slots := 0, locals := 66 }) (va_Pc [.ref g0] (fun U => mmut dC dI g0 g1 g2 cA sz (tb, n, kb, ln, rd, fp, st, mt, bg) U)) (va_Qi (fun (r : Int32) (u : MS) => r = nI k ∧ ∃ (st' : Nat) (mt' bg' : Int32), u = (tb, 0, cpN kb tb n, n, true, -1, st', mt', bg')) (matt dC dI g0 g1 g2 cA (va_A (mw g0 g1 g2 cA (tb, n, kb, ln, rd, fp, st, mt, bg)) sz)) (va_A (mw g0 g1 g2 cA (tb, n, kb, ln, rd, fp, st, mt, bg)) sz)) 0 0 (va_A (mw g0 g1 g2 cA (tb, n, kb, ln, rd, fp, st, mt, bg)) sz) := by
  refine Met.ofW (cc := cX1_read) (maxL := 2) (ret := (some .int)) (by decide) rfl ?_
  intro p e s m args below meth c s₁ B hml hv
  obtain ⟨rfl, hsz, hP, hK, hD0⟩ := hv
  have hx := B.exec
  have hb := B.bytes
  have hr := B.returns
  have hts := atoms_spec (ws := wsX1_read) B.pre
  have hown : s.vm.findClass RX1 = some m.cls := findClass_of_methodNamed B.named
  subst hsz
  have hD := hD0.self (sz := s.heap.size)
  generalize hAe : va_A (mw g0 g1 g2 cA (tb, n, kb, ln, rd, fp, st, mt, bg)) s.heap.size = A at hD ⊢
  have hA : ∀ q : Nat, s.heap.size ≤ q → A q := fun q h => by rw [← hAe]; exact Or.inr h
  have hS : va_S A s.heap s.heap [] := va_S.rf
  have hP : va_P (dC, dI) vwCl [(g0, .inr (1, [.ref g1, .int (nI n), .ref g2, .int (nI ln), .int (bI rd), .int fp, .int (nI st), .int mt, .int bg])), (g1, .inl (cA, 1000, .inl (fun j => nI (tb j)))), (g2, .inl (cA, 1000, .inl (fun j => nI (kb j))))] s.heap := hP
  have hD : va_D A [(g0, .inr (1, [.ref g1, .int (nI n), .ref g2, .int (nI ln), .int (bI rd), .int fp, .int (nI st), .int mt, .int bg])), (g1, .inl (cA, 1000, .inl (fun j => nI (tb j)))), (g2, .inl (cA, 1000, .inl (fun j => nI (kb j))))] := hD
  have hIn : ∀ w ∈ wsX10, w ∈ wsX1_read := by decide +kernel
  have hl := lv_entry ([.ref g0]) (n := 2) (Nat.le_of_ble_eq_true rfl)
  rw [lg_entry_eq]
  generalize (lg_sl ([.ref g0]) ++ List.replicate (2 - (lg_sl ([.ref g0])).length) Slot.unset).toArray = ls at hl ⊢
  have hl : lv_has ls 2 [(0, .ref g0)] := hl
  have hkc := cpN_lt htb hkb n
  have hsgb := chain_sg hkc hch
  have loop3 : ∀ (d q : Nat) (mt2 bg2 : Int32) (H : Heap) (locs : List Loc) (ls : Array Slot), q + d = k → va_P (dC, dI) vwCl [(g0, .inr (1, [.ref g1, .int (nI 0), .ref g2, .int (nI n), .int (bI true), .int (-1), .int (nI (sg q)), .int mt2, .int bg2])), (g1, .inl (cA, 1000, .inl (fun j => nI (tb j)))), (g2, .inl (cA, 1000, .inl (fun j => nI ((cpN kb tb n) j))))] H → va_D A [(g0, .inr (1, [.ref g1, .int (nI 0), .ref g2, .int (nI n), .int (bI true), .int (-1), .int (nI (sg q)), .int mt2, .int bg2])), (g1, .inl (cA, 1000, .inl (fun j => nI (tb j)))), (g2, .inl (cA, 1000, .inl (fun j => nI ((cpN kb tb n) j))))] → va_S A s.heap H locs → lv_has ls 2 [(1, .int (nI q)), (0, .ref g0)] → W p l e (headSpec wsX1_read ({ frames := 3, cells := 0, slots := 0, locals := 66 })).room s m ([.ref g0] : List Value).toArray below meth c H locs 0 0 (MQ below (va_Qi (fun (r : Int32) (u : MS) => r = nI k ∧ ∃ (st' : Nat) (mt' bg' : Int32), u = (tb, 0, cpN kb tb n, n, true, -1, st', mt', bg')) (matt dC dI g0 g1 g2 cA A) A) ([.ref g0] : List Value).toArray s 0 0 A) (F0 m 112 ls []) := by
    intro d
    induction d with
    | zero =>
      intro q mt2 bg2 H locs ls hqd hP hD hS hl
      have hsb := hsgb q (by omega)
      refine lv_aload_n hx hb dX1_read_112 rfl (lv_at hl 1 rfl) ?_
      have hFc := va_free (wc := mw g0 g1 g2 cA (tb, 0, (cpN kb tb n), n, true, (-1), (sg q), mt2, bg2)) hD hS hA [0, 1, 2] rfl
      refine va_calli (va_runV (As := []) (rest := []) ⟨hx, hb, hml, hown, hts⟩ (c_X1_next_end l dC dI g0 g1 g2 cA H.size tb 0 (cpN kb tb n) n true (-1) (sg q) mt2 bg2 hkc hln (by omega) (by rw [show q = k by omega]; exact hch.2.2)) (cwV 0 hts gX1_read_X1_next rfl rfl rfl (by decide +kernel) ⟨Nat.le_of_ble_eq_true rfl, Nat.le_of_ble_eq_true rfl⟩) ⟨mmut_blind, va_recv hK hP (ci := 1) (q0 := 0) rfl rfl, fun U hU hW => ⟨rfl, mmut_of hP hK hD hU hW⟩⟩ rfl rfl hl.1 rfl (lv_room (Nat.le_of_ble_eq_true rfl)) dX1_read_113 ⟨Nat.le_of_ble_eq_true rfl, Nat.le_of_ble_eq_true rfl⟩) hS (fun q _ h => hFc q h) hFc (fun r_1 u_1 t_1 H1 locs ht hvm hw hB hz1 hk1 hS => ?_)
      obtain ⟨hw0, hw1⟩ := hw
      obtain rfl : r_1 = 0 := hw0
      obtain rfl : u_1 = (tb, 0, (cpN kb tb n), n, true, (-1), (s0N (cpN kb tb n) n (sg q)), mt2, bg2) := hw1
      obtain ⟨hP1, hK1, hD1⟩ := hB
      rw [ht] at hP1
      obtain ⟨hP, hD⟩ := va_join (wr := []) (w1 := mw g0 g1 g2 cA (tb, 0, (cpN kb tb n), n, true, (-1), (s0N (cpN kb tb n) n (sg q)), mt2, bg2)) hP hD [0, 1, 2] [] rfl rfl (by decide) (by decide) hk1 hFc hP1 hD1
      generalize H1 = H at hP hS ⊢
      have hP : va_P (dC, dI) vwCl [(g0, .inr (1, [.ref g1, .int (nI 0), .ref g2, .int (nI n), .int (bI true), .int (-1), .int (nI (s0N (cpN kb tb n) n (sg q))), .int mt2, .int bg2])), (g1, .inl (cA, 1000, .inl (fun j => nI (tb j)))), (g2, .inl (cA, 1000, .inl (fun j => nI ((cpN kb tb n) j))))] H := hP
      have hD : va_D A [(g0, .inr (1, [.ref g1, .int (nI 0), .ref g2, .int (nI n), .int (bI true), .int (-1), .int (nI (s0N (cpN kb tb n) n (sg q))), .int mt2, .int bg2])), (g1, .inl (cA, 1000, .inl (fun j => nI (tb j)))), (g2, .inl (cA, 1000, .inl (fun j => nI ((cpN kb tb n) j))))] := hD
      refine lv_if_eq (tgt := 125) hx hb dX1_read_116 (by decide) (fun c_2 => ?_) (fun c_2 => ?_)
      · have c_2 : 0 = 0 := (nI_eq (a := 0) (b := 0) (by omega) (by omega)).mp c_2
        refine lv_iload_n hx hb dX1_read_125 rfl (lv_at hl 0 rfl) ?_
        have hP9 : va_P (dC, dI) vwCl (mw g0 g1 g2 cA (tb, 0, (cpN kb tb n), n, true, (-1), (s0N (cpN kb tb n) n (sg q)), mt2, bg2)) H := hP
        have hD9 : va_D A (mw g0 g1 g2 cA (tb, 0, (cpN kb tb n), n, true, (-1), (s0N (cpN kb tb n) n (sg q)), mt2, bg2)) := hD
        exact W.iret (v := nI q) hx hb hr (fun t ht hW => ⟨⟨nI q, (tb, 0, (cpN kb tb n), n, true, (-1), (s0N (cpN kb tb n) n (sg q)), mt2, bg2), rfl, ⟨by rw [show q = k by omega], _, _, _, rfl⟩, by rw [ht]; exact hP9, va_K.moved hW.alike hK, hD9⟩, hS.F ht⟩) hS.2.2 dX1_read_126
      · exact absurd c_2 (by decide)
    | succ d ih =>
      intro q mt2 bg2 H locs ls hqd hP hD hS hl
      have hsb := hsgb q (by omega)
      refine lv_aload_n hx hb dX1_read_112 rfl (lv_at hl 1 rfl) ?_
      have hFc := va_free (wc := mw g0 g1 g2 cA (tb, 0, (cpN kb tb n), n, true, (-1), (sg q), mt2, bg2)) hD hS hA [0, 1, 2] rfl
      obtain ⟨hgo, v_3, w_3, hsq, hmf, hbf, hsg⟩ := hch.2.1 q (by omega)
      have hlt_3 := seqN_lt hkc hsq
      refine va_calli (va_runV (As := []) (rest := []) ⟨hx, hb, hml, hown, hts⟩ (c_X1_next_some l dC dI g0 g1 g2 cA H.size tb 0 (cpN kb tb n) n true (-1) (sg q) mt2 bg2 hkc hln (by omega) v_3 w_3 hgo hsq) (cwV 0 hts gX1_read_X1_next rfl rfl rfl (by decide +kernel) ⟨Nat.le_of_ble_eq_true rfl, Nat.le_of_ble_eq_true rfl⟩) ⟨mmut_blind, va_recv hK hP (ci := 1) (q0 := 0) rfl rfl, fun U hU hW => ⟨rfl, mmut_of hP hK hD hU hW⟩⟩ rfl rfl hl.1 rfl (lv_room (Nat.le_of_ble_eq_true rfl)) dX1_read_113 ⟨Nat.le_of_ble_eq_true rfl, Nat.le_of_ble_eq_true rfl⟩) hS (fun q _ h => hFc q h) hFc (fun r_3 u_3 t_3 H1 locs ht hvm hw hB hz1 hk1 hS => ?_)
      obtain ⟨hw0, hw1⟩ := hw
      rw [← hmf, ← hsg, ← hbf] at hw1
      obtain rfl : r_3 = 1 := hw0
      obtain rfl : u_3 = (tb, 0, (cpN kb tb n), n, true, (-1), (sg (q + 1)), (nI (mf q)), (nI (bf q))) := hw1
      obtain ⟨hP1, hK1, hD1⟩ := hB
      rw [ht] at hP1
      obtain ⟨hP, hD⟩ := va_join (wr := []) (w1 := mw g0 g1 g2 cA (tb, 0, (cpN kb tb n), n, true, (-1), (sg (q + 1)), (nI (mf q)), (nI (bf q)))) hP hD [0, 1, 2] [] rfl rfl (by decide) (by decide) hk1 hFc hP1 hD1
      generalize H1 = H at hP hS ⊢
      have hP : va_P (dC, dI) vwCl [(g0, .inr (1, [.ref g1, .int (nI 0), .ref g2, .int (nI n), .int (bI true), .int (-1), .int (nI (sg (q + 1))), .int (nI (mf q)), .int (nI (bf q))])), (g1, .inl (cA, 1000, .inl (fun j => nI (tb j)))), (g2, .inl (cA, 1000, .inl (fun j => nI ((cpN kb tb n) j))))] H := hP
      have hD : va_D A [(g0, .inr (1, [.ref g1, .int (nI 0), .ref g2, .int (nI n), .int (bI true), .int (-1), .int (nI (sg (q + 1))), .int (nI (mf q)), .int (nI (bf q))])), (g1, .inl (cA, 1000, .inl (fun j => nI (tb j)))), (g2, .inl (cA, 1000, .inl (fun j => nI ((cpN kb tb n) j))))] := hD
      refine lv_if_eq (tgt := 125) hx hb dX1_read_116 (by decide) (fun c_4 => ?_) (fun c_4 => ?_)
      · exact absurd c_4 (by decide)
      · have c_4 : ¬ 1 = 0 := fun zz => c_4 ((nI_eq (a := 1) (b := 0) (by omega) (by omega)).mpr zz)
        refine lv_iinc (v := nI (q + 1)) (lv' := [(1, .int (nI (q + 1))), (0, .ref g0)]) hx hb dX1_read_119 hl (k := 0) rfl (nI_1 q) (by decide) rfl (fun ls hl => ?_)
        refine lv_goto (tgt := 112) hx hb dX1_read_122 (by decide) ?_
        exact ih (q + 1) _ _ H locs ls (by omega) hP hD hS (lv_sub hl [0, 1] rfl)
  have loop2 : ∀ (d st2 : Nat) (fp2 : Int32) (H : Heap) (locs : List Loc) (ls : Array Slot), n ≤ st2 + d → st2 ≤ n → pass1 (cpN kb tb n) n d st2 = none → va_P (dC, dI) vwCl [(g0, .inr (1, [.ref g1, .int (nI 0), .ref g2, .int (nI n), .int (bI false), .int fp2, .int (nI st2), .int mt, .int bg])), (g1, .inl (cA, 1000, .inl (fun j => nI (tb j)))), (g2, .inl (cA, 1000, .inl (fun j => nI ((cpN kb tb n) j))))] H → va_D A [(g0, .inr (1, [.ref g1, .int (nI 0), .ref g2, .int (nI n), .int (bI false), .int fp2, .int (nI st2), .int mt, .int bg])), (g1, .inl (cA, 1000, .inl (fun j => nI (tb j)))), (g2, .inl (cA, 1000, .inl (fun j => nI ((cpN kb tb n) j))))] → va_S A s.heap H locs → lv_has ls 2 [(0, .ref g0)] → W p l e (headSpec wsX1_read ({ frames := 3, cells := 0, slots := 0, locals := 66 })).room s m ([.ref g0] : List Value).toArray below meth c H locs 0 0 (MQ below (va_Qi (fun (r : Int32) (u : MS) => r = nI k ∧ ∃ (st' : Nat) (mt' bg' : Int32), u = (tb, 0, cpN kb tb n, n, true, -1, st', mt', bg')) (matt dC dI g0 g1 g2 cA A) A) ([.ref g0] : List Value).toArray s 0 0 A) (F0 m 51 ls []) := by
    intro d
    induction d with
    | zero =>
      intro st2 fp2 H locs ls hd hst2 hpp hP hD hS hl
      refine lv_aload_n hx hb dX1_read_51 rfl (lv_at hl 0 rfl) ?_
      refine va_get (D := (dC, dI)) (ci := 1) (v := .int (nI st2)) (C := RX1) (T := TX1) (N := 9) hx hb hts hIn hown hK hP 0 rfl rfl 6 (by decide) (hts (.fieldLink RX1 41 RX1 "stand" "I") (by decide +kernel)) (fun _ h9 => h9) rfl dX1_read_52 ?_
      refine lv_aload_n hx hb dX1_read_55 rfl (lv_at hl 0 rfl) ?_
      refine va_get (D := (dC, dI)) (ci := 1) (v := .int (nI n)) (C := RX1) (T := TX1) (N := 9) hx hb hts hIn hown hK hP 0 rfl rfl 3 (by decide) (hts (.fieldLink RX1 44 RX1 "length" "I") (by decide +kernel)) (fun _ h9 => h9) rfl dX1_read_56 ?_
      refine lv_icmp_ge (tgt := 95) hx hb dX1_read_59 (by decide) (fun c_5 => ?_) (fun c_5 => ?_)
      · have c_5 : n ≤ st2 := (nI_leI (a := n) (b := st2) (by omega) (by omega)).mp c_5
        refine lv_aload_n hx hb dX1_read_95 rfl (lv_at hl 0 rfl) ?_
        refine lv_iconst (v := -1) hx hb dX1_read_96 (by decide) ?_
        refine va_put (D := (dC, dI)) (ci := 1) (v := .int (-1)) (ty := .int) (C := RX1) (T := TX1) (N := 9) hx hb hts hIn tyX1 tyX1_ok nmX1 hown hK hP hD hS 0 rfl rfl 5 (by decide) (hts (.fieldLink RX1 16 RX1 "place" "I") (by decide +kernel)) (fun _ h9 => h9) rfl (by decide +kernel) rfl rfl (Nat.le_of_ble_eq_true rfl) dX1_read_97 (fun H locs hP hD hS => ?_)
        have hP : va_P (dC, dI) vwCl [(g0, .inr (1, [.ref g1, .int (nI 0), .ref g2, .int (nI n), .int (bI false), .int (-1), .int (nI st2), .int mt, .int bg])), (g1, .inl (cA, 1000, .inl (fun j => nI (tb j)))), (g2, .inl (cA, 1000, .inl (fun j => nI ((cpN kb tb n) j))))] H := hP
        have hD : va_D A [(g0, .inr (1, [.ref g1, .int (nI 0), .ref g2, .int (nI n), .int (bI false), .int (-1), .int (nI st2), .int mt, .int bg])), (g1, .inl (cA, 1000, .inl (fun j => nI (tb j)))), (g2, .inl (cA, 1000, .inl (fun j => nI ((cpN kb tb n) j))))] := hD
        refine lv_aload_n hx hb dX1_read_100 rfl (lv_at hl 0 rfl) ?_
        refine lv_iconst (v := 1) hx hb dX1_read_101 (by decide) ?_
        refine va_put (D := (dC, dI)) (ci := 1) (v := .int 1) (ty := .boolean) (C := RX1) (T := TX1) (N := 9) hx hb hts hIn tyX1 tyX1_ok nmX1 hown hK hP hD hS 0 rfl rfl 4 (by decide) (hts (.fieldLink RX1 60 RX1 "read" "Z") (by decide +kernel)) (fun _ h9 => h9) rfl (by decide +kernel) rfl rfl (Nat.le_of_ble_eq_true rfl) dX1_read_102 (fun H locs hP hD hS => ?_)
        have hP : va_P (dC, dI) vwCl [(g0, .inr (1, [.ref g1, .int (nI 0), .ref g2, .int (nI n), .int 1, .int (-1), .int (nI st2), .int mt, .int bg])), (g1, .inl (cA, 1000, .inl (fun j => nI (tb j)))), (g2, .inl (cA, 1000, .inl (fun j => nI ((cpN kb tb n) j))))] H := hP
        have hD : va_D A [(g0, .inr (1, [.ref g1, .int (nI 0), .ref g2, .int (nI n), .int 1, .int (-1), .int (nI st2), .int mt, .int bg])), (g1, .inl (cA, 1000, .inl (fun j => nI (tb j)))), (g2, .inl (cA, 1000, .inl (fun j => nI ((cpN kb tb n) j))))] := hD
        refine lv_iconst (v := 0) hx hb dX1_read_105 (by decide) ?_
        refine lv_istore_n (lv' := [(1, .int 0), (0, .ref g0)]) hx hb dX1_read_106 rfl hl (by decide) rfl (fun ls hl => ?_)
        refine lv_aload_n hx hb dX1_read_107 rfl (lv_at hl 1 rfl) ?_
        refine lv_iconst (v := 0) hx hb dX1_read_108 (by decide) ?_
        refine va_put (D := (dC, dI)) (ci := 1) (v := .int 0) (ty := .int) (C := RX1) (T := TX1) (N := 9) hx hb hts hIn tyX1 tyX1_ok nmX1 hown hK hP hD hS 0 rfl rfl 6 (by decide) (hts (.fieldLink RX1 41 RX1 "stand" "I") (by decide +kernel)) (fun _ h9 => h9) rfl (by decide +kernel) rfl rfl (Nat.le_of_ble_eq_true rfl) dX1_read_109 (fun H locs hP hD hS => ?_)
        have hP : va_P (dC, dI) vwCl [(g0, .inr (1, [.ref g1, .int (nI 0), .ref g2, .int (nI n), .int 1, .int (-1), .int 0, .int mt, .int bg])), (g1, .inl (cA, 1000, .inl (fun j => nI (tb j)))), (g2, .inl (cA, 1000, .inl (fun j => nI ((cpN kb tb n) j))))] H := hP
        have hD : va_D A [(g0, .inr (1, [.ref g1, .int (nI 0), .ref g2, .int (nI n), .int 1, .int (-1), .int 0, .int mt, .int bg])), (g1, .inl (cA, 1000, .inl (fun j => nI (tb j)))), (g2, .inl (cA, 1000, .inl (fun j => nI ((cpN kb tb n) j))))] := hD
        exact loop3 k 0 mt bg H locs ls (by omega) (by rw [hch.1]; exact hP) (by rw [hch.1]; exact hD) hS (lv_sub hl [0, 1] rfl)
      · exact absurd (nI_le (by omega) (by omega)) c_5
    | succ d ih =>
      intro st2 fp2 H locs ls hd hst2 hpp hP hD hS hl
      refine lv_aload_n hx hb dX1_read_51 rfl (lv_at hl 0 rfl) ?_
      refine va_get (D := (dC, dI)) (ci := 1) (v := .int (nI st2)) (C := RX1) (T := TX1) (N := 9) hx hb hts hIn hown hK hP 0 rfl rfl 6 (by decide) (hts (.fieldLink RX1 41 RX1 "stand" "I") (by decide +kernel)) (fun _ h9 => h9) rfl dX1_read_52 ?_
      refine lv_aload_n hx hb dX1_read_55 rfl (lv_at hl 0 rfl) ?_
      refine va_get (D := (dC, dI)) (ci := 1) (v := .int (nI n)) (C := RX1) (T := TX1) (N := 9) hx hb hts hIn hown hK hP 0 rfl rfl 3 (by decide) (hts (.fieldLink RX1 44 RX1 "length" "I") (by decide +kernel)) (fun _ h9 => h9) rfl dX1_read_56 ?_
      refine lv_icmp_ge (tgt := 95) hx hb dX1_read_59 (by decide) (fun c_6 => ?_) (fun c_6 => ?_)
      · have c_6 : n ≤ st2 := (nI_leI (a := n) (b := st2) (by omega) (by omega)).mp c_6
        refine lv_aload_n hx hb dX1_read_95 rfl (lv_at hl 0 rfl) ?_
        refine lv_iconst (v := -1) hx hb dX1_read_96 (by decide) ?_
        refine va_put (D := (dC, dI)) (ci := 1) (v := .int (-1)) (ty := .int) (C := RX1) (T := TX1) (N := 9) hx hb hts hIn tyX1 tyX1_ok nmX1 hown hK hP hD hS 0 rfl rfl 5 (by decide) (hts (.fieldLink RX1 16 RX1 "place" "I") (by decide +kernel)) (fun _ h9 => h9) rfl (by decide +kernel) rfl rfl (Nat.le_of_ble_eq_true rfl) dX1_read_97 (fun H locs hP hD hS => ?_)
        have hP : va_P (dC, dI) vwCl [(g0, .inr (1, [.ref g1, .int (nI 0), .ref g2, .int (nI n), .int (bI false), .int (-1), .int (nI st2), .int mt, .int bg])), (g1, .inl (cA, 1000, .inl (fun j => nI (tb j)))), (g2, .inl (cA, 1000, .inl (fun j => nI ((cpN kb tb n) j))))] H := hP
        have hD : va_D A [(g0, .inr (1, [.ref g1, .int (nI 0), .ref g2, .int (nI n), .int (bI false), .int (-1), .int (nI st2), .int mt, .int bg])), (g1, .inl (cA, 1000, .inl (fun j => nI (tb j)))), (g2, .inl (cA, 1000, .inl (fun j => nI ((cpN kb tb n) j))))] := hD
        refine lv_aload_n hx hb dX1_read_100 rfl (lv_at hl 0 rfl) ?_
        refine lv_iconst (v := 1) hx hb dX1_read_101 (by decide) ?_
        refine va_put (D := (dC, dI)) (ci := 1) (v := .int 1) (ty := .boolean) (C := RX1) (T := TX1) (N := 9) hx hb hts hIn tyX1 tyX1_ok nmX1 hown hK hP hD hS 0 rfl rfl 4 (by decide) (hts (.fieldLink RX1 60 RX1 "read" "Z") (by decide +kernel)) (fun _ h9 => h9) rfl (by decide +kernel) rfl rfl (Nat.le_of_ble_eq_true rfl) dX1_read_102 (fun H locs hP hD hS => ?_)
        have hP : va_P (dC, dI) vwCl [(g0, .inr (1, [.ref g1, .int (nI 0), .ref g2, .int (nI n), .int 1, .int (-1), .int (nI st2), .int mt, .int bg])), (g1, .inl (cA, 1000, .inl (fun j => nI (tb j)))), (g2, .inl (cA, 1000, .inl (fun j => nI ((cpN kb tb n) j))))] H := hP
        have hD : va_D A [(g0, .inr (1, [.ref g1, .int (nI 0), .ref g2, .int (nI n), .int 1, .int (-1), .int (nI st2), .int mt, .int bg])), (g1, .inl (cA, 1000, .inl (fun j => nI (tb j)))), (g2, .inl (cA, 1000, .inl (fun j => nI ((cpN kb tb n) j))))] := hD
        refine lv_iconst (v := 0) hx hb dX1_read_105 (by decide) ?_
        refine lv_istore_n (lv' := [(1, .int 0), (0, .ref g0)]) hx hb dX1_read_106 rfl hl (by decide) rfl (fun ls hl => ?_)
        refine lv_aload_n hx hb dX1_read_107 rfl (lv_at hl 1 rfl) ?_
        refine lv_iconst (v := 0) hx hb dX1_read_108 (by decide) ?_
        refine va_put (D := (dC, dI)) (ci := 1) (v := .int 0) (ty := .int) (C := RX1) (T := TX1) (N := 9) hx hb hts hIn tyX1 tyX1_ok nmX1 hown hK hP hD hS 0 rfl rfl 6 (by decide) (hts (.fieldLink RX1 41 RX1 "stand" "I") (by decide +kernel)) (fun _ h9 => h9) rfl (by decide +kernel) rfl rfl (Nat.le_of_ble_eq_true rfl) dX1_read_109 (fun H locs hP hD hS => ?_)
        have hP : va_P (dC, dI) vwCl [(g0, .inr (1, [.ref g1, .int (nI 0), .ref g2, .int (nI n), .int 1, .int (-1), .int 0, .int mt, .int bg])), (g1, .inl (cA, 1000, .inl (fun j => nI (tb j)))), (g2, .inl (cA, 1000, .inl (fun j => nI ((cpN kb tb n) j))))] H := hP
        have hD : va_D A [(g0, .inr (1, [.ref g1, .int (nI 0), .ref g2, .int (nI n), .int 1, .int (-1), .int 0, .int mt, .int bg])), (g1, .inl (cA, 1000, .inl (fun j => nI (tb j)))), (g2, .inl (cA, 1000, .inl (fun j => nI ((cpN kb tb n) j))))] := hD
        exact loop3 k 0 mt bg H locs ls (by omega) (by rw [hch.1]; exact hP) (by rw [hch.1]; exact hD) hS (lv_sub hl [0, 1] rfl)
      · have c_6 : ¬ n ≤ st2 := fun zz => c_6 ((nI_leI (a := n) (b := st2) (by omega) (by omega)).mpr zz)
        refine lv_aload_n hx hb dX1_read_62 rfl (lv_at hl 0 rfl) ?_
        refine lv_aload_n hx hb dX1_read_63 rfl (lv_at hl 0 rfl) ?_
        refine va_get (D := (dC, dI)) (ci := 1) (v := .int (nI st2)) (C := RX1) (T := TX1) (N := 9) hx hb hts hIn hown hK hP 0 rfl rfl 6 (by decide) (hts (.fieldLink RX1 41 RX1 "stand" "I") (by decide +kernel)) (fun _ h9 => h9) rfl dX1_read_64 ?_
        refine va_put (D := (dC, dI)) (ci := 1) (v := .int (nI st2)) (ty := .int) (C := RX1) (T := TX1) (N := 9) hx hb hts hIn tyX1 tyX1_ok nmX1 hown hK hP hD hS 0 rfl rfl 5 (by decide) (hts (.fieldLink RX1 16 RX1 "place" "I") (by decide +kernel)) (fun _ h9 => h9) rfl (by decide +kernel) rfl rfl (Nat.le_of_ble_eq_true rfl) dX1_read_67 (fun H locs hP hD hS => ?_)
        have hP : va_P (dC, dI) vwCl [(g0, .inr (1, [.ref g1, .int (nI 0), .ref g2, .int (nI n), .int (bI false), .int (nI st2), .int (nI st2), .int mt, .int bg])), (g1, .inl (cA, 1000, .inl (fun j => nI (tb j)))), (g2, .inl (cA, 1000, .inl (fun j => nI ((cpN kb tb n) j))))] H := hP
        have hD : va_D A [(g0, .inr (1, [.ref g1, .int (nI 0), .ref g2, .int (nI n), .int (bI false), .int (nI st2), .int (nI st2), .int mt, .int bg])), (g1, .inl (cA, 1000, .inl (fun j => nI (tb j)))), (g2, .inl (cA, 1000, .inl (fun j => nI ((cpN kb tb n) j))))] := hD
        have hlt2 : st2 < n := by omega
        cases hsq : seqN (cpN kb tb n) n st2 with
        | none =>
          refine lv_aload_n hx hb dX1_read_70 rfl (lv_at hl 0 rfl) ?_
          have hFc := va_free (wc := mw g0 g1 g2 cA (tb, 0, (cpN kb tb n), n, false, (nI st2), st2, mt, bg)) hD hS hA [0, 1, 2] rfl
          refine va_calli (va_runV (As := []) (rest := []) ⟨hx, hb, hml, hown, hts⟩ (c_X1_sequence l dC dI g0 g1 g2 cA H.size tb 0 (cpN kb tb n) n false (nI st2) st2 mt bg hkc (by omega) hln) (cwV 0 hts gX1_read_X1_sequence rfl rfl rfl (by decide +kernel) ⟨Nat.le_of_ble_eq_true rfl, Nat.le_of_ble_eq_true rfl⟩) ⟨mmut_blind, va_recv hK hP (ci := 1) (q0 := 0) rfl rfl, fun U hU hW => ⟨rfl, mmut_of hP hK hD hU hW⟩⟩ rfl rfl hl.1 rfl (lv_room (Nat.le_of_ble_eq_true rfl)) dX1_read_71 ⟨Nat.le_of_ble_eq_true rfl, Nat.le_of_ble_eq_true rfl⟩) hS (fun q _ h => hFc q h) hFc (fun r_7 u_7 t_7 H1 locs ht hvm hw hB hz1 hk1 hS => ?_)
          obtain ⟨hw0, hw1⟩ := hw
          rw [hsq] at hw0 hw1
          obtain rfl : r_7 = (-1) := hw0
          obtain rfl : u_7 = (tb, 0, (cpN kb tb n), n, false, (nI st2), st2, mt, bg) := hw1
          obtain ⟨hP1, hK1, hD1⟩ := hB
          rw [ht] at hP1
          obtain ⟨hP, hD⟩ := va_join (wr := []) (w1 := mw g0 g1 g2 cA (tb, 0, (cpN kb tb n), n, false, (nI st2), st2, mt, bg)) hP hD [0, 1, 2] [] rfl rfl (by decide) (by decide) hk1 hFc hP1 hD1
          generalize H1 = H at hP hS ⊢
          have hP : va_P (dC, dI) vwCl [(g0, .inr (1, [.ref g1, .int (nI 0), .ref g2, .int (nI n), .int (bI false), .int (nI st2), .int (nI st2), .int mt, .int bg])), (g1, .inl (cA, 1000, .inl (fun j => nI (tb j)))), (g2, .inl (cA, 1000, .inl (fun j => nI ((cpN kb tb n) j))))] H := hP
          have hD : va_D A [(g0, .inr (1, [.ref g1, .int (nI 0), .ref g2, .int (nI n), .int (bI false), .int (nI st2), .int (nI st2), .int mt, .int bg])), (g1, .inl (cA, 1000, .inl (fun j => nI (tb j)))), (g2, .inl (cA, 1000, .inl (fun j => nI ((cpN kb tb n) j))))] := hD
          refine lv_istore_n (lv' := [(1, .int (-1)), (0, .ref g0)]) hx hb dX1_read_74 rfl hl (by decide) rfl (fun ls hl => ?_)
          refine lv_iload_n hx hb dX1_read_75 rfl (lv_at hl 0 rfl) ?_
          refine lv_if_ge (tgt := 82) hx hb dX1_read_76 (by decide) (fun c_8 => ?_) (fun c_8 => ?_)
          · exact absurd c_8 (by decide)
          · refine lv_bipush (v := -2) hx hb dX1_read_79 (by decide) ?_
            have hP9 : va_P (dC, dI) vwCl (mw g0 g1 g2 cA (tb, 0, (cpN kb tb n), n, false, (nI st2), st2, mt, bg)) H := hP
            have hD9 : va_D A (mw g0 g1 g2 cA (tb, 0, (cpN kb tb n), n, false, (nI st2), st2, mt, bg)) := hD
            exact W.iret (v := (-2)) hx hb hr (fun t ht hW => ⟨⟨(-2), (tb, 0, (cpN kb tb n), n, false, (nI st2), st2, mt, bg), rfl, absurd hpp (by rw [pass1, if_neg (by omega), hsq]; simp), by rw [ht]; exact hP9, va_K.moved hW.alike hK, hD9⟩, hS.F ht⟩) hS.2.2 dX1_read_81
        | some qq =>
          obtain ⟨v, wd⟩ := qq
          obtain ⟨hv1, hw1', hw4, hsw⟩ := seqN_lt hkc hsq
          refine lv_aload_n hx hb dX1_read_70 rfl (lv_at hl 0 rfl) ?_
          have hFc := va_free (wc := mw g0 g1 g2 cA (tb, 0, (cpN kb tb n), n, false, (nI st2), st2, mt, bg)) hD hS hA [0, 1, 2] rfl
          refine va_calli (va_runV (As := []) (rest := []) ⟨hx, hb, hml, hown, hts⟩ (c_X1_sequence l dC dI g0 g1 g2 cA H.size tb 0 (cpN kb tb n) n false (nI st2) st2 mt bg hkc (by omega) hln) (cwV 0 hts gX1_read_X1_sequence rfl rfl rfl (by decide +kernel) ⟨Nat.le_of_ble_eq_true rfl, Nat.le_of_ble_eq_true rfl⟩) ⟨mmut_blind, va_recv hK hP (ci := 1) (q0 := 0) rfl rfl, fun U hU hW => ⟨rfl, mmut_of hP hK hD hU hW⟩⟩ rfl rfl hl.1 rfl (lv_room (Nat.le_of_ble_eq_true rfl)) dX1_read_71 ⟨Nat.le_of_ble_eq_true rfl, Nat.le_of_ble_eq_true rfl⟩) hS (fun q _ h => hFc q h) hFc (fun r_9 u_9 t_9 H1 locs ht hvm hw hB hz1 hk1 hS => ?_)
          obtain ⟨hw0, hw1⟩ := hw
          rw [hsq] at hw0 hw1
          obtain rfl : r_9 = nI v := hw0
          obtain rfl : u_9 = (tb, 0, (cpN kb tb n), n, false, (nI st2), (st2 + wd), mt, bg) := hw1
          obtain ⟨hP1, hK1, hD1⟩ := hB
          rw [ht] at hP1
          obtain ⟨hP, hD⟩ := va_join (wr := []) (w1 := mw g0 g1 g2 cA (tb, 0, (cpN kb tb n), n, false, (nI st2), (st2 + wd), mt, bg)) hP hD [0, 1, 2] [] rfl rfl (by decide) (by decide) hk1 hFc hP1 hD1
          generalize H1 = H at hP hS ⊢
          have hP : va_P (dC, dI) vwCl [(g0, .inr (1, [.ref g1, .int (nI 0), .ref g2, .int (nI n), .int (bI false), .int (nI st2), .int (nI (st2 + wd)), .int mt, .int bg])), (g1, .inl (cA, 1000, .inl (fun j => nI (tb j)))), (g2, .inl (cA, 1000, .inl (fun j => nI ((cpN kb tb n) j))))] H := hP
          have hD : va_D A [(g0, .inr (1, [.ref g1, .int (nI 0), .ref g2, .int (nI n), .int (bI false), .int (nI st2), .int (nI (st2 + wd)), .int mt, .int bg])), (g1, .inl (cA, 1000, .inl (fun j => nI (tb j)))), (g2, .inl (cA, 1000, .inl (fun j => nI ((cpN kb tb n) j))))] := hD
          refine lv_istore_n (lv' := [(1, .int (nI v)), (0, .ref g0)]) hx hb dX1_read_74 rfl hl (by decide) rfl (fun ls hl => ?_)
          refine lv_iload_n hx hb dX1_read_75 rfl (lv_at hl 0 rfl) ?_
          refine lv_if_ge (tgt := 82) hx hb dX1_read_76 (by decide) (fun c_10 => ?_) (fun c_10 => ?_)
          · have c_10 : 0 ≤ v := (nI_leI (a := 0) (b := v) (by omega) (by omega)).mp c_10
            refine lv_iload_n hx hb dX1_read_82 rfl (lv_at hl 0 rfl) ?_
            refine vp_callSi (W.runS (As := [.int (nI v)]) (rest := []) ⟨hx, hb, hml, hown, hts⟩ (c_X1_isAllowed l (nI v)) (va_cwS 1 hts gX1_read_X1_isAllowed rfl rfl rfl (by decide +kernel) ⟨Nat.le_of_ble_eq_true rfl, Nat.le_of_ble_eq_true rfl⟩) ⟨fun _ _ _ _ q => q, fun U hU hW => ⟨rfl, trivial⟩⟩ rfl rfl hl.1 rfl (lv_room (Nat.le_of_ble_eq_true rfl)) dX1_read_83 ⟨Nat.le_of_ble_eq_true rfl, Nat.le_of_ble_eq_true rfl⟩) (fun r_11 er_11 => ?_)
            obtain rfl : r_11 = bI (mAll (nI v)) := er_11
            refine lv_if_ne (tgt := 92) hx hb dX1_read_86 (by decide) (fun c_12 => ?_) (fun c_12 => ?_)
            · have c_12 := bI_n0 c_12
              refine lv_goto (tgt := 51) hx hb dX1_read_92 (by decide) ?_
              have hp2 : pass1 (cpN kb tb n) n d (st2 + wd) = none := by rw [← hpp, pass1, if_neg (by omega), hsq]; simp only [c_12, if_true]
              exact ih (st2 + wd) _ H locs ls (by omega) (by omega) hp2 hP hD hS (lv_sub hl [1] rfl)
            · have c_12 := bI_0 c_12
              refine lv_bipush (v := -3) hx hb dX1_read_89 (by decide) ?_
              have hP9 : va_P (dC, dI) vwCl (mw g0 g1 g2 cA (tb, 0, (cpN kb tb n), n, false, (nI st2), (st2 + wd), mt, bg)) H := hP
              have hD9 : va_D A (mw g0 g1 g2 cA (tb, 0, (cpN kb tb n), n, false, (nI st2), (st2 + wd), mt, bg)) := hD
              exact W.iret (v := (-3)) hx hb hr (fun t ht hW => ⟨⟨(-3), (tb, 0, (cpN kb tb n), n, false, (nI st2), (st2 + wd), mt, bg), rfl, absurd hpp (by rw [pass1, if_neg (by omega), hsq]; simp only [c_12]; simp), by rw [ht]; exact hP9, va_K.moved hW.alike hK, hD9⟩, hS.F ht⟩) hS.2.2 dX1_read_91
          · exact absurd (nI_pos' (by omega)) c_10
  have loop1 : ∀ (d i : Nat) (H : Heap) (locs : List Loc) (ls : Array Slot), i + d = n → va_P (dC, dI) vwCl [(g0, .inr (1, [.ref g1, .int (nI 0), .ref g2, .int (nI n), .int (bI false), .int fp, .int (nI st), .int mt, .int bg])), (g1, .inl (cA, 1000, .inl (fun j => nI (tb j)))), (g2, .inl (cA, 1000, .inl (fun j => nI ((cpN kb tb i) j))))] H → va_D A [(g0, .inr (1, [.ref g1, .int (nI 0), .ref g2, .int (nI n), .int (bI false), .int fp, .int (nI st), .int mt, .int bg])), (g1, .inl (cA, 1000, .inl (fun j => nI (tb j)))), (g2, .inl (cA, 1000, .inl (fun j => nI ((cpN kb tb i) j))))] → va_S A s.heap H locs → lv_has ls 2 [(1, .int (nI i)), (0, .ref g0)] → W p l e (headSpec wsX1_read ({ frames := 3, cells := 0, slots := 0, locals := 66 })).room s m ([.ref g0] : List Value).toArray below meth c H locs 0 0 (MQ below (va_Qi (fun (r : Int32) (u : MS) => r = nI k ∧ ∃ (st' : Nat) (mt' bg' : Int32), u = (tb, 0, cpN kb tb n, n, true, -1, st', mt', bg')) (matt dC dI g0 g1 g2 cA A) A) ([.ref g0] : List Value).toArray s 0 0 A) (F0 m 20 ls []) := by
    intro d
    induction d with
    | zero =>
      intro i H locs ls hid hP hD hS hl
      obtain rfl : i = n := by omega
      refine lv_iload_n hx hb dX1_read_20 rfl (lv_at hl 0 rfl) ?_
      refine lv_aload_n hx hb dX1_read_21 rfl (lv_at hl 1 rfl) ?_
      refine va_get (D := (dC, dI)) (ci := 1) (v := .int (nI i)) (C := RX1) (T := TX1) (N := 9) hx hb hts hIn hown hK hP 0 rfl rfl 3 (by decide) (hts (.fieldLink RX1 44 RX1 "length" "I") (by decide +kernel)) (fun _ h9 => h9) rfl dX1_read_22 ?_
      refine lv_icmp_ge (tgt := 46) hx hb dX1_read_25 (by decide) (fun c_13 => ?_) (fun c_13 => ?_)
      · have c_13 : i ≤ i := (nI_leI (a := i) (b := i) (by omega) (by omega)).mp c_13
        refine lv_aload_n hx hb dX1_read_46 rfl (lv_at hl 1 rfl) ?_
        refine lv_iconst (v := 0) hx hb dX1_read_47 (by decide) ?_
        refine va_put (D := (dC, dI)) (ci := 1) (v := .int 0) (ty := .int) (C := RX1) (T := TX1) (N := 9) hx hb hts hIn tyX1 tyX1_ok nmX1 hown hK hP hD hS 0 rfl rfl 6 (by decide) (hts (.fieldLink RX1 41 RX1 "stand" "I") (by decide +kernel)) (fun _ h9 => h9) rfl (by decide +kernel) rfl rfl (Nat.le_of_ble_eq_true rfl) dX1_read_48 (fun H locs hP hD hS => ?_)
        have hP : va_P (dC, dI) vwCl [(g0, .inr (1, [.ref g1, .int (nI 0), .ref g2, .int (nI i), .int (bI false), .int fp, .int 0, .int mt, .int bg])), (g1, .inl (cA, 1000, .inl (fun j => nI (tb j)))), (g2, .inl (cA, 1000, .inl (fun j => nI ((cpN kb tb i) j))))] H := hP
        have hD : va_D A [(g0, .inr (1, [.ref g1, .int (nI 0), .ref g2, .int (nI i), .int (bI false), .int fp, .int 0, .int mt, .int bg])), (g1, .inl (cA, 1000, .inl (fun j => nI (tb j)))), (g2, .inl (cA, 1000, .inl (fun j => nI ((cpN kb tb i) j))))] := hD
        exact loop2 i 0 fp H locs ls (by omega) (by omega) hp hP hD hS (lv_sub hl [1] rfl)
      · exact absurd (nI_le (by omega) (by omega)) c_13
    | succ d ih =>
      intro i H locs ls hid hP hD hS hl
      refine lv_iload_n hx hb dX1_read_20 rfl (lv_at hl 0 rfl) ?_
      refine lv_aload_n hx hb dX1_read_21 rfl (lv_at hl 1 rfl) ?_
      refine va_get (D := (dC, dI)) (ci := 1) (v := .int (nI n)) (C := RX1) (T := TX1) (N := 9) hx hb hts hIn hown hK hP 0 rfl rfl 3 (by decide) (hts (.fieldLink RX1 44 RX1 "length" "I") (by decide +kernel)) (fun _ h9 => h9) rfl dX1_read_22 ?_
      refine lv_icmp_ge (tgt := 46) hx hb dX1_read_25 (by decide) (fun c_14 => ?_) (fun c_14 => ?_)
      · exact absurd c_14 (nI_ge (by omega) (by omega))
      · have c_14 : ¬ n ≤ i := fun zz => c_14 ((nI_leI (a := n) (b := i) (by omega) (by omega)).mpr zz)
        refine lv_aload_n hx hb dX1_read_28 rfl (lv_at hl 1 rfl) ?_
        refine va_get (D := (dC, dI)) (ci := 1) (v := .ref g2) (C := RX1) (T := TX1) (N := 9) hx hb hts hIn hown hK hP 0 rfl rfl 2 (by decide) (hts (.fieldLink RX1 13 RX1 "kept" "[I") (by decide +kernel)) (fun _ h9 => h9) rfl dX1_read_29 ?_
        refine lv_iload_n hx hb dX1_read_32 rfl (lv_at hl 0 rfl) ?_
        refine lv_aload_n hx hb dX1_read_33 rfl (lv_at hl 1 rfl) ?_
        refine va_get (D := (dC, dI)) (ci := 1) (v := .ref g1) (C := RX1) (T := TX1) (N := 9) hx hb hts hIn hown hK hP 0 rfl rfl 0 (by decide) (hts (.fieldLink RX1 7 RX1 "text" "[I") (by decide +kernel)) (fun _ h9 => h9) rfl dX1_read_34 ?_
        refine lv_iload_n hx hb dX1_read_37 rfl (lv_at hl 0 rfl) ?_
        refine va_iald hx hb hK hP 1 0 rfl rfl (vp_in_nI (n := i) (by omega) (by omega)) dX1_read_38 ?_
        refine lv_topi (fun x_15 ex_15 => ?_)
        obtain rfl : x_15 = nI (tb i) := ex_15.trans (congrArg (fun j => nI (tb j)) ((nI_clamp (by omega))))
        refine va_iast hx hb hK hP hD hS 2 0 rfl rfl (vp_in_nI (by omega) (by omega)) dX1_read_39 (fun H locs hP hD hS => ?_)
        rw [nI_clamp (by omega), upd_nI] at hP hD
        have hP : va_P (dC, dI) vwCl [(g0, .inr (1, [.ref g1, .int (nI 0), .ref g2, .int (nI n), .int (bI false), .int fp, .int (nI st), .int mt, .int bg])), (g1, .inl (cA, 1000, .inl (fun j => nI (tb j)))), (g2, .inl (cA, 1000, .inl (fun j => nI ((updN (cpN kb tb i) i (tb i)) j))))] H := hP
        have hD : va_D A [(g0, .inr (1, [.ref g1, .int (nI 0), .ref g2, .int (nI n), .int (bI false), .int fp, .int (nI st), .int mt, .int bg])), (g1, .inl (cA, 1000, .inl (fun j => nI (tb j)))), (g2, .inl (cA, 1000, .inl (fun j => nI ((updN (cpN kb tb i) i (tb i)) j))))] := hD
        refine lv_iinc (v := nI (i + 1)) (lv' := [(1, .int (nI (i + 1))), (0, .ref g0)]) hx hb dX1_read_40 hl (k := 0) rfl (nI_1 i) (by decide) rfl (fun ls hl => ?_)
        refine lv_goto (tgt := 20) hx hb dX1_read_43 (by decide) ?_
        rw [cpN_s] at hP hD
        exact ih (i + 1) H locs ls (by omega) hP hD hS (lv_sub hl [0, 1] rfl)
  refine lv_aload_n hx hb dX1_read_0 rfl (lv_at hl 0 rfl) ?_
  refine lv_aload_n hx hb dX1_read_1 rfl (lv_at hl 0 rfl) ?_
  refine va_get (D := (dC, dI)) (ci := 1) (v := .int (nI n)) (C := RX1) (T := TX1) (N := 9) hx hb hts hIn hown hK hP 0 rfl rfl 1 (by decide) (hts (.fieldLink RX1 20 RX1 "size" "I") (by decide +kernel)) (fun _ h9 => h9) rfl dX1_read_2 ?_
  refine va_put (D := (dC, dI)) (ci := 1) (v := .int (nI n)) (ty := .int) (C := RX1) (T := TX1) (N := 9) hx hb hts hIn tyX1 tyX1_ok nmX1 hown hK hP hD hS 0 rfl rfl 3 (by decide) (hts (.fieldLink RX1 44 RX1 "length" "I") (by decide +kernel)) (fun _ h9 => h9) rfl (by decide +kernel) rfl rfl (Nat.le_of_ble_eq_true rfl) dX1_read_5 (fun H locs hP hD hS => ?_)
  have hP : va_P (dC, dI) vwCl [(g0, .inr (1, [.ref g1, .int (nI n), .ref g2, .int (nI n), .int (bI rd), .int fp, .int (nI st), .int mt, .int bg])), (g1, .inl (cA, 1000, .inl (fun j => nI (tb j)))), (g2, .inl (cA, 1000, .inl (fun j => nI (kb j))))] H := hP
  have hD : va_D A [(g0, .inr (1, [.ref g1, .int (nI n), .ref g2, .int (nI n), .int (bI rd), .int fp, .int (nI st), .int mt, .int bg])), (g1, .inl (cA, 1000, .inl (fun j => nI (tb j)))), (g2, .inl (cA, 1000, .inl (fun j => nI (kb j))))] := hD
  refine lv_aload_n hx hb dX1_read_8 rfl (lv_at hl 0 rfl) ?_
  refine lv_iconst (v := 0) hx hb dX1_read_9 (by decide) ?_
  refine va_put (D := (dC, dI)) (ci := 1) (v := .int 0) (ty := .int) (C := RX1) (T := TX1) (N := 9) hx hb hts hIn tyX1 tyX1_ok nmX1 hown hK hP hD hS 0 rfl rfl 1 (by decide) (hts (.fieldLink RX1 20 RX1 "size" "I") (by decide +kernel)) (fun _ h9 => h9) rfl (by decide +kernel) rfl rfl (Nat.le_of_ble_eq_true rfl) dX1_read_10 (fun H locs hP hD hS => ?_)
  have hP : va_P (dC, dI) vwCl [(g0, .inr (1, [.ref g1, .int 0, .ref g2, .int (nI n), .int (bI rd), .int fp, .int (nI st), .int mt, .int bg])), (g1, .inl (cA, 1000, .inl (fun j => nI (tb j)))), (g2, .inl (cA, 1000, .inl (fun j => nI (kb j))))] H := hP
  have hD : va_D A [(g0, .inr (1, [.ref g1, .int 0, .ref g2, .int (nI n), .int (bI rd), .int fp, .int (nI st), .int mt, .int bg])), (g1, .inl (cA, 1000, .inl (fun j => nI (tb j)))), (g2, .inl (cA, 1000, .inl (fun j => nI (kb j))))] := hD
  refine lv_aload_n hx hb dX1_read_13 rfl (lv_at hl 0 rfl) ?_
  refine lv_iconst (v := 0) hx hb dX1_read_14 (by decide) ?_
  refine va_put (D := (dC, dI)) (ci := 1) (v := .int 0) (ty := .boolean) (C := RX1) (T := TX1) (N := 9) hx hb hts hIn tyX1 tyX1_ok nmX1 hown hK hP hD hS 0 rfl rfl 4 (by decide) (hts (.fieldLink RX1 60 RX1 "read" "Z") (by decide +kernel)) (fun _ h9 => h9) rfl (by decide +kernel) rfl rfl (Nat.le_of_ble_eq_true rfl) dX1_read_15 (fun H locs hP hD hS => ?_)
  have hP : va_P (dC, dI) vwCl [(g0, .inr (1, [.ref g1, .int 0, .ref g2, .int (nI n), .int 0, .int fp, .int (nI st), .int mt, .int bg])), (g1, .inl (cA, 1000, .inl (fun j => nI (tb j)))), (g2, .inl (cA, 1000, .inl (fun j => nI (kb j))))] H := hP
  have hD : va_D A [(g0, .inr (1, [.ref g1, .int 0, .ref g2, .int (nI n), .int 0, .int fp, .int (nI st), .int mt, .int bg])), (g1, .inl (cA, 1000, .inl (fun j => nI (tb j)))), (g2, .inl (cA, 1000, .inl (fun j => nI (kb j))))] := hD
  refine lv_iconst (v := 0) hx hb dX1_read_18 (by decide) ?_
  refine lv_istore_n (lv' := [(1, .int 0), (0, .ref g0)]) hx hb dX1_read_19 rfl hl (by decide) rfl (fun ls hl => ?_)
  exact loop1 n 0 H locs ls (by omega) (by rw [cpN_0]; exact hP) (by rw [cpN_0]; exact hD) hS (lv_sub hl [0, 1] rfl)
end
section
set_option maxHeartbeats 4000000 in
set_option maxRecDepth 100000 in
theorem c_X1_go_off (l : Launch) (dC : Nat → ClassId) (dI : Nat → Nat → Nat) (g0 g1 g2 : Nat) (cA : ClassId) (sz : Nat) (tb : Nat → Nat) (n : Nat) (kb : Nat → Nat) (ln : Nat) (rd : Bool) (fp : Int32) (st : Nat) (mt bg : Int32) (i : Int32) (hoff : rd = false ∨ i < 0) : Met l yX1_go wsX1_go ({ frames := 3, cells := 0, slots := 0, locals := 66 }) (va_Pc [.ref g0, .int i] (fun U => mmut dC dI g0 g1 g2 cA sz (tb, n, kb, ln, rd, fp, st, mt, bg) U)) (va_Qi (fun (r : Int32) (u : MS) => r = 0 ∧ u = (tb, n, kb, ln, rd, fp, 0, mt, bg)) (matt dC dI g0 g1 g2 cA (va_A (mw g0 g1 g2 cA (tb, n, kb, ln, rd, fp, st, mt, bg)) sz)) (va_A (mw g0 g1 g2 cA (tb, n, kb, ln, rd, fp, st, mt, bg)) sz)) 0 0 (va_A (mw g0 g1 g2 cA (tb, n, kb, ln, rd, fp, st, mt, bg)) sz) := by
  refine Met.ofW (cc := cX1_go) (maxL := 4) (ret := (some .boolean)) (by decide) rfl ?_
  intro p e s m args below meth c s₁ B hml hv
  obtain ⟨rfl, hsz, hP, hK, hD0⟩ := hv
  have hx := B.exec
  have hb := B.bytes
  have hr := B.returns
  have hts := atoms_spec (ws := wsX1_go) B.pre
  have hown : s.vm.findClass RX1 = some m.cls := findClass_of_methodNamed B.named
  subst hsz
  have hD := hD0.self (sz := s.heap.size)
  generalize hAe : va_A (mw g0 g1 g2 cA (tb, n, kb, ln, rd, fp, st, mt, bg)) s.heap.size = A at hD ⊢
  have hA : ∀ q : Nat, s.heap.size ≤ q → A q := fun q h => by rw [← hAe]; exact Or.inr h
  have hS : va_S A s.heap s.heap [] := va_S.rf
  have hP : va_P (dC, dI) vwCl [(g0, .inr (1, [.ref g1, .int (nI n), .ref g2, .int (nI ln), .int (bI rd), .int fp, .int (nI st), .int mt, .int bg])), (g1, .inl (cA, 1000, .inl (fun j => nI (tb j)))), (g2, .inl (cA, 1000, .inl (fun j => nI (kb j))))] s.heap := hP
  have hD : va_D A [(g0, .inr (1, [.ref g1, .int (nI n), .ref g2, .int (nI ln), .int (bI rd), .int fp, .int (nI st), .int mt, .int bg])), (g1, .inl (cA, 1000, .inl (fun j => nI (tb j)))), (g2, .inl (cA, 1000, .inl (fun j => nI (kb j))))] := hD
  have hIn : ∀ w ∈ wsX10, w ∈ wsX1_go := by decide +kernel
  have hl := lv_entry ([.ref g0, .int i]) (n := 4) (Nat.le_of_ble_eq_true rfl)
  rw [lg_entry_eq]
  generalize (lg_sl ([.ref g0, .int i]) ++ List.replicate (4 - (lg_sl ([.ref g0, .int i])).length) Slot.unset).toArray = ls at hl ⊢
  have hl : lv_has ls 4 [(0, .ref g0), (1, .int i)] := hl
  refine lv_aload_n hx hb dX1_go_0 rfl (lv_at hl 0 rfl) ?_
  refine lv_iconst (v := 0) hx hb dX1_go_1 (by decide) ?_
  refine va_put (D := (dC, dI)) (ci := 1) (v := .int 0) (ty := .int) (C := RX1) (T := TX1) (N := 9) hx hb hts hIn tyX1 tyX1_ok nmX1 hown hK hP hD hS 0 rfl rfl 6 (by decide) (hts (.fieldLink RX1 41 RX1 "stand" "I") (by decide +kernel)) (fun _ h9 => h9) rfl (by decide +kernel) rfl rfl (Nat.le_of_ble_eq_true rfl) dX1_go_2 (fun H locs hP hD hS => ?_)
  have hP : va_P (dC, dI) vwCl [(g0, .inr (1, [.ref g1, .int (nI n), .ref g2, .int (nI ln), .int (bI rd), .int fp, .int 0, .int mt, .int bg])), (g1, .inl (cA, 1000, .inl (fun j => nI (tb j)))), (g2, .inl (cA, 1000, .inl (fun j => nI (kb j))))] H := hP
  have hD : va_D A [(g0, .inr (1, [.ref g1, .int (nI n), .ref g2, .int (nI ln), .int (bI rd), .int fp, .int 0, .int mt, .int bg])), (g1, .inl (cA, 1000, .inl (fun j => nI (tb j)))), (g2, .inl (cA, 1000, .inl (fun j => nI (kb j))))] := hD
  refine lv_aload_n hx hb dX1_go_5 rfl (lv_at hl 0 rfl) ?_
  refine va_get (D := (dC, dI)) (ci := 1) (v := .int (bI rd)) (C := RX1) (T := TX1) (N := 9) hx hb hts hIn hown hK hP 0 rfl rfl 4 (by decide) (hts (.fieldLink RX1 60 RX1 "read" "Z") (by decide +kernel)) (fun _ h9 => h9) rfl dX1_go_6 ?_
  refine lv_if_eq (tgt := 20) hx hb dX1_go_9 (by decide) (fun c_1 => ?_) (fun c_1 => ?_)
  · have c_1 := bI_0 c_1
    refine lv_iconst (v := 0) hx hb dX1_go_20 (by decide) ?_
    refine lv_istore_n (lv' := [(2, .int 0), (0, .ref g0), (1, .int i)]) hx hb dX1_go_21 rfl hl (by decide) rfl (fun ls hl => ?_)
    refine lv_iconst (v := 0) hx hb dX1_go_22 (by decide) ?_
    refine lv_istore_n (lv' := [(3, .int 0), (2, .int 0), (0, .ref g0), (1, .int i)]) hx hb dX1_go_23 rfl hl (by decide) rfl (fun ls hl => ?_)
    refine lv_iload_n hx hb dX1_go_24 rfl (lv_at hl 0 rfl) ?_
    refine lv_iload_n hx hb dX1_go_25 rfl (lv_at hl 3 rfl) ?_
    refine lv_icmp_gt (tgt := 44) hx hb dX1_go_26 (by decide) (fun c_2 => ?_) (fun c_2 => ?_)
    · refine lv_iload_n hx hb dX1_go_44 rfl (lv_at hl 1 rfl) ?_
      have hP9 : va_P (dC, dI) vwCl (mw g0 g1 g2 cA (tb, n, kb, ln, rd, fp, 0, mt, bg)) H := hP
      have hD9 : va_D A (mw g0 g1 g2 cA (tb, n, kb, ln, rd, fp, 0, mt, bg)) := hD
      exact W.zret (v := 0) (ty := .boolean) hx hb hr (rfl) (fun t ht hW => ⟨⟨0, (tb, n, kb, ln, rd, fp, 0, mt, bg), rfl, ⟨rfl, rfl⟩, by rw [ht]; exact hP9, va_K.moved hW.alike hK, hD9⟩, hS.F ht⟩) hS.2.2 dX1_go_45
    · refine lv_iload_n hx hb dX1_go_29 rfl (lv_at hl 1 rfl) ?_
      refine lv_if_eq (tgt := 44) hx hb dX1_go_30 (by decide) (fun c_3 => ?_) (fun c_3 => ?_)
      · refine lv_iload_n hx hb dX1_go_44 rfl (lv_at hl 1 rfl) ?_
        have hP9 : va_P (dC, dI) vwCl (mw g0 g1 g2 cA (tb, n, kb, ln, rd, fp, 0, mt, bg)) H := hP
        have hD9 : va_D A (mw g0 g1 g2 cA (tb, n, kb, ln, rd, fp, 0, mt, bg)) := hD
        exact W.zret (v := 0) (ty := .boolean) hx hb hr (rfl) (fun t ht hW => ⟨⟨0, (tb, n, kb, ln, rd, fp, 0, mt, bg), rfl, ⟨rfl, rfl⟩, by rw [ht]; exact hP9, va_K.moved hW.alike hK, hD9⟩, hS.F ht⟩) hS.2.2 dX1_go_45
      · exact absurd c_3 (by decide)
  · have c_1 := bI_n0 c_1
    refine lv_iload_n hx hb dX1_go_12 rfl (lv_at hl 1 rfl) ?_
    refine lv_if_lt (tgt := 20) hx hb dX1_go_13 (by decide) (fun c_4 => ?_) (fun c_4 => ?_)
    · refine lv_iconst (v := 0) hx hb dX1_go_20 (by decide) ?_
      refine lv_istore_n (lv' := [(2, .int 0), (0, .ref g0), (1, .int i)]) hx hb dX1_go_21 rfl hl (by decide) rfl (fun ls hl => ?_)
      refine lv_iconst (v := 0) hx hb dX1_go_22 (by decide) ?_
      refine lv_istore_n (lv' := [(3, .int 0), (2, .int 0), (0, .ref g0), (1, .int i)]) hx hb dX1_go_23 rfl hl (by decide) rfl (fun ls hl => ?_)
      refine lv_iload_n hx hb dX1_go_24 rfl (lv_at hl 0 rfl) ?_
      refine lv_iload_n hx hb dX1_go_25 rfl (lv_at hl 3 rfl) ?_
      refine lv_icmp_gt (tgt := 44) hx hb dX1_go_26 (by decide) (fun c_5 => ?_) (fun c_5 => ?_)
      · refine lv_iload_n hx hb dX1_go_44 rfl (lv_at hl 1 rfl) ?_
        have hP9 : va_P (dC, dI) vwCl (mw g0 g1 g2 cA (tb, n, kb, ln, rd, fp, 0, mt, bg)) H := hP
        have hD9 : va_D A (mw g0 g1 g2 cA (tb, n, kb, ln, rd, fp, 0, mt, bg)) := hD
        exact W.zret (v := 0) (ty := .boolean) hx hb hr (rfl) (fun t ht hW => ⟨⟨0, (tb, n, kb, ln, rd, fp, 0, mt, bg), rfl, ⟨rfl, rfl⟩, by rw [ht]; exact hP9, va_K.moved hW.alike hK, hD9⟩, hS.F ht⟩) hS.2.2 dX1_go_45
      · exact absurd c_4 c_5
    · exact absurd hoff (by rintro (q | q); exact absurd q (by rw [c_1]; decide); exact c_4 q)
set_option maxHeartbeats 4000000 in
set_option maxRecDepth 100000 in
theorem c_X1_go_yes (l : Launch) (dC : Nat → ClassId) (dI : Nat → Nat → Nat) (g0 g1 g2 : Nat) (cA : ClassId) (sz : Nat) (tb : Nat → Nat) (n : Nat) (kb : Nat → Nat) (ln : Nat) (rd : Bool) (fp : Int32) (st : Nat) (mt bg : Int32) (hkb : ∀ j, kb j < 256) (hln : ln ≤ 1000) (k : Nat) (mf bf sg : Nat → Nat) (hch : Chain kb ln k mf bf sg) (j : Nat) (hj : j < k) (hk : k ≤ 1000) (hrd : rd = true) : Met l yX1_go wsX1_go ({ frames := 3, cells := 0, slots := 0, locals := 66 }) (va_Pc [.ref g0, .int (nI j)] (fun U => mmut dC dI g0 g1 g2 cA sz (tb, n, kb, ln, rd, fp, st, mt, bg) U)) (va_Qi (fun (r : Int32) (u : MS) => r = 1 ∧ u = (tb, n, kb, ln, rd, fp, sg (j + 1), nI (mf j), nI (bf j))) (matt dC dI g0 g1 g2 cA (va_A (mw g0 g1 g2 cA (tb, n, kb, ln, rd, fp, st, mt, bg)) sz)) (va_A (mw g0 g1 g2 cA (tb, n, kb, ln, rd, fp, st, mt, bg)) sz)) 0 0 (va_A (mw g0 g1 g2 cA (tb, n, kb, ln, rd, fp, st, mt, bg)) sz) := by
  refine Met.ofW (cc := cX1_go) (maxL := 4) (ret := (some .boolean)) (by decide) rfl ?_
  intro p e s m args below meth c s₁ B hml hv
  obtain ⟨rfl, hsz, hP, hK, hD0⟩ := hv
  have hx := B.exec
  have hb := B.bytes
  have hr := B.returns
  have hts := atoms_spec (ws := wsX1_go) B.pre
  have hown : s.vm.findClass RX1 = some m.cls := findClass_of_methodNamed B.named
  subst hsz
  have hD := hD0.self (sz := s.heap.size)
  generalize hAe : va_A (mw g0 g1 g2 cA (tb, n, kb, ln, rd, fp, st, mt, bg)) s.heap.size = A at hD ⊢
  have hA : ∀ q : Nat, s.heap.size ≤ q → A q := fun q h => by rw [← hAe]; exact Or.inr h
  have hS : va_S A s.heap s.heap [] := va_S.rf
  have hP : va_P (dC, dI) vwCl [(g0, .inr (1, [.ref g1, .int (nI n), .ref g2, .int (nI ln), .int (bI rd), .int fp, .int (nI st), .int mt, .int bg])), (g1, .inl (cA, 1000, .inl (fun j => nI (tb j)))), (g2, .inl (cA, 1000, .inl (fun j => nI (kb j))))] s.heap := hP
  have hD : va_D A [(g0, .inr (1, [.ref g1, .int (nI n), .ref g2, .int (nI ln), .int (bI rd), .int fp, .int (nI st), .int mt, .int bg])), (g1, .inl (cA, 1000, .inl (fun j => nI (tb j)))), (g2, .inl (cA, 1000, .inl (fun j => nI (kb j))))] := hD
  have hIn : ∀ w ∈ wsX10, w ∈ wsX1_go := by decide +kernel
  have hl := lv_entry ([.ref g0, .int (nI j)]) (n := 4) (Nat.le_of_ble_eq_true rfl)
  rw [lg_entry_eq]
  generalize (lg_sl ([.ref g0, .int (nI j)]) ++ List.replicate (4 - (lg_sl ([.ref g0, .int (nI j)])).length) Slot.unset).toArray = ls at hl ⊢
  have hl : lv_has ls 4 [(0, .ref g0), (1, .int (nI j))] := hl
  have hsgb := chain_sg hkb hch
  have loop : ∀ (d q : Nat) (mt2 bg2 : Int32) (H : Heap) (locs : List Loc) (ls : Array Slot), q + d = j + 1 → (∀ z, q = z + 1 → mt2 = nI (mf z) ∧ bg2 = nI (bf z)) → va_P (dC, dI) vwCl [(g0, .inr (1, [.ref g1, .int (nI n), .ref g2, .int (nI ln), .int (bI rd), .int fp, .int (nI (sg q)), .int mt2, .int bg2])), (g1, .inl (cA, 1000, .inl (fun j => nI (tb j)))), (g2, .inl (cA, 1000, .inl (fun j => nI (kb j))))] H → va_D A [(g0, .inr (1, [.ref g1, .int (nI n), .ref g2, .int (nI ln), .int (bI rd), .int fp, .int (nI (sg q)), .int mt2, .int bg2])), (g1, .inl (cA, 1000, .inl (fun j => nI (tb j)))), (g2, .inl (cA, 1000, .inl (fun j => nI (kb j))))] → va_S A s.heap H locs → lv_has ls 4 [(3, .int (nI q)), (2, .int 1), (0, .ref g0), (1, .int (nI j))] → W p l e (headSpec wsX1_go ({ frames := 3, cells := 0, slots := 0, locals := 66 })).room s m ([.ref g0, .int (nI j)] : List Value).toArray below meth c H locs 0 0 (MQ below (va_Qi (fun (r : Int32) (u : MS) => r = 1 ∧ u = (tb, n, kb, ln, rd, fp, sg (j + 1), nI (mf j), nI (bf j))) (matt dC dI g0 g1 g2 cA A) A) ([.ref g0, .int (nI j)] : List Value).toArray s 0 0 A) (F0 m 24 ls []) := by
    intro d
    induction d with
    | zero =>
      intro q mt2 bg2 H locs ls hqd hmb hP hD hS hl
      obtain ⟨hm2, hb2⟩ := hmb j (by omega)
      refine lv_iload_n hx hb dX1_go_24 rfl (lv_at hl 0 rfl) ?_
      refine lv_iload_n hx hb dX1_go_25 rfl (lv_at hl 3 rfl) ?_
      refine lv_icmp_gt (tgt := 44) hx hb dX1_go_26 (by decide) (fun c_1 => ?_) (fun c_1 => ?_)
      · have c_1 : j < q := (nI_ltI (a := j) (b := q) (by omega) (by omega)).mp c_1
        refine lv_iload_n hx hb dX1_go_44 rfl (lv_at hl 1 rfl) ?_
        have hP9 : va_P (dC, dI) vwCl (mw g0 g1 g2 cA (tb, n, kb, ln, rd, fp, (sg q), mt2, bg2)) H := hP
        have hD9 : va_D A (mw g0 g1 g2 cA (tb, n, kb, ln, rd, fp, (sg q), mt2, bg2)) := hD
        exact W.zret (v := 1) (ty := .boolean) hx hb hr (rfl) (fun t ht hW => ⟨⟨1, (tb, n, kb, ln, rd, fp, (sg q), mt2, bg2), rfl, ⟨rfl, by rw [hm2, hb2, show q = j + 1 by omega]⟩, by rw [ht]; exact hP9, va_K.moved hW.alike hK, hD9⟩, hS.F ht⟩) hS.2.2 dX1_go_45
      · exact absurd (nI_lt (by omega) (by omega)) c_1
    | succ d ih =>
      intro q mt2 bg2 H locs ls hqd hmb hP hD hS hl
      have hqk : q < k := by omega
      have hsb := hsgb q (by omega)
      refine lv_iload_n hx hb dX1_go_24 rfl (lv_at hl 0 rfl) ?_
      refine lv_iload_n hx hb dX1_go_25 rfl (lv_at hl 3 rfl) ?_
      refine lv_icmp_gt (tgt := 44) hx hb dX1_go_26 (by decide) (fun c_2 => ?_) (fun c_2 => ?_)
      · exact absurd c_2 (nI_nlt (by omega) (by omega))
      · have c_2 : ¬ j < q := fun zz => c_2 ((nI_ltI (a := j) (b := q) (by omega) (by omega)).mpr zz)
        refine lv_iload_n hx hb dX1_go_29 rfl (lv_at hl 1 rfl) ?_
        refine lv_if_eq (tgt := 44) hx hb dX1_go_30 (by decide) (fun c_3 => ?_) (fun c_3 => ?_)
        · exact absurd c_3 (by decide)
        · have c_3 : ¬ 1 = 0 := fun zz => c_3 ((nI_eq (a := 1) (b := 0) (by omega) (by omega)).mpr zz)
          refine lv_aload_n hx hb dX1_go_33 rfl (lv_at hl 2 rfl) ?_
          have hFc := va_free (wc := mw g0 g1 g2 cA (tb, n, kb, ln, rd, fp, (sg q), mt2, bg2)) hD hS hA [0, 1, 2] rfl
          obtain ⟨hgo, v_4, w_4, hsq, hmf, hbf, hsg⟩ := hch.2.1 q hqk
          have hlt_4 := seqN_lt hkb hsq
          refine va_calli (va_runV (As := []) (rest := []) ⟨hx, hb, hml, hown, hts⟩ (c_X1_next_some l dC dI g0 g1 g2 cA H.size tb n kb ln rd fp (sg q) mt2 bg2 hkb hln (by omega) v_4 w_4 hgo hsq) (cwV 0 hts gX1_go_X1_next rfl rfl rfl (by decide +kernel) ⟨Nat.le_of_ble_eq_true rfl, Nat.le_of_ble_eq_true rfl⟩) ⟨mmut_blind, va_recv hK hP (ci := 1) (q0 := 0) rfl rfl, fun U hU hW => ⟨rfl, mmut_of hP hK hD hU hW⟩⟩ rfl rfl hl.1 rfl (lv_room (Nat.le_of_ble_eq_true rfl)) dX1_go_34 ⟨Nat.le_of_ble_eq_true rfl, Nat.le_of_ble_eq_true rfl⟩) hS (fun q _ h => hFc q h) hFc (fun r_4 u_4 t_4 H1 locs ht hvm hw hB hz1 hk1 hS => ?_)
          obtain ⟨hw0, hw1⟩ := hw
          rw [← hmf, ← hsg, ← hbf] at hw1
          obtain rfl : r_4 = 1 := hw0
          obtain rfl : u_4 = (tb, n, kb, ln, rd, fp, (sg (q + 1)), (nI (mf q)), (nI (bf q))) := hw1
          obtain ⟨hP1, hK1, hD1⟩ := hB
          rw [ht] at hP1
          obtain ⟨hP, hD⟩ := va_join (wr := []) (w1 := mw g0 g1 g2 cA (tb, n, kb, ln, rd, fp, (sg (q + 1)), (nI (mf q)), (nI (bf q)))) hP hD [0, 1, 2] [] rfl rfl (by decide) (by decide) hk1 hFc hP1 hD1
          generalize H1 = H at hP hS ⊢
          have hP : va_P (dC, dI) vwCl [(g0, .inr (1, [.ref g1, .int (nI n), .ref g2, .int (nI ln), .int (bI rd), .int fp, .int (nI (sg (q + 1))), .int (nI (mf q)), .int (nI (bf q))])), (g1, .inl (cA, 1000, .inl (fun j => nI (tb j)))), (g2, .inl (cA, 1000, .inl (fun j => nI (kb j))))] H := hP
          have hD : va_D A [(g0, .inr (1, [.ref g1, .int (nI n), .ref g2, .int (nI ln), .int (bI rd), .int fp, .int (nI (sg (q + 1))), .int (nI (mf q)), .int (nI (bf q))])), (g1, .inl (cA, 1000, .inl (fun j => nI (tb j)))), (g2, .inl (cA, 1000, .inl (fun j => nI (kb j))))] := hD
          refine lv_istore_n (lv' := [(2, .int 1), (3, .int (nI q)), (0, .ref g0), (1, .int (nI j))]) hx hb dX1_go_37 rfl hl (by decide) rfl (fun ls hl => ?_)
          refine lv_iinc (v := nI (q + 1)) (lv' := [(3, .int (nI (q + 1))), (2, .int 1), (0, .ref g0), (1, .int (nI j))]) hx hb dX1_go_38 hl (k := 1) rfl (nI_1 q) (by decide) rfl (fun ls hl => ?_)
          refine lv_goto (tgt := 24) hx hb dX1_go_41 (by decide) ?_
          exact ih (q + 1) _ _ H locs ls (by omega) (fun z hz => by rw [show z = q by omega]; exact ⟨rfl, rfl⟩) hP hD hS (lv_sub hl [0, 1, 2, 3] rfl)
  refine lv_aload_n hx hb dX1_go_0 rfl (lv_at hl 0 rfl) ?_
  refine lv_iconst (v := 0) hx hb dX1_go_1 (by decide) ?_
  refine va_put (D := (dC, dI)) (ci := 1) (v := .int 0) (ty := .int) (C := RX1) (T := TX1) (N := 9) hx hb hts hIn tyX1 tyX1_ok nmX1 hown hK hP hD hS 0 rfl rfl 6 (by decide) (hts (.fieldLink RX1 41 RX1 "stand" "I") (by decide +kernel)) (fun _ h9 => h9) rfl (by decide +kernel) rfl rfl (Nat.le_of_ble_eq_true rfl) dX1_go_2 (fun H locs hP hD hS => ?_)
  have hP : va_P (dC, dI) vwCl [(g0, .inr (1, [.ref g1, .int (nI n), .ref g2, .int (nI ln), .int (bI rd), .int fp, .int 0, .int mt, .int bg])), (g1, .inl (cA, 1000, .inl (fun j => nI (tb j)))), (g2, .inl (cA, 1000, .inl (fun j => nI (kb j))))] H := hP
  have hD : va_D A [(g0, .inr (1, [.ref g1, .int (nI n), .ref g2, .int (nI ln), .int (bI rd), .int fp, .int 0, .int mt, .int bg])), (g1, .inl (cA, 1000, .inl (fun j => nI (tb j)))), (g2, .inl (cA, 1000, .inl (fun j => nI (kb j))))] := hD
  refine lv_aload_n hx hb dX1_go_5 rfl (lv_at hl 0 rfl) ?_
  refine va_get (D := (dC, dI)) (ci := 1) (v := .int (bI rd)) (C := RX1) (T := TX1) (N := 9) hx hb hts hIn hown hK hP 0 rfl rfl 4 (by decide) (hts (.fieldLink RX1 60 RX1 "read" "Z") (by decide +kernel)) (fun _ h9 => h9) rfl dX1_go_6 ?_
  refine lv_if_eq (tgt := 20) hx hb dX1_go_9 (by decide) (fun c_5 => ?_) (fun c_5 => ?_)
  · exact absurd hrd (bI_0 c_5)
  · have c_5 := bI_n0 c_5
    refine lv_iload_n hx hb dX1_go_12 rfl (lv_at hl 1 rfl) ?_
    refine lv_if_lt (tgt := 20) hx hb dX1_go_13 (by decide) (fun c_6 => ?_) (fun c_6 => ?_)
    · exact absurd c_6 (nI_pos (by omega))
    · have c_6 : ¬ j < 0 := fun zz => c_6 ((nI_ltI (a := j) (b := 0) (by omega) (by omega)).mpr zz)
      refine lv_iconst (v := 1) hx hb dX1_go_16 (by decide) ?_
      refine lv_goto (tgt := 21) hx hb dX1_go_17 (by decide) ?_
      refine lv_istore_n (lv' := [(2, .int 1), (0, .ref g0), (1, .int (nI j))]) hx hb dX1_go_21 rfl hl (by decide) rfl (fun ls hl => ?_)
      refine lv_iconst (v := 0) hx hb dX1_go_22 (by decide) ?_
      refine lv_istore_n (lv' := [(3, .int 0), (2, .int 1), (0, .ref g0), (1, .int (nI j))]) hx hb dX1_go_23 rfl hl (by decide) rfl (fun ls hl => ?_)
      exact loop (j + 1) 0 mt bg H locs ls (by omega) (fun z hz => absurd hz (by omega)) (by rw [hch.1]; exact hP) (by rw [hch.1]; exact hD) hS (lv_sub hl [0, 1, 2, 3] rfl)
set_option maxHeartbeats 4000000 in
set_option maxRecDepth 100000 in
theorem c_X1_go_far (l : Launch) (dC : Nat → ClassId) (dI : Nat → Nat → Nat) (g0 g1 g2 : Nat) (cA : ClassId) (sz : Nat) (tb : Nat → Nat) (n : Nat) (kb : Nat → Nat) (ln : Nat) (rd : Bool) (fp : Int32) (st : Nat) (mt bg : Int32) (hkb : ∀ j, kb j < 256) (hln : ln ≤ 1000) (k : Nat) (mf bf sg : Nat → Nat) (hch : Chain kb ln k mf bf sg) (i : Int32) (hk : k ≤ 1000) (hrd : rd = true) (h0i : 0 ≤ i) (hfar : nI k ≤ i) : Met l yX1_go wsX1_go ({ frames := 3, cells := 0, slots := 0, locals := 66 }) (va_Pc [.ref g0, .int i] (fun U => mmut dC dI g0 g1 g2 cA sz (tb, n, kb, ln, rd, fp, st, mt, bg) U)) (va_Qi (fun (r : Int32) (u : MS) => r = 0 ∧ ∃ (st' : Nat) (mt' bg' : Int32), u = (tb, n, kb, ln, rd, fp, st', mt', bg')) (matt dC dI g0 g1 g2 cA (va_A (mw g0 g1 g2 cA (tb, n, kb, ln, rd, fp, st, mt, bg)) sz)) (va_A (mw g0 g1 g2 cA (tb, n, kb, ln, rd, fp, st, mt, bg)) sz)) 0 0 (va_A (mw g0 g1 g2 cA (tb, n, kb, ln, rd, fp, st, mt, bg)) sz) := by
  refine Met.ofW (cc := cX1_go) (maxL := 4) (ret := (some .boolean)) (by decide) rfl ?_
  intro p e s m args below meth c s₁ B hml hv
  obtain ⟨rfl, hsz, hP, hK, hD0⟩ := hv
  have hx := B.exec
  have hb := B.bytes
  have hr := B.returns
  have hts := atoms_spec (ws := wsX1_go) B.pre
  have hown : s.vm.findClass RX1 = some m.cls := findClass_of_methodNamed B.named
  subst hsz
  have hD := hD0.self (sz := s.heap.size)
  generalize hAe : va_A (mw g0 g1 g2 cA (tb, n, kb, ln, rd, fp, st, mt, bg)) s.heap.size = A at hD ⊢
  have hA : ∀ q : Nat, s.heap.size ≤ q → A q := fun q h => by rw [← hAe]; exact Or.inr h
  have hS : va_S A s.heap s.heap [] := va_S.rf
  have hP : va_P (dC, dI) vwCl [(g0, .inr (1, [.ref g1, .int (nI n), .ref g2, .int (nI ln), .int (bI rd), .int fp, .int (nI st), .int mt, .int bg])), (g1, .inl (cA, 1000, .inl (fun j => nI (tb j)))), (g2, .inl (cA, 1000, .inl (fun j => nI (kb j))))] s.heap := hP
  have hD : va_D A [(g0, .inr (1, [.ref g1, .int (nI n), .ref g2, .int (nI ln), .int (bI rd), .int fp, .int (nI st), .int mt, .int bg])), (g1, .inl (cA, 1000, .inl (fun j => nI (tb j)))), (g2, .inl (cA, 1000, .inl (fun j => nI (kb j))))] := hD
  have hIn : ∀ w ∈ wsX10, w ∈ wsX1_go := by decide +kernel
  have hl := lv_entry ([.ref g0, .int i]) (n := 4) (Nat.le_of_ble_eq_true rfl)
  rw [lg_entry_eq]
  generalize (lg_sl ([.ref g0, .int i]) ++ List.replicate (4 - (lg_sl ([.ref g0, .int i])).length) Slot.unset).toArray = ls at hl ⊢
  have hl : lv_has ls 4 [(0, .ref g0), (1, .int i)] := hl
  have hsgb := chain_sg hkb hch
  have loop : ∀ (d q : Nat) (mt2 bg2 : Int32) (H : Heap) (locs : List Loc) (ls : Array Slot), q + d = k → va_P (dC, dI) vwCl [(g0, .inr (1, [.ref g1, .int (nI n), .ref g2, .int (nI ln), .int (bI rd), .int fp, .int (nI (sg q)), .int mt2, .int bg2])), (g1, .inl (cA, 1000, .inl (fun j => nI (tb j)))), (g2, .inl (cA, 1000, .inl (fun j => nI (kb j))))] H → va_D A [(g0, .inr (1, [.ref g1, .int (nI n), .ref g2, .int (nI ln), .int (bI rd), .int fp, .int (nI (sg q)), .int mt2, .int bg2])), (g1, .inl (cA, 1000, .inl (fun j => nI (tb j)))), (g2, .inl (cA, 1000, .inl (fun j => nI (kb j))))] → va_S A s.heap H locs → lv_has ls 4 [(3, .int (nI q)), (2, .int 1), (0, .ref g0), (1, .int i)] → W p l e (headSpec wsX1_go ({ frames := 3, cells := 0, slots := 0, locals := 66 })).room s m ([.ref g0, .int i] : List Value).toArray below meth c H locs 0 0 (MQ below (va_Qi (fun (r : Int32) (u : MS) => r = 0 ∧ ∃ (st' : Nat) (mt' bg' : Int32), u = (tb, n, kb, ln, rd, fp, st', mt', bg')) (matt dC dI g0 g1 g2 cA A) A) ([.ref g0, .int i] : List Value).toArray s 0 0 A) (F0 m 24 ls []) := by
    intro d
    induction d with
    | zero =>
      intro q mt2 bg2 H locs ls hqd hP hD hS hl
      obtain rfl : q = k := by omega
      have hsb := hsgb q (Nat.le_refl _)
      refine lv_iload_n hx hb dX1_go_24 rfl (lv_at hl 0 rfl) ?_
      refine lv_iload_n hx hb dX1_go_25 rfl (lv_at hl 3 rfl) ?_
      refine lv_icmp_gt (tgt := 44) hx hb dX1_go_26 (by decide) (fun c_1 => ?_) (fun c_1 => ?_)
      · exact absurd c_1 (Int32.not_lt.mpr hfar)
      · refine lv_iload_n hx hb dX1_go_29 rfl (lv_at hl 1 rfl) ?_
        refine lv_if_eq (tgt := 44) hx hb dX1_go_30 (by decide) (fun c_2 => ?_) (fun c_2 => ?_)
        · exact absurd c_2 (by decide)
        · have c_2 : ¬ 1 = 0 := fun zz => c_2 ((nI_eq (a := 1) (b := 0) (by omega) (by omega)).mpr zz)
          refine lv_aload_n hx hb dX1_go_33 rfl (lv_at hl 2 rfl) ?_
          have hFc := va_free (wc := mw g0 g1 g2 cA (tb, n, kb, ln, rd, fp, (sg q), mt2, bg2)) hD hS hA [0, 1, 2] rfl
          refine va_calli (va_runV (As := []) (rest := []) ⟨hx, hb, hml, hown, hts⟩ (c_X1_next_end l dC dI g0 g1 g2 cA H.size tb n kb ln rd fp (sg q) mt2 bg2 hkb hln (by omega) hch.2.2) (cwV 0 hts gX1_go_X1_next rfl rfl rfl (by decide +kernel) ⟨Nat.le_of_ble_eq_true rfl, Nat.le_of_ble_eq_true rfl⟩) ⟨mmut_blind, va_recv hK hP (ci := 1) (q0 := 0) rfl rfl, fun U hU hW => ⟨rfl, mmut_of hP hK hD hU hW⟩⟩ rfl rfl hl.1 rfl (lv_room (Nat.le_of_ble_eq_true rfl)) dX1_go_34 ⟨Nat.le_of_ble_eq_true rfl, Nat.le_of_ble_eq_true rfl⟩) hS (fun q _ h => hFc q h) hFc (fun r_3 u_3 t_3 H1 locs ht hvm hw hB hz1 hk1 hS => ?_)
          obtain ⟨hw0, hw1⟩ := hw
          obtain rfl : r_3 = 0 := hw0
          obtain rfl : u_3 = (tb, n, kb, ln, rd, fp, (s0N kb ln (sg q)), mt2, bg2) := hw1
          obtain ⟨hP1, hK1, hD1⟩ := hB
          rw [ht] at hP1
          obtain ⟨hP, hD⟩ := va_join (wr := []) (w1 := mw g0 g1 g2 cA (tb, n, kb, ln, rd, fp, (s0N kb ln (sg q)), mt2, bg2)) hP hD [0, 1, 2] [] rfl rfl (by decide) (by decide) hk1 hFc hP1 hD1
          generalize H1 = H at hP hS ⊢
          have hP : va_P (dC, dI) vwCl [(g0, .inr (1, [.ref g1, .int (nI n), .ref g2, .int (nI ln), .int (bI rd), .int fp, .int (nI (s0N kb ln (sg q))), .int mt2, .int bg2])), (g1, .inl (cA, 1000, .inl (fun j => nI (tb j)))), (g2, .inl (cA, 1000, .inl (fun j => nI (kb j))))] H := hP
          have hD : va_D A [(g0, .inr (1, [.ref g1, .int (nI n), .ref g2, .int (nI ln), .int (bI rd), .int fp, .int (nI (s0N kb ln (sg q))), .int mt2, .int bg2])), (g1, .inl (cA, 1000, .inl (fun j => nI (tb j)))), (g2, .inl (cA, 1000, .inl (fun j => nI (kb j))))] := hD
          refine lv_istore_n (lv' := [(2, .int 0), (3, .int (nI q)), (0, .ref g0), (1, .int i)]) hx hb dX1_go_37 rfl hl (by decide) rfl (fun ls hl => ?_)
          refine lv_iinc (v := nI (q + 1)) (lv' := [(3, .int (nI (q + 1))), (2, .int 0), (0, .ref g0), (1, .int i)]) hx hb dX1_go_38 hl (k := 1) rfl (nI_1 q) (by decide) rfl (fun ls hl => ?_)
          refine lv_goto (tgt := 24) hx hb dX1_go_41 (by decide) ?_
          refine lv_iload_n hx hb dX1_go_24 rfl (lv_at hl 0 rfl) ?_
          refine lv_iload_n hx hb dX1_go_25 rfl (lv_at hl 3 rfl) ?_
          refine lv_icmp_gt (tgt := 44) hx hb dX1_go_26 (by decide) (fun c_4 => ?_) (fun c_4 => ?_)
          · refine lv_iload_n hx hb dX1_go_44 rfl (lv_at hl 1 rfl) ?_
            have hP9 : va_P (dC, dI) vwCl (mw g0 g1 g2 cA (tb, n, kb, ln, rd, fp, (s0N kb ln (sg q)), mt2, bg2)) H := hP
            have hD9 : va_D A (mw g0 g1 g2 cA (tb, n, kb, ln, rd, fp, (s0N kb ln (sg q)), mt2, bg2)) := hD
            exact W.zret (v := 0) (ty := .boolean) hx hb hr (rfl) (fun t ht hW => ⟨⟨0, (tb, n, kb, ln, rd, fp, (s0N kb ln (sg q)), mt2, bg2), rfl, ⟨rfl, _, _, _, rfl⟩, by rw [ht]; exact hP9, va_K.moved hW.alike hK, hD9⟩, hS.F ht⟩) hS.2.2 dX1_go_45
          · refine lv_iload_n hx hb dX1_go_29 rfl (lv_at hl 1 rfl) ?_
            refine lv_if_eq (tgt := 44) hx hb dX1_go_30 (by decide) (fun c_5 => ?_) (fun c_5 => ?_)
            · have c_5 : 0 = 0 := (nI_eq (a := 0) (b := 0) (by omega) (by omega)).mp c_5
              refine lv_iload_n hx hb dX1_go_44 rfl (lv_at hl 1 rfl) ?_
              have hP9 : va_P (dC, dI) vwCl (mw g0 g1 g2 cA (tb, n, kb, ln, rd, fp, (s0N kb ln (sg q)), mt2, bg2)) H := hP
              have hD9 : va_D A (mw g0 g1 g2 cA (tb, n, kb, ln, rd, fp, (s0N kb ln (sg q)), mt2, bg2)) := hD
              exact W.zret (v := 0) (ty := .boolean) hx hb hr (rfl) (fun t ht hW => ⟨⟨0, (tb, n, kb, ln, rd, fp, (s0N kb ln (sg q)), mt2, bg2), rfl, ⟨rfl, _, _, _, rfl⟩, by rw [ht]; exact hP9, va_K.moved hW.alike hK, hD9⟩, hS.F ht⟩) hS.2.2 dX1_go_45
            · exact absurd c_5 (by decide)
    | succ d ih =>
      intro q mt2 bg2 H locs ls hqd hP hD hS hl
      have hqk : q < k := by omega
      have hsb := hsgb q (by omega)
      refine lv_iload_n hx hb dX1_go_24 rfl (lv_at hl 0 rfl) ?_
      refine lv_iload_n hx hb dX1_go_25 rfl (lv_at hl 3 rfl) ?_
      refine lv_icmp_gt (tgt := 44) hx hb dX1_go_26 (by decide) (fun c_6 => ?_) (fun c_6 => ?_)
      · exact absurd c_6 (Int32.not_lt.mpr (Int32.le_trans (nI_le (by omega) (by omega)) hfar))
      · refine lv_iload_n hx hb dX1_go_29 rfl (lv_at hl 1 rfl) ?_
        refine lv_if_eq (tgt := 44) hx hb dX1_go_30 (by decide) (fun c_7 => ?_) (fun c_7 => ?_)
        · exact absurd c_7 (by decide)
        · have c_7 : ¬ 1 = 0 := fun zz => c_7 ((nI_eq (a := 1) (b := 0) (by omega) (by omega)).mpr zz)
          refine lv_aload_n hx hb dX1_go_33 rfl (lv_at hl 2 rfl) ?_
          have hFc := va_free (wc := mw g0 g1 g2 cA (tb, n, kb, ln, rd, fp, (sg q), mt2, bg2)) hD hS hA [0, 1, 2] rfl
          obtain ⟨hgo, v_8, w_8, hsq, hmf, hbf, hsg⟩ := hch.2.1 q hqk
          have hlt_8 := seqN_lt hkb hsq
          refine va_calli (va_runV (As := []) (rest := []) ⟨hx, hb, hml, hown, hts⟩ (c_X1_next_some l dC dI g0 g1 g2 cA H.size tb n kb ln rd fp (sg q) mt2 bg2 hkb hln (by omega) v_8 w_8 hgo hsq) (cwV 0 hts gX1_go_X1_next rfl rfl rfl (by decide +kernel) ⟨Nat.le_of_ble_eq_true rfl, Nat.le_of_ble_eq_true rfl⟩) ⟨mmut_blind, va_recv hK hP (ci := 1) (q0 := 0) rfl rfl, fun U hU hW => ⟨rfl, mmut_of hP hK hD hU hW⟩⟩ rfl rfl hl.1 rfl (lv_room (Nat.le_of_ble_eq_true rfl)) dX1_go_34 ⟨Nat.le_of_ble_eq_true rfl, Nat.le_of_ble_eq_true rfl⟩) hS (fun q _ h => hFc q h) hFc (fun r_8 u_8 t_8 H1 locs ht hvm hw hB hz1 hk1 hS => ?_)
          obtain ⟨hw0, hw1⟩ := hw
          rw [← hmf, ← hsg, ← hbf] at hw1
          obtain rfl : r_8 = 1 := hw0
          obtain rfl : u_8 = (tb, n, kb, ln, rd, fp, (sg (q + 1)), (nI (mf q)), (nI (bf q))) := hw1
          obtain ⟨hP1, hK1, hD1⟩ := hB
          rw [ht] at hP1
          obtain ⟨hP, hD⟩ := va_join (wr := []) (w1 := mw g0 g1 g2 cA (tb, n, kb, ln, rd, fp, (sg (q + 1)), (nI (mf q)), (nI (bf q)))) hP hD [0, 1, 2] [] rfl rfl (by decide) (by decide) hk1 hFc hP1 hD1
          generalize H1 = H at hP hS ⊢
          have hP : va_P (dC, dI) vwCl [(g0, .inr (1, [.ref g1, .int (nI n), .ref g2, .int (nI ln), .int (bI rd), .int fp, .int (nI (sg (q + 1))), .int (nI (mf q)), .int (nI (bf q))])), (g1, .inl (cA, 1000, .inl (fun j => nI (tb j)))), (g2, .inl (cA, 1000, .inl (fun j => nI (kb j))))] H := hP
          have hD : va_D A [(g0, .inr (1, [.ref g1, .int (nI n), .ref g2, .int (nI ln), .int (bI rd), .int fp, .int (nI (sg (q + 1))), .int (nI (mf q)), .int (nI (bf q))])), (g1, .inl (cA, 1000, .inl (fun j => nI (tb j)))), (g2, .inl (cA, 1000, .inl (fun j => nI (kb j))))] := hD
          refine lv_istore_n (lv' := [(2, .int 1), (3, .int (nI q)), (0, .ref g0), (1, .int i)]) hx hb dX1_go_37 rfl hl (by decide) rfl (fun ls hl => ?_)
          refine lv_iinc (v := nI (q + 1)) (lv' := [(3, .int (nI (q + 1))), (2, .int 1), (0, .ref g0), (1, .int i)]) hx hb dX1_go_38 hl (k := 1) rfl (nI_1 q) (by decide) rfl (fun ls hl => ?_)
          refine lv_goto (tgt := 24) hx hb dX1_go_41 (by decide) ?_
          exact ih (q + 1) _ _ H locs ls (by omega) hP hD hS (lv_sub hl [0, 1, 2, 3] rfl)
  refine lv_aload_n hx hb dX1_go_0 rfl (lv_at hl 0 rfl) ?_
  refine lv_iconst (v := 0) hx hb dX1_go_1 (by decide) ?_
  refine va_put (D := (dC, dI)) (ci := 1) (v := .int 0) (ty := .int) (C := RX1) (T := TX1) (N := 9) hx hb hts hIn tyX1 tyX1_ok nmX1 hown hK hP hD hS 0 rfl rfl 6 (by decide) (hts (.fieldLink RX1 41 RX1 "stand" "I") (by decide +kernel)) (fun _ h9 => h9) rfl (by decide +kernel) rfl rfl (Nat.le_of_ble_eq_true rfl) dX1_go_2 (fun H locs hP hD hS => ?_)
  have hP : va_P (dC, dI) vwCl [(g0, .inr (1, [.ref g1, .int (nI n), .ref g2, .int (nI ln), .int (bI rd), .int fp, .int 0, .int mt, .int bg])), (g1, .inl (cA, 1000, .inl (fun j => nI (tb j)))), (g2, .inl (cA, 1000, .inl (fun j => nI (kb j))))] H := hP
  have hD : va_D A [(g0, .inr (1, [.ref g1, .int (nI n), .ref g2, .int (nI ln), .int (bI rd), .int fp, .int 0, .int mt, .int bg])), (g1, .inl (cA, 1000, .inl (fun j => nI (tb j)))), (g2, .inl (cA, 1000, .inl (fun j => nI (kb j))))] := hD
  refine lv_aload_n hx hb dX1_go_5 rfl (lv_at hl 0 rfl) ?_
  refine va_get (D := (dC, dI)) (ci := 1) (v := .int (bI rd)) (C := RX1) (T := TX1) (N := 9) hx hb hts hIn hown hK hP 0 rfl rfl 4 (by decide) (hts (.fieldLink RX1 60 RX1 "read" "Z") (by decide +kernel)) (fun _ h9 => h9) rfl dX1_go_6 ?_
  refine lv_if_eq (tgt := 20) hx hb dX1_go_9 (by decide) (fun c_9 => ?_) (fun c_9 => ?_)
  · exact absurd hrd (bI_0 c_9)
  · have c_9 := bI_n0 c_9
    refine lv_iload_n hx hb dX1_go_12 rfl (lv_at hl 1 rfl) ?_
    refine lv_if_lt (tgt := 20) hx hb dX1_go_13 (by decide) (fun c_10 => ?_) (fun c_10 => ?_)
    · exact absurd c_10 (Int32.not_lt.mpr h0i)
    · refine lv_iconst (v := 1) hx hb dX1_go_16 (by decide) ?_
      refine lv_goto (tgt := 21) hx hb dX1_go_17 (by decide) ?_
      refine lv_istore_n (lv' := [(2, .int 1), (0, .ref g0), (1, .int i)]) hx hb dX1_go_21 rfl hl (by decide) rfl (fun ls hl => ?_)
      refine lv_iconst (v := 0) hx hb dX1_go_22 (by decide) ?_
      refine lv_istore_n (lv' := [(3, .int 0), (2, .int 1), (0, .ref g0), (1, .int i)]) hx hb dX1_go_23 rfl hl (by decide) rfl (fun ls hl => ?_)
      exact loop (k) 0 mt bg H locs ls (by omega) (by rw [hch.1]; exact hP) (by rw [hch.1]; exact hD) hS (lv_sub hl [0, 1, 2, 3] rfl)
end
section
def AtCase (rd : Bool) (k : Nat) (mf : Nat → Nat) (i res : Int32) : Prop :=
  ((rd = false ∨ i < 0) ∧ res = -1) ∨ (rd = true ∧ ∃ j, j < k ∧ i = nI j ∧ res = nI (mf j)) ∨ (rd = true ∧ 0 ≤ i ∧ nI k ≤ i ∧ res = -1)
def PlCase (rd : Bool) (k : Nat) (bf : Nat → Nat) (ln : Nat) (i res : Int32) : Prop :=
  (rd = false ∧ res = -1) ∨ (rd = true ∧ i < 0 ∧ res = -1) ∨ (rd = true ∧ ∃ j, j < k ∧ i = nI j ∧ res = nI (bf j)) ∨ (rd = true ∧ i = nI k ∧ res = nI ln) ∨ (rd = true ∧ ∃ j, k < j ∧ j < 2 ^ 31 ∧ i = nI j ∧ res = -1)
theorem wrap_far {k : Nat} {i : Int32} (hk : k ≤ 1000) (h : i < 0) (h2 : 0 ≤ i - 1) : nI k ≤ i - 1 := by
  rw [Int32.lt_iff_toInt_lt, Int32.toInt_zero] at h
  rw [Int32.le_iff_toInt_le, Int32.toInt_zero, Int32.toInt_sub] at h2
  rw [Int32.le_iff_toInt_le, nI_toInt (by omega), Int32.toInt_sub]
  have h1 : (1 : Int32).toInt = 1 := by decide
  rw [h1] at h2 ⊢
  have hlo := Int32.le_toInt i
  by_cases q : i.toInt - 1 < -2147483648
  · have e : i.toInt = -2147483648 := by omega
    rw [e] at h2 ⊢
    have e2 : ((-2147483648 : Int) - 1).bmod (2 ^ 32) = 2147483647 := by decide
    rw [e2]; omega
  · rw [Int.bmod_eq_of_le (by omega) (by omega)] at h2
    omega
set_option maxHeartbeats 4000000 in
set_option maxRecDepth 100000 in
theorem c_X1_at (l : Launch) (dC : Nat → ClassId) (dI : Nat → Nat → Nat) (g0 g1 g2 : Nat) (cA : ClassId) (sz : Nat) (tb : Nat → Nat) (n : Nat) (kb : Nat → Nat) (ln : Nat) (rd : Bool) (fp : Int32) (st : Nat) (mt bg : Int32) (hkb : ∀ j, kb j < 256) (hln : ln ≤ 1000) (k : Nat) (hk : k ≤ 1000) (mf bf sg : Nat → Nat) (hch : rd = true → Chain kb ln k mf bf sg) (i res : Int32) (hc : AtCase rd k mf i res) : Met l yX1_at wsX1_at ({ frames := 4, cells := 0, slots := 0, locals := 89 }) (va_Pc [.ref g0, .int i] (fun U => mmut dC dI g0 g1 g2 cA sz (tb, n, kb, ln, rd, fp, st, mt, bg) U)) (va_Qi (fun (r : Int32) (u : MS) => r = res ∧ ∃ (st' : Nat) (mt' bg' : Int32), u = (tb, n, kb, ln, rd, fp, st', mt', bg')) (matt dC dI g0 g1 g2 cA (va_A (mw g0 g1 g2 cA (tb, n, kb, ln, rd, fp, st, mt, bg)) sz)) (va_A (mw g0 g1 g2 cA (tb, n, kb, ln, rd, fp, st, mt, bg)) sz)) 0 0 (va_A (mw g0 g1 g2 cA (tb, n, kb, ln, rd, fp, st, mt, bg)) sz) := by
  refine Met.ofW (cc := cX1_at) (maxL := 2) (ret := (some .int)) (by decide) rfl ?_
  intro p e s m args below meth c s₁ B hml hv
  obtain ⟨rfl, hsz, hP, hK, hD0⟩ := hv
  have hx := B.exec
  have hb := B.bytes
  have hr := B.returns
  have hts := atoms_spec (ws := wsX1_at) B.pre
  have hown : s.vm.findClass RX1 = some m.cls := findClass_of_methodNamed B.named
  subst hsz
  have hD := hD0.self (sz := s.heap.size)
  generalize hAe : va_A (mw g0 g1 g2 cA (tb, n, kb, ln, rd, fp, st, mt, bg)) s.heap.size = A at hD ⊢
  have hA : ∀ q : Nat, s.heap.size ≤ q → A q := fun q h => by rw [← hAe]; exact Or.inr h
  have hS : va_S A s.heap s.heap [] := va_S.rf
  have hP : va_P (dC, dI) vwCl [(g0, .inr (1, [.ref g1, .int (nI n), .ref g2, .int (nI ln), .int (bI rd), .int fp, .int (nI st), .int mt, .int bg])), (g1, .inl (cA, 1000, .inl (fun j => nI (tb j)))), (g2, .inl (cA, 1000, .inl (fun j => nI (kb j))))] s.heap := hP
  have hD : va_D A [(g0, .inr (1, [.ref g1, .int (nI n), .ref g2, .int (nI ln), .int (bI rd), .int fp, .int (nI st), .int mt, .int bg])), (g1, .inl (cA, 1000, .inl (fun j => nI (tb j)))), (g2, .inl (cA, 1000, .inl (fun j => nI (kb j))))] := hD
  have hIn : ∀ w ∈ wsX10, w ∈ wsX1_at := by decide +kernel
  have hl := lv_entry ([.ref g0, .int i]) (n := 2) (Nat.le_of_ble_eq_true rfl)
  rw [lg_entry_eq]
  generalize (lg_sl ([.ref g0, .int i]) ++ List.replicate (2 - (lg_sl ([.ref g0, .int i])).length) Slot.unset).toArray = ls at hl ⊢
  have hl : lv_has ls 2 [(0, .ref g0), (1, .int i)] := hl
  rcases hc with ⟨ho, rfl⟩ | ⟨hrd, j, hj, rfl, rfl⟩ | ⟨hrd, h0, hf, rfl⟩
  · refine lv_aload_n hx hb dX1_at_0 rfl (lv_at hl 0 rfl) ?_
    refine lv_iload_n hx hb dX1_at_1 rfl (lv_at hl 1 rfl) ?_
    have hFc := va_free (wc := mw g0 g1 g2 cA (tb, n, kb, ln, rd, fp, st, mt, bg)) hD hS hA [0, 1, 2] rfl
    refine va_calli (va_runV (As := [.int i]) (rest := []) ⟨hx, hb, hml, hown, hts⟩ (c_X1_go_off l dC dI g0 g1 g2 cA s.heap.size tb n kb ln rd fp st mt bg i ho) (cwV 1 hts gX1_at_X1_go rfl rfl rfl (by decide +kernel) ⟨Nat.le_of_ble_eq_true rfl, Nat.le_of_ble_eq_true rfl⟩) ⟨mmut_blind, va_recv hK hP (ci := 1) (q0 := 0) rfl rfl, fun U hU hW => ⟨rfl, mmut_of hP hK hD hU hW⟩⟩ rfl rfl hl.1 rfl (lv_room (Nat.le_of_ble_eq_true rfl)) dX1_at_2 ⟨Nat.le_of_ble_eq_true rfl, Nat.le_of_ble_eq_true rfl⟩) hS (fun q _ h => hFc q h) hFc (fun r_1 u_1 t_1 H1 locs ht hvm hw hB hz1 hk1 hS => ?_)
    obtain ⟨hw0, hw1⟩ := hw
    obtain rfl : r_1 = 0 := hw0
    obtain rfl : u_1 = (tb, n, kb, ln, rd, fp, 0, mt, bg) := hw1
    obtain ⟨hP1, hK1, hD1⟩ := hB
    rw [ht] at hP1
    obtain ⟨hP, hD⟩ := va_join (wr := []) (w1 := mw g0 g1 g2 cA (tb, n, kb, ln, rd, fp, 0, mt, bg)) hP hD [0, 1, 2] [] rfl rfl (by decide) (by decide) hk1 hFc hP1 hD1
    generalize H1 = H at hP hS ⊢
    have hP : va_P (dC, dI) vwCl [(g0, .inr (1, [.ref g1, .int (nI n), .ref g2, .int (nI ln), .int (bI rd), .int fp, .int (nI 0), .int mt, .int bg])), (g1, .inl (cA, 1000, .inl (fun j => nI (tb j)))), (g2, .inl (cA, 1000, .inl (fun j => nI (kb j))))] H := hP
    have hD : va_D A [(g0, .inr (1, [.ref g1, .int (nI n), .ref g2, .int (nI ln), .int (bI rd), .int fp, .int (nI 0), .int mt, .int bg])), (g1, .inl (cA, 1000, .inl (fun j => nI (tb j)))), (g2, .inl (cA, 1000, .inl (fun j => nI (kb j))))] := hD
    refine lv_if_eq (tgt := 15) hx hb dX1_at_5 (by decide) (fun c_2 => ?_) (fun c_2 => ?_)
    · have c_2 : 0 = 0 := (nI_eq (a := 0) (b := 0) (by omega) (by omega)).mp c_2
      refine lv_iconst (v := -1) hx hb dX1_at_15 (by decide) ?_
      have hP9 : va_P (dC, dI) vwCl (mw g0 g1 g2 cA (tb, n, kb, ln, rd, fp, 0, mt, bg)) H := hP
      have hD9 : va_D A (mw g0 g1 g2 cA (tb, n, kb, ln, rd, fp, 0, mt, bg)) := hD
      exact W.iret (v := (-1)) hx hb hr (fun t ht hW => ⟨⟨(-1), (tb, n, kb, ln, rd, fp, 0, mt, bg), rfl, ⟨rfl, _, _, _, rfl⟩, by rw [ht]; exact hP9, va_K.moved hW.alike hK, hD9⟩, hS.F ht⟩) hS.2.2 dX1_at_16
    · exact absurd c_2 (by decide)
  · refine lv_aload_n hx hb dX1_at_0 rfl (lv_at hl 0 rfl) ?_
    refine lv_iload_n hx hb dX1_at_1 rfl (lv_at hl 1 rfl) ?_
    have hFc := va_free (wc := mw g0 g1 g2 cA (tb, n, kb, ln, rd, fp, st, mt, bg)) hD hS hA [0, 1, 2] rfl
    refine va_calli (va_runV (As := [.int (nI j)]) (rest := []) ⟨hx, hb, hml, hown, hts⟩ (c_X1_go_yes l dC dI g0 g1 g2 cA s.heap.size tb n kb ln rd fp st mt bg hkb hln k mf bf sg (hch hrd) j hj hk hrd) (cwV 1 hts gX1_at_X1_go rfl rfl rfl (by decide +kernel) ⟨Nat.le_of_ble_eq_true rfl, Nat.le_of_ble_eq_true rfl⟩) ⟨mmut_blind, va_recv hK hP (ci := 1) (q0 := 0) rfl rfl, fun U hU hW => ⟨rfl, mmut_of hP hK hD hU hW⟩⟩ rfl rfl hl.1 rfl (lv_room (Nat.le_of_ble_eq_true rfl)) dX1_at_2 ⟨Nat.le_of_ble_eq_true rfl, Nat.le_of_ble_eq_true rfl⟩) hS (fun q _ h => hFc q h) hFc (fun r_3 u_3 t_3 H1 locs ht hvm hw hB hz1 hk1 hS => ?_)
    obtain ⟨hw0, hw1⟩ := hw
    obtain rfl : r_3 = 1 := hw0
    obtain rfl : u_3 = (tb, n, kb, ln, rd, fp, (sg (j + 1)), (nI (mf j)), (nI (bf j))) := hw1
    obtain ⟨hP1, hK1, hD1⟩ := hB
    rw [ht] at hP1
    obtain ⟨hP, hD⟩ := va_join (wr := []) (w1 := mw g0 g1 g2 cA (tb, n, kb, ln, rd, fp, (sg (j + 1)), (nI (mf j)), (nI (bf j)))) hP hD [0, 1, 2] [] rfl rfl (by decide) (by decide) hk1 hFc hP1 hD1
    generalize H1 = H at hP hS ⊢
    have hP : va_P (dC, dI) vwCl [(g0, .inr (1, [.ref g1, .int (nI n), .ref g2, .int (nI ln), .int (bI rd), .int fp, .int (nI (sg (j + 1))), .int (nI (mf j)), .int (nI (bf j))])), (g1, .inl (cA, 1000, .inl (fun j => nI (tb j)))), (g2, .inl (cA, 1000, .inl (fun j => nI (kb j))))] H := hP
    have hD : va_D A [(g0, .inr (1, [.ref g1, .int (nI n), .ref g2, .int (nI ln), .int (bI rd), .int fp, .int (nI (sg (j + 1))), .int (nI (mf j)), .int (nI (bf j))])), (g1, .inl (cA, 1000, .inl (fun j => nI (tb j)))), (g2, .inl (cA, 1000, .inl (fun j => nI (kb j))))] := hD
    refine lv_if_eq (tgt := 15) hx hb dX1_at_5 (by decide) (fun c_4 => ?_) (fun c_4 => ?_)
    · exact absurd c_4 (by decide)
    · have c_4 : ¬ 1 = 0 := fun zz => c_4 ((nI_eq (a := 1) (b := 0) (by omega) (by omega)).mpr zz)
      refine lv_aload_n hx hb dX1_at_8 rfl (lv_at hl 0 rfl) ?_
      refine va_get (D := (dC, dI)) (ci := 1) (v := .int (nI (mf j))) (C := RX1) (T := TX1) (N := 9) hx hb hts hIn hown hK hP 0 rfl rfl 7 (by decide) (hts (.fieldLink RX1 57 RX1 "met" "I") (by decide +kernel)) (fun _ h9 => h9) rfl dX1_at_9 ?_
      refine lv_goto (tgt := 16) hx hb dX1_at_12 (by decide) ?_
      have hP9 : va_P (dC, dI) vwCl (mw g0 g1 g2 cA (tb, n, kb, ln, rd, fp, (sg (j + 1)), (nI (mf j)), (nI (bf j)))) H := hP
      have hD9 : va_D A (mw g0 g1 g2 cA (tb, n, kb, ln, rd, fp, (sg (j + 1)), (nI (mf j)), (nI (bf j)))) := hD
      exact W.iret (v := (nI (mf j))) hx hb hr (fun t ht hW => ⟨⟨(nI (mf j)), (tb, n, kb, ln, rd, fp, (sg (j + 1)), (nI (mf j)), (nI (bf j))), rfl, ⟨rfl, _, _, _, rfl⟩, by rw [ht]; exact hP9, va_K.moved hW.alike hK, hD9⟩, hS.F ht⟩) hS.2.2 dX1_at_16
  · refine lv_aload_n hx hb dX1_at_0 rfl (lv_at hl 0 rfl) ?_
    refine lv_iload_n hx hb dX1_at_1 rfl (lv_at hl 1 rfl) ?_
    have hFc := va_free (wc := mw g0 g1 g2 cA (tb, n, kb, ln, rd, fp, st, mt, bg)) hD hS hA [0, 1, 2] rfl
    refine va_calli (va_runV (As := [.int i]) (rest := []) ⟨hx, hb, hml, hown, hts⟩ (c_X1_go_far l dC dI g0 g1 g2 cA s.heap.size tb n kb ln rd fp st mt bg hkb hln k mf bf sg (hch hrd) i hk hrd h0 hf) (cwV 1 hts gX1_at_X1_go rfl rfl rfl (by decide +kernel) ⟨Nat.le_of_ble_eq_true rfl, Nat.le_of_ble_eq_true rfl⟩) ⟨mmut_blind, va_recv hK hP (ci := 1) (q0 := 0) rfl rfl, fun U hU hW => ⟨rfl, mmut_of hP hK hD hU hW⟩⟩ rfl rfl hl.1 rfl (lv_room (Nat.le_of_ble_eq_true rfl)) dX1_at_2 ⟨Nat.le_of_ble_eq_true rfl, Nat.le_of_ble_eq_true rfl⟩) hS (fun q _ h => hFc q h) hFc (fun r_5 u_5 t_5 H1 locs ht hvm hw hB hz1 hk1 hS => ?_)
    obtain ⟨hw0, st_5, mt_5, bg_5, hw1⟩ := hw
    obtain rfl : r_5 = 0 := hw0
    obtain rfl : u_5 = (tb, n, kb, ln, rd, fp, st_5, mt_5, bg_5) := hw1
    obtain ⟨hP1, hK1, hD1⟩ := hB
    rw [ht] at hP1
    obtain ⟨hP, hD⟩ := va_join (wr := []) (w1 := mw g0 g1 g2 cA (tb, n, kb, ln, rd, fp, st_5, mt_5, bg_5)) hP hD [0, 1, 2] [] rfl rfl (by decide) (by decide) hk1 hFc hP1 hD1
    generalize H1 = H at hP hS ⊢
    have hP : va_P (dC, dI) vwCl [(g0, .inr (1, [.ref g1, .int (nI n), .ref g2, .int (nI ln), .int (bI rd), .int fp, .int (nI st_5), .int mt_5, .int bg_5])), (g1, .inl (cA, 1000, .inl (fun j => nI (tb j)))), (g2, .inl (cA, 1000, .inl (fun j => nI (kb j))))] H := hP
    have hD : va_D A [(g0, .inr (1, [.ref g1, .int (nI n), .ref g2, .int (nI ln), .int (bI rd), .int fp, .int (nI st_5), .int mt_5, .int bg_5])), (g1, .inl (cA, 1000, .inl (fun j => nI (tb j)))), (g2, .inl (cA, 1000, .inl (fun j => nI (kb j))))] := hD
    refine lv_if_eq (tgt := 15) hx hb dX1_at_5 (by decide) (fun c_6 => ?_) (fun c_6 => ?_)
    · have c_6 : 0 = 0 := (nI_eq (a := 0) (b := 0) (by omega) (by omega)).mp c_6
      refine lv_iconst (v := -1) hx hb dX1_at_15 (by decide) ?_
      have hP9 : va_P (dC, dI) vwCl (mw g0 g1 g2 cA (tb, n, kb, ln, rd, fp, st_5, mt_5, bg_5)) H := hP
      have hD9 : va_D A (mw g0 g1 g2 cA (tb, n, kb, ln, rd, fp, st_5, mt_5, bg_5)) := hD
      exact W.iret (v := (-1)) hx hb hr (fun t ht hW => ⟨⟨(-1), (tb, n, kb, ln, rd, fp, st_5, mt_5, bg_5), rfl, ⟨rfl, _, _, _, rfl⟩, by rw [ht]; exact hP9, va_K.moved hW.alike hK, hD9⟩, hS.F ht⟩) hS.2.2 dX1_at_16
    · exact absurd c_6 (by decide)
set_option maxHeartbeats 4000000 in
set_option maxRecDepth 100000 in
theorem c_X1_placeOf (l : Launch) (dC : Nat → ClassId) (dI : Nat → Nat → Nat) (g0 g1 g2 : Nat) (cA : ClassId) (sz : Nat) (tb : Nat → Nat) (n : Nat) (kb : Nat → Nat) (ln : Nat) (rd : Bool) (fp : Int32) (st : Nat) (mt bg : Int32) (hkb : ∀ j, kb j < 256) (hln : ln ≤ 1000) (k : Nat) (hk : k ≤ 1000) (mf bf sg : Nat → Nat) (hch : rd = true → Chain kb ln k mf bf sg) (i res : Int32) (hc : PlCase rd k bf ln i res) : Met l yX1_placeOf wsX1_placeOf ({ frames := 4, cells := 0, slots := 0, locals := 89 }) (va_Pc [.ref g0, .int i] (fun U => mmut dC dI g0 g1 g2 cA sz (tb, n, kb, ln, rd, fp, st, mt, bg) U)) (va_Qi (fun (r : Int32) (u : MS) => r = res ∧ ∃ (st' : Nat) (mt' bg' : Int32), u = (tb, n, kb, ln, rd, fp, st', mt', bg')) (matt dC dI g0 g1 g2 cA (va_A (mw g0 g1 g2 cA (tb, n, kb, ln, rd, fp, st, mt, bg)) sz)) (va_A (mw g0 g1 g2 cA (tb, n, kb, ln, rd, fp, st, mt, bg)) sz)) 0 0 (va_A (mw g0 g1 g2 cA (tb, n, kb, ln, rd, fp, st, mt, bg)) sz) := by
  refine Met.ofW (cc := cX1_placeOf) (maxL := 2) (ret := (some .int)) (by decide) rfl ?_
  intro p e s m args below meth c s₁ B hml hv
  obtain ⟨rfl, hsz, hP, hK, hD0⟩ := hv
  have hx := B.exec
  have hb := B.bytes
  have hr := B.returns
  have hts := atoms_spec (ws := wsX1_placeOf) B.pre
  have hown : s.vm.findClass RX1 = some m.cls := findClass_of_methodNamed B.named
  subst hsz
  have hD := hD0.self (sz := s.heap.size)
  generalize hAe : va_A (mw g0 g1 g2 cA (tb, n, kb, ln, rd, fp, st, mt, bg)) s.heap.size = A at hD ⊢
  have hA : ∀ q : Nat, s.heap.size ≤ q → A q := fun q h => by rw [← hAe]; exact Or.inr h
  have hS : va_S A s.heap s.heap [] := va_S.rf
  have hP : va_P (dC, dI) vwCl [(g0, .inr (1, [.ref g1, .int (nI n), .ref g2, .int (nI ln), .int (bI rd), .int fp, .int (nI st), .int mt, .int bg])), (g1, .inl (cA, 1000, .inl (fun j => nI (tb j)))), (g2, .inl (cA, 1000, .inl (fun j => nI (kb j))))] s.heap := hP
  have hD : va_D A [(g0, .inr (1, [.ref g1, .int (nI n), .ref g2, .int (nI ln), .int (bI rd), .int fp, .int (nI st), .int mt, .int bg])), (g1, .inl (cA, 1000, .inl (fun j => nI (tb j)))), (g2, .inl (cA, 1000, .inl (fun j => nI (kb j))))] := hD
  have hIn : ∀ w ∈ wsX10, w ∈ wsX1_placeOf := by decide +kernel
  have hl := lv_entry ([.ref g0, .int i]) (n := 2) (Nat.le_of_ble_eq_true rfl)
  rw [lg_entry_eq]
  generalize (lg_sl ([.ref g0, .int i]) ++ List.replicate (2 - (lg_sl ([.ref g0, .int i])).length) Slot.unset).toArray = ls at hl ⊢
  have hl : lv_has ls 2 [(0, .ref g0), (1, .int i)] := hl
  rcases hc with ⟨rfl, rfl⟩ | ⟨hrd, hneg, rfl⟩ | ⟨hrd, j, hj, rfl, rfl⟩ | ⟨hrd, rfl, rfl⟩ | ⟨hrd, j, hj, hjm, rfl, rfl⟩
  · refine lv_aload_n hx hb dX1_placeOf_0 rfl (lv_at hl 0 rfl) ?_
    refine lv_iload_n hx hb dX1_placeOf_1 rfl (lv_at hl 1 rfl) ?_
    have hFc := va_free (wc := mw g0 g1 g2 cA (tb, n, kb, ln, false, fp, st, mt, bg)) hD hS hA [0, 1, 2] rfl
    refine va_calli (va_runV (As := [.int i]) (rest := []) ⟨hx, hb, hml, hown, hts⟩ (c_X1_go_off l dC dI g0 g1 g2 cA s.heap.size tb n kb ln false fp st mt bg i (Or.inl rfl)) (cwV 1 hts gX1_placeOf_X1_go rfl rfl rfl (by decide +kernel) ⟨Nat.le_of_ble_eq_true rfl, Nat.le_of_ble_eq_true rfl⟩) ⟨mmut_blind, va_recv hK hP (ci := 1) (q0 := 0) rfl rfl, fun U hU hW => ⟨rfl, mmut_of hP hK hD hU hW⟩⟩ rfl rfl hl.1 rfl (lv_room (Nat.le_of_ble_eq_true rfl)) dX1_placeOf_2 ⟨Nat.le_of_ble_eq_true rfl, Nat.le_of_ble_eq_true rfl⟩) hS (fun q _ h => hFc q h) hFc (fun r_1 u_1 t_1 H1 locs ht hvm hw hB hz1 hk1 hS => ?_)
    obtain ⟨hw0, hw1⟩ := hw
    obtain rfl : r_1 = 0 := hw0
    obtain rfl : u_1 = (tb, n, kb, ln, false, fp, 0, mt, bg) := hw1
    obtain ⟨hP1, hK1, hD1⟩ := hB
    rw [ht] at hP1
    obtain ⟨hP, hD⟩ := va_join (wr := []) (w1 := mw g0 g1 g2 cA (tb, n, kb, ln, false, fp, 0, mt, bg)) hP hD [0, 1, 2] [] rfl rfl (by decide) (by decide) hk1 hFc hP1 hD1
    generalize H1 = H at hP hS ⊢
    have hP : va_P (dC, dI) vwCl [(g0, .inr (1, [.ref g1, .int (nI n), .ref g2, .int (nI ln), .int (bI false), .int fp, .int (nI 0), .int mt, .int bg])), (g1, .inl (cA, 1000, .inl (fun j => nI (tb j)))), (g2, .inl (cA, 1000, .inl (fun j => nI (kb j))))] H := hP
    have hD : va_D A [(g0, .inr (1, [.ref g1, .int (nI n), .ref g2, .int (nI ln), .int (bI false), .int fp, .int (nI 0), .int mt, .int bg])), (g1, .inl (cA, 1000, .inl (fun j => nI (tb j)))), (g2, .inl (cA, 1000, .inl (fun j => nI (kb j))))] := hD
    refine lv_if_eq (tgt := 13) hx hb dX1_placeOf_5 (by decide) (fun c_2 => ?_) (fun c_2 => ?_)
    · have c_2 : 0 = 0 := (nI_eq (a := 0) (b := 0) (by omega) (by omega)).mp c_2
      refine lv_aload_n hx hb dX1_placeOf_13 rfl (lv_at hl 0 rfl) ?_
      refine va_get (D := (dC, dI)) (ci := 1) (v := .int (bI false)) (C := RX1) (T := TX1) (N := 9) hx hb hts hIn hown hK hP 0 rfl rfl 4 (by decide) (hts (.fieldLink RX1 60 RX1 "read" "Z") (by decide +kernel)) (fun _ h9 => h9) rfl dX1_placeOf_14 ?_
      refine lv_if_eq (tgt := 53) hx hb dX1_placeOf_17 (by decide) (fun c_3 => ?_) (fun c_3 => ?_)
      · have c_3 := bI_0 c_3
        refine lv_iconst (v := -1) hx hb dX1_placeOf_53 (by decide) ?_
        have hP9 : va_P (dC, dI) vwCl (mw g0 g1 g2 cA (tb, n, kb, ln, false, fp, 0, mt, bg)) H := hP
        have hD9 : va_D A (mw g0 g1 g2 cA (tb, n, kb, ln, false, fp, 0, mt, bg)) := hD
        exact W.iret (v := (-1)) hx hb hr (fun t ht hW => ⟨⟨(-1), (tb, n, kb, ln, false, fp, 0, mt, bg), rfl, ⟨rfl, _, _, _, rfl⟩, by rw [ht]; exact hP9, va_K.moved hW.alike hK, hD9⟩, hS.F ht⟩) hS.2.2 dX1_placeOf_54
      · exact absurd rfl c_3
    · exact absurd c_2 (by decide)
  · refine lv_aload_n hx hb dX1_placeOf_0 rfl (lv_at hl 0 rfl) ?_
    refine lv_iload_n hx hb dX1_placeOf_1 rfl (lv_at hl 1 rfl) ?_
    have hFc := va_free (wc := mw g0 g1 g2 cA (tb, n, kb, ln, rd, fp, st, mt, bg)) hD hS hA [0, 1, 2] rfl
    refine va_calli (va_runV (As := [.int i]) (rest := []) ⟨hx, hb, hml, hown, hts⟩ (c_X1_go_off l dC dI g0 g1 g2 cA s.heap.size tb n kb ln rd fp st mt bg i (Or.inr hneg)) (cwV 1 hts gX1_placeOf_X1_go rfl rfl rfl (by decide +kernel) ⟨Nat.le_of_ble_eq_true rfl, Nat.le_of_ble_eq_true rfl⟩) ⟨mmut_blind, va_recv hK hP (ci := 1) (q0 := 0) rfl rfl, fun U hU hW => ⟨rfl, mmut_of hP hK hD hU hW⟩⟩ rfl rfl hl.1 rfl (lv_room (Nat.le_of_ble_eq_true rfl)) dX1_placeOf_2 ⟨Nat.le_of_ble_eq_true rfl, Nat.le_of_ble_eq_true rfl⟩) hS (fun q _ h => hFc q h) hFc (fun r_4 u_4 t_4 H1 locs ht hvm hw hB hz1 hk1 hS => ?_)
    obtain ⟨hw0, hw1⟩ := hw
    obtain rfl : r_4 = 0 := hw0
    obtain rfl : u_4 = (tb, n, kb, ln, rd, fp, 0, mt, bg) := hw1
    obtain ⟨hP1, hK1, hD1⟩ := hB
    rw [ht] at hP1
    obtain ⟨hP, hD⟩ := va_join (wr := []) (w1 := mw g0 g1 g2 cA (tb, n, kb, ln, rd, fp, 0, mt, bg)) hP hD [0, 1, 2] [] rfl rfl (by decide) (by decide) hk1 hFc hP1 hD1
    generalize H1 = H at hP hS ⊢
    have hP : va_P (dC, dI) vwCl [(g0, .inr (1, [.ref g1, .int (nI n), .ref g2, .int (nI ln), .int (bI rd), .int fp, .int (nI 0), .int mt, .int bg])), (g1, .inl (cA, 1000, .inl (fun j => nI (tb j)))), (g2, .inl (cA, 1000, .inl (fun j => nI (kb j))))] H := hP
    have hD : va_D A [(g0, .inr (1, [.ref g1, .int (nI n), .ref g2, .int (nI ln), .int (bI rd), .int fp, .int (nI 0), .int mt, .int bg])), (g1, .inl (cA, 1000, .inl (fun j => nI (tb j)))), (g2, .inl (cA, 1000, .inl (fun j => nI (kb j))))] := hD
    refine lv_if_eq (tgt := 13) hx hb dX1_placeOf_5 (by decide) (fun c_5 => ?_) (fun c_5 => ?_)
    · have c_5 : 0 = 0 := (nI_eq (a := 0) (b := 0) (by omega) (by omega)).mp c_5
      refine lv_aload_n hx hb dX1_placeOf_13 rfl (lv_at hl 0 rfl) ?_
      refine va_get (D := (dC, dI)) (ci := 1) (v := .int (bI rd)) (C := RX1) (T := TX1) (N := 9) hx hb hts hIn hown hK hP 0 rfl rfl 4 (by decide) (hts (.fieldLink RX1 60 RX1 "read" "Z") (by decide +kernel)) (fun _ h9 => h9) rfl dX1_placeOf_14 ?_
      refine lv_if_eq (tgt := 53) hx hb dX1_placeOf_17 (by decide) (fun c_6 => ?_) (fun c_6 => ?_)
      · exact absurd hrd (bI_0 c_6)
      · have c_6 := bI_n0 c_6
        refine lv_iload_n hx hb dX1_placeOf_20 rfl (lv_at hl 1 rfl) ?_
        refine lv_if_eq (tgt := 34) hx hb dX1_placeOf_21 (by decide) (fun c_7 => ?_) (fun c_7 => ?_)
        · exact absurd hneg (by rw [c_7]; decide)
        · by_cases hq : i - 1 < 0
          · refine lv_aload_n hx hb dX1_placeOf_24 rfl (lv_at hl 0 rfl) ?_
            refine lv_iload_n hx hb dX1_placeOf_25 rfl (lv_at hl 1 rfl) ?_
            refine lv_iconst (v := 1) hx hb dX1_placeOf_26 (by decide) ?_
            refine lv_isub hx hb dX1_placeOf_27 ?_
            have hFc := va_free (wc := mw g0 g1 g2 cA (tb, n, kb, ln, rd, fp, 0, mt, bg)) hD hS hA [0, 1, 2] rfl
            refine va_calli (va_runV (As := [.int (i - 1)]) (rest := []) ⟨hx, hb, hml, hown, hts⟩ (c_X1_go_off l dC dI g0 g1 g2 cA H.size tb n kb ln rd fp 0 mt bg (i - 1) (Or.inr hq)) (cwV 1 hts gX1_placeOf_X1_go rfl rfl rfl (by decide +kernel) ⟨Nat.le_of_ble_eq_true rfl, Nat.le_of_ble_eq_true rfl⟩) ⟨mmut_blind, va_recv hK hP (ci := 1) (q0 := 0) rfl rfl, fun U hU hW => ⟨rfl, mmut_of hP hK hD hU hW⟩⟩ rfl rfl hl.1 rfl (lv_room (Nat.le_of_ble_eq_true rfl)) dX1_placeOf_28 ⟨Nat.le_of_ble_eq_true rfl, Nat.le_of_ble_eq_true rfl⟩) hS (fun q _ h => hFc q h) hFc (fun r_8 u_8 t_8 H1 locs ht hvm hw hB hz1 hk1 hS => ?_)
            obtain ⟨hw0, hw1⟩ := hw
            obtain rfl : r_8 = 0 := hw0
            obtain rfl : u_8 = (tb, n, kb, ln, rd, fp, 0, mt, bg) := hw1
            obtain ⟨hP1, hK1, hD1⟩ := hB
            rw [ht] at hP1
            obtain ⟨hP, hD⟩ := va_join (wr := []) (w1 := mw g0 g1 g2 cA (tb, n, kb, ln, rd, fp, 0, mt, bg)) hP hD [0, 1, 2] [] rfl rfl (by decide) (by decide) hk1 hFc hP1 hD1
            generalize H1 = H at hP hS ⊢
            have hP : va_P (dC, dI) vwCl [(g0, .inr (1, [.ref g1, .int (nI n), .ref g2, .int (nI ln), .int (bI rd), .int fp, .int (nI 0), .int mt, .int bg])), (g1, .inl (cA, 1000, .inl (fun j => nI (tb j)))), (g2, .inl (cA, 1000, .inl (fun j => nI (kb j))))] H := hP
            have hD : va_D A [(g0, .inr (1, [.ref g1, .int (nI n), .ref g2, .int (nI ln), .int (bI rd), .int fp, .int (nI 0), .int mt, .int bg])), (g1, .inl (cA, 1000, .inl (fun j => nI (tb j)))), (g2, .inl (cA, 1000, .inl (fun j => nI (kb j))))] := hD
            refine lv_if_eq (tgt := 53) hx hb dX1_placeOf_31 (by decide) (fun c_9 => ?_) (fun c_9 => ?_)
            · have c_9 : 0 = 0 := (nI_eq (a := 0) (b := 0) (by omega) (by omega)).mp c_9
              refine lv_iconst (v := -1) hx hb dX1_placeOf_53 (by decide) ?_
              have hP9 : va_P (dC, dI) vwCl (mw g0 g1 g2 cA (tb, n, kb, ln, rd, fp, 0, mt, bg)) H := hP
              have hD9 : va_D A (mw g0 g1 g2 cA (tb, n, kb, ln, rd, fp, 0, mt, bg)) := hD
              exact W.iret (v := (-1)) hx hb hr (fun t ht hW => ⟨⟨(-1), (tb, n, kb, ln, rd, fp, 0, mt, bg), rfl, ⟨rfl, _, _, _, rfl⟩, by rw [ht]; exact hP9, va_K.moved hW.alike hK, hD9⟩, hS.F ht⟩) hS.2.2 dX1_placeOf_54
            · exact absurd c_9 (by decide)
          · refine lv_aload_n hx hb dX1_placeOf_24 rfl (lv_at hl 0 rfl) ?_
            refine lv_iload_n hx hb dX1_placeOf_25 rfl (lv_at hl 1 rfl) ?_
            refine lv_iconst (v := 1) hx hb dX1_placeOf_26 (by decide) ?_
            refine lv_isub hx hb dX1_placeOf_27 ?_
            have hFc := va_free (wc := mw g0 g1 g2 cA (tb, n, kb, ln, rd, fp, 0, mt, bg)) hD hS hA [0, 1, 2] rfl
            refine va_calli (va_runV (As := [.int (i - 1)]) (rest := []) ⟨hx, hb, hml, hown, hts⟩ (c_X1_go_far l dC dI g0 g1 g2 cA H.size tb n kb ln rd fp 0 mt bg hkb hln k mf bf sg (hch hrd) (i - 1) hk hrd (Int32.not_lt.mp hq) (wrap_far hk hneg (Int32.not_lt.mp hq))) (cwV 1 hts gX1_placeOf_X1_go rfl rfl rfl (by decide +kernel) ⟨Nat.le_of_ble_eq_true rfl, Nat.le_of_ble_eq_true rfl⟩) ⟨mmut_blind, va_recv hK hP (ci := 1) (q0 := 0) rfl rfl, fun U hU hW => ⟨rfl, mmut_of hP hK hD hU hW⟩⟩ rfl rfl hl.1 rfl (lv_room (Nat.le_of_ble_eq_true rfl)) dX1_placeOf_28 ⟨Nat.le_of_ble_eq_true rfl, Nat.le_of_ble_eq_true rfl⟩) hS (fun q _ h => hFc q h) hFc (fun r_10 u_10 t_10 H1 locs ht hvm hw hB hz1 hk1 hS => ?_)
            obtain ⟨hw0, st_10, mt_10, bg_10, hw1⟩ := hw
            obtain rfl : r_10 = 0 := hw0
            obtain rfl : u_10 = (tb, n, kb, ln, rd, fp, st_10, mt_10, bg_10) := hw1
            obtain ⟨hP1, hK1, hD1⟩ := hB
            rw [ht] at hP1
            obtain ⟨hP, hD⟩ := va_join (wr := []) (w1 := mw g0 g1 g2 cA (tb, n, kb, ln, rd, fp, st_10, mt_10, bg_10)) hP hD [0, 1, 2] [] rfl rfl (by decide) (by decide) hk1 hFc hP1 hD1
            generalize H1 = H at hP hS ⊢
            have hP : va_P (dC, dI) vwCl [(g0, .inr (1, [.ref g1, .int (nI n), .ref g2, .int (nI ln), .int (bI rd), .int fp, .int (nI st_10), .int mt_10, .int bg_10])), (g1, .inl (cA, 1000, .inl (fun j => nI (tb j)))), (g2, .inl (cA, 1000, .inl (fun j => nI (kb j))))] H := hP
            have hD : va_D A [(g0, .inr (1, [.ref g1, .int (nI n), .ref g2, .int (nI ln), .int (bI rd), .int fp, .int (nI st_10), .int mt_10, .int bg_10])), (g1, .inl (cA, 1000, .inl (fun j => nI (tb j)))), (g2, .inl (cA, 1000, .inl (fun j => nI (kb j))))] := hD
            refine lv_if_eq (tgt := 53) hx hb dX1_placeOf_31 (by decide) (fun c_11 => ?_) (fun c_11 => ?_)
            · have c_11 : 0 = 0 := (nI_eq (a := 0) (b := 0) (by omega) (by omega)).mp c_11
              refine lv_iconst (v := -1) hx hb dX1_placeOf_53 (by decide) ?_
              have hP9 : va_P (dC, dI) vwCl (mw g0 g1 g2 cA (tb, n, kb, ln, rd, fp, st_10, mt_10, bg_10)) H := hP
              have hD9 : va_D A (mw g0 g1 g2 cA (tb, n, kb, ln, rd, fp, st_10, mt_10, bg_10)) := hD
              exact W.iret (v := (-1)) hx hb hr (fun t ht hW => ⟨⟨(-1), (tb, n, kb, ln, rd, fp, st_10, mt_10, bg_10), rfl, ⟨rfl, _, _, _, rfl⟩, by rw [ht]; exact hP9, va_K.moved hW.alike hK, hD9⟩, hS.F ht⟩) hS.2.2 dX1_placeOf_54
            · exact absurd c_11 (by decide)
    · exact absurd c_5 (by decide)
  · refine lv_aload_n hx hb dX1_placeOf_0 rfl (lv_at hl 0 rfl) ?_
    refine lv_iload_n hx hb dX1_placeOf_1 rfl (lv_at hl 1 rfl) ?_
    have hFc := va_free (wc := mw g0 g1 g2 cA (tb, n, kb, ln, rd, fp, st, mt, bg)) hD hS hA [0, 1, 2] rfl
    refine va_calli (va_runV (As := [.int (nI j)]) (rest := []) ⟨hx, hb, hml, hown, hts⟩ (c_X1_go_yes l dC dI g0 g1 g2 cA s.heap.size tb n kb ln rd fp st mt bg hkb hln k mf bf sg (hch hrd) j hj hk hrd) (cwV 1 hts gX1_placeOf_X1_go rfl rfl rfl (by decide +kernel) ⟨Nat.le_of_ble_eq_true rfl, Nat.le_of_ble_eq_true rfl⟩) ⟨mmut_blind, va_recv hK hP (ci := 1) (q0 := 0) rfl rfl, fun U hU hW => ⟨rfl, mmut_of hP hK hD hU hW⟩⟩ rfl rfl hl.1 rfl (lv_room (Nat.le_of_ble_eq_true rfl)) dX1_placeOf_2 ⟨Nat.le_of_ble_eq_true rfl, Nat.le_of_ble_eq_true rfl⟩) hS (fun q _ h => hFc q h) hFc (fun r_12 u_12 t_12 H1 locs ht hvm hw hB hz1 hk1 hS => ?_)
    obtain ⟨hw0, hw1⟩ := hw
    obtain rfl : r_12 = 1 := hw0
    obtain rfl : u_12 = (tb, n, kb, ln, rd, fp, (sg (j + 1)), (nI (mf j)), (nI (bf j))) := hw1
    obtain ⟨hP1, hK1, hD1⟩ := hB
    rw [ht] at hP1
    obtain ⟨hP, hD⟩ := va_join (wr := []) (w1 := mw g0 g1 g2 cA (tb, n, kb, ln, rd, fp, (sg (j + 1)), (nI (mf j)), (nI (bf j)))) hP hD [0, 1, 2] [] rfl rfl (by decide) (by decide) hk1 hFc hP1 hD1
    generalize H1 = H at hP hS ⊢
    have hP : va_P (dC, dI) vwCl [(g0, .inr (1, [.ref g1, .int (nI n), .ref g2, .int (nI ln), .int (bI rd), .int fp, .int (nI (sg (j + 1))), .int (nI (mf j)), .int (nI (bf j))])), (g1, .inl (cA, 1000, .inl (fun j => nI (tb j)))), (g2, .inl (cA, 1000, .inl (fun j => nI (kb j))))] H := hP
    have hD : va_D A [(g0, .inr (1, [.ref g1, .int (nI n), .ref g2, .int (nI ln), .int (bI rd), .int fp, .int (nI (sg (j + 1))), .int (nI (mf j)), .int (nI (bf j))])), (g1, .inl (cA, 1000, .inl (fun j => nI (tb j)))), (g2, .inl (cA, 1000, .inl (fun j => nI (kb j))))] := hD
    refine lv_if_eq (tgt := 13) hx hb dX1_placeOf_5 (by decide) (fun c_13 => ?_) (fun c_13 => ?_)
    · exact absurd c_13 (by decide)
    · have c_13 : ¬ 1 = 0 := fun zz => c_13 ((nI_eq (a := 1) (b := 0) (by omega) (by omega)).mpr zz)
      refine lv_aload_n hx hb dX1_placeOf_8 rfl (lv_at hl 0 rfl) ?_
      refine va_get (D := (dC, dI)) (ci := 1) (v := .int (nI (bf j))) (C := RX1) (T := TX1) (N := 9) hx hb hts hIn hown hK hP 0 rfl rfl 8 (by decide) (hts (.fieldLink RX1 50 RX1 "began" "I") (by decide +kernel)) (fun _ h9 => h9) rfl dX1_placeOf_9 ?_
      have hP9 : va_P (dC, dI) vwCl (mw g0 g1 g2 cA (tb, n, kb, ln, rd, fp, (sg (j + 1)), (nI (mf j)), (nI (bf j)))) H := hP
      have hD9 : va_D A (mw g0 g1 g2 cA (tb, n, kb, ln, rd, fp, (sg (j + 1)), (nI (mf j)), (nI (bf j)))) := hD
      exact W.iret (v := (nI (bf j))) hx hb hr (fun t ht hW => ⟨⟨(nI (bf j)), (tb, n, kb, ln, rd, fp, (sg (j + 1)), (nI (mf j)), (nI (bf j))), rfl, ⟨rfl, _, _, _, rfl⟩, by rw [ht]; exact hP9, va_K.moved hW.alike hK, hD9⟩, hS.F ht⟩) hS.2.2 dX1_placeOf_12
  · refine lv_aload_n hx hb dX1_placeOf_0 rfl (lv_at hl 0 rfl) ?_
    refine lv_iload_n hx hb dX1_placeOf_1 rfl (lv_at hl 1 rfl) ?_
    have hFc := va_free (wc := mw g0 g1 g2 cA (tb, n, kb, ln, rd, fp, st, mt, bg)) hD hS hA [0, 1, 2] rfl
    refine va_calli (va_runV (As := [.int (nI k)]) (rest := []) ⟨hx, hb, hml, hown, hts⟩ (c_X1_go_far l dC dI g0 g1 g2 cA s.heap.size tb n kb ln rd fp st mt bg hkb hln k mf bf sg (hch hrd) (nI k) hk hrd (nI_pos' (by omega)) (Int32.le_refl _)) (cwV 1 hts gX1_placeOf_X1_go rfl rfl rfl (by decide +kernel) ⟨Nat.le_of_ble_eq_true rfl, Nat.le_of_ble_eq_true rfl⟩) ⟨mmut_blind, va_recv hK hP (ci := 1) (q0 := 0) rfl rfl, fun U hU hW => ⟨rfl, mmut_of hP hK hD hU hW⟩⟩ rfl rfl hl.1 rfl (lv_room (Nat.le_of_ble_eq_true rfl)) dX1_placeOf_2 ⟨Nat.le_of_ble_eq_true rfl, Nat.le_of_ble_eq_true rfl⟩) hS (fun q _ h => hFc q h) hFc (fun r_14 u_14 t_14 H1 locs ht hvm hw hB hz1 hk1 hS => ?_)
    obtain ⟨hw0, st_14, mt_14, bg_14, hw1⟩ := hw
    obtain rfl : r_14 = 0 := hw0
    obtain rfl : u_14 = (tb, n, kb, ln, rd, fp, st_14, mt_14, bg_14) := hw1
    obtain ⟨hP1, hK1, hD1⟩ := hB
    rw [ht] at hP1
    obtain ⟨hP, hD⟩ := va_join (wr := []) (w1 := mw g0 g1 g2 cA (tb, n, kb, ln, rd, fp, st_14, mt_14, bg_14)) hP hD [0, 1, 2] [] rfl rfl (by decide) (by decide) hk1 hFc hP1 hD1
    generalize H1 = H at hP hS ⊢
    have hP : va_P (dC, dI) vwCl [(g0, .inr (1, [.ref g1, .int (nI n), .ref g2, .int (nI ln), .int (bI rd), .int fp, .int (nI st_14), .int mt_14, .int bg_14])), (g1, .inl (cA, 1000, .inl (fun j => nI (tb j)))), (g2, .inl (cA, 1000, .inl (fun j => nI (kb j))))] H := hP
    have hD : va_D A [(g0, .inr (1, [.ref g1, .int (nI n), .ref g2, .int (nI ln), .int (bI rd), .int fp, .int (nI st_14), .int mt_14, .int bg_14])), (g1, .inl (cA, 1000, .inl (fun j => nI (tb j)))), (g2, .inl (cA, 1000, .inl (fun j => nI (kb j))))] := hD
    refine lv_if_eq (tgt := 13) hx hb dX1_placeOf_5 (by decide) (fun c_15 => ?_) (fun c_15 => ?_)
    · have c_15 : 0 = 0 := (nI_eq (a := 0) (b := 0) (by omega) (by omega)).mp c_15
      refine lv_aload_n hx hb dX1_placeOf_13 rfl (lv_at hl 0 rfl) ?_
      refine va_get (D := (dC, dI)) (ci := 1) (v := .int (bI rd)) (C := RX1) (T := TX1) (N := 9) hx hb hts hIn hown hK hP 0 rfl rfl 4 (by decide) (hts (.fieldLink RX1 60 RX1 "read" "Z") (by decide +kernel)) (fun _ h9 => h9) rfl dX1_placeOf_14 ?_
      refine lv_if_eq (tgt := 53) hx hb dX1_placeOf_17 (by decide) (fun c_16 => ?_) (fun c_16 => ?_)
      · exact absurd hrd (bI_0 c_16)
      · have c_16 := bI_n0 c_16
        refine lv_iload_n hx hb dX1_placeOf_20 rfl (lv_at hl 1 rfl) ?_
        refine lv_if_eq (tgt := 34) hx hb dX1_placeOf_21 (by decide) (fun c_17 => ?_) (fun c_17 => ?_)
        · have c_17 : k = 0 := (nI_eq (a := k) (b := 0) (by omega) (by omega)).mp c_17
          refine lv_iload_n hx hb dX1_placeOf_34 rfl (lv_at hl 1 rfl) ?_
          refine lv_if_lt (tgt := 53) hx hb dX1_placeOf_35 (by decide) (fun c_18 => ?_) (fun c_18 => ?_)
          · exact absurd c_18 (nI_pos (by omega))
          · have c_18 : ¬ k < 0 := fun zz => c_18 ((nI_ltI (a := k) (b := 0) (by omega) (by omega)).mpr zz)
            refine lv_aload_n hx hb dX1_placeOf_38 rfl (lv_at hl 0 rfl) ?_
            refine lv_iload_n hx hb dX1_placeOf_39 rfl (lv_at hl 1 rfl) ?_
            have hFc := va_free (wc := mw g0 g1 g2 cA (tb, n, kb, ln, rd, fp, st_14, mt_14, bg_14)) hD hS hA [0, 1, 2] rfl
            refine va_calli (va_runV (As := [.int (nI k)]) (rest := []) ⟨hx, hb, hml, hown, hts⟩ (c_X1_go_far l dC dI g0 g1 g2 cA H.size tb n kb ln rd fp st_14 mt_14 bg_14 hkb hln k mf bf sg (hch hrd) (nI k) hk hrd (nI_pos' (by omega)) (Int32.le_refl _)) (cwV 1 hts gX1_placeOf_X1_go rfl rfl rfl (by decide +kernel) ⟨Nat.le_of_ble_eq_true rfl, Nat.le_of_ble_eq_true rfl⟩) ⟨mmut_blind, va_recv hK hP (ci := 1) (q0 := 0) rfl rfl, fun U hU hW => ⟨rfl, mmut_of hP hK hD hU hW⟩⟩ rfl rfl hl.1 rfl (lv_room (Nat.le_of_ble_eq_true rfl)) dX1_placeOf_40 ⟨Nat.le_of_ble_eq_true rfl, Nat.le_of_ble_eq_true rfl⟩) hS (fun q _ h => hFc q h) hFc (fun r_19 u_19 t_19 H1 locs ht hvm hw hB hz1 hk1 hS => ?_)
            obtain ⟨hw0, st_19, mt_19, bg_19, hw1⟩ := hw
            obtain rfl : r_19 = 0 := hw0
            obtain rfl : u_19 = (tb, n, kb, ln, rd, fp, st_19, mt_19, bg_19) := hw1
            obtain ⟨hP1, hK1, hD1⟩ := hB
            rw [ht] at hP1
            obtain ⟨hP, hD⟩ := va_join (wr := []) (w1 := mw g0 g1 g2 cA (tb, n, kb, ln, rd, fp, st_19, mt_19, bg_19)) hP hD [0, 1, 2] [] rfl rfl (by decide) (by decide) hk1 hFc hP1 hD1
            generalize H1 = H at hP hS ⊢
            have hP : va_P (dC, dI) vwCl [(g0, .inr (1, [.ref g1, .int (nI n), .ref g2, .int (nI ln), .int (bI rd), .int fp, .int (nI st_19), .int mt_19, .int bg_19])), (g1, .inl (cA, 1000, .inl (fun j => nI (tb j)))), (g2, .inl (cA, 1000, .inl (fun j => nI (kb j))))] H := hP
            have hD : va_D A [(g0, .inr (1, [.ref g1, .int (nI n), .ref g2, .int (nI ln), .int (bI rd), .int fp, .int (nI st_19), .int mt_19, .int bg_19])), (g1, .inl (cA, 1000, .inl (fun j => nI (tb j)))), (g2, .inl (cA, 1000, .inl (fun j => nI (kb j))))] := hD
            refine lv_if_ne (tgt := 53) hx hb dX1_placeOf_43 (by decide) (fun c_20 => ?_) (fun c_20 => ?_)
            · exact absurd c_20 (by decide)
            · have c_20 : 0 = 0 := (nI_eq (a := 0) (b := 0) (by omega) (by omega)).mp c_20
              refine lv_aload_n hx hb dX1_placeOf_46 rfl (lv_at hl 0 rfl) ?_
              refine va_get (D := (dC, dI)) (ci := 1) (v := .int (nI ln)) (C := RX1) (T := TX1) (N := 9) hx hb hts hIn hown hK hP 0 rfl rfl 3 (by decide) (hts (.fieldLink RX1 44 RX1 "length" "I") (by decide +kernel)) (fun _ h9 => h9) rfl dX1_placeOf_47 ?_
              refine lv_goto (tgt := 54) hx hb dX1_placeOf_50 (by decide) ?_
              have hP9 : va_P (dC, dI) vwCl (mw g0 g1 g2 cA (tb, n, kb, ln, rd, fp, st_19, mt_19, bg_19)) H := hP
              have hD9 : va_D A (mw g0 g1 g2 cA (tb, n, kb, ln, rd, fp, st_19, mt_19, bg_19)) := hD
              exact W.iret (v := nI ln) hx hb hr (fun t ht hW => ⟨⟨nI ln, (tb, n, kb, ln, rd, fp, st_19, mt_19, bg_19), rfl, ⟨rfl, _, _, _, rfl⟩, by rw [ht]; exact hP9, va_K.moved hW.alike hK, hD9⟩, hS.F ht⟩) hS.2.2 dX1_placeOf_54
        · have c_17 : ¬ k = 0 := fun zz => c_17 ((nI_eq (a := k) (b := 0) (by omega) (by omega)).mpr zz)
          refine lv_aload_n hx hb dX1_placeOf_24 rfl (lv_at hl 0 rfl) ?_
          refine lv_iload_n hx hb dX1_placeOf_25 rfl (lv_at hl 1 rfl) ?_
          refine lv_iconst (v := 1) hx hb dX1_placeOf_26 (by decide) ?_
          refine lv_isub hx hb dX1_placeOf_27 ?_
          refine lv_topi (fun x_21 ex_21 => ?_)
          obtain rfl : x_21 = nI (k - 1) := ex_21.trans (pk_sub (a := k) (b := 1) (by omega))
          have hFc := va_free (wc := mw g0 g1 g2 cA (tb, n, kb, ln, rd, fp, st_14, mt_14, bg_14)) hD hS hA [0, 1, 2] rfl
          refine va_calli (va_runV (As := [.int (nI (k - 1))]) (rest := []) ⟨hx, hb, hml, hown, hts⟩ (c_X1_go_yes l dC dI g0 g1 g2 cA H.size tb n kb ln rd fp st_14 mt_14 bg_14 hkb hln k mf bf sg (hch hrd) (k - 1) (by omega) hk hrd) (cwV 1 hts gX1_placeOf_X1_go rfl rfl rfl (by decide +kernel) ⟨Nat.le_of_ble_eq_true rfl, Nat.le_of_ble_eq_true rfl⟩) ⟨mmut_blind, va_recv hK hP (ci := 1) (q0 := 0) rfl rfl, fun U hU hW => ⟨rfl, mmut_of hP hK hD hU hW⟩⟩ rfl rfl hl.1 rfl (lv_room (Nat.le_of_ble_eq_true rfl)) dX1_placeOf_28 ⟨Nat.le_of_ble_eq_true rfl, Nat.le_of_ble_eq_true rfl⟩) hS (fun q _ h => hFc q h) hFc (fun r_22 u_22 t_22 H1 locs ht hvm hw hB hz1 hk1 hS => ?_)
          obtain ⟨hw0, hw1⟩ := hw
          obtain rfl : r_22 = 1 := hw0
          obtain rfl : u_22 = (tb, n, kb, ln, rd, fp, (sg ((k - 1) + 1)), (nI (mf (k - 1))), (nI (bf (k - 1)))) := hw1
          obtain ⟨hP1, hK1, hD1⟩ := hB
          rw [ht] at hP1
          obtain ⟨hP, hD⟩ := va_join (wr := []) (w1 := mw g0 g1 g2 cA (tb, n, kb, ln, rd, fp, (sg ((k - 1) + 1)), (nI (mf (k - 1))), (nI (bf (k - 1))))) hP hD [0, 1, 2] [] rfl rfl (by decide) (by decide) hk1 hFc hP1 hD1
          generalize H1 = H at hP hS ⊢
          have hP : va_P (dC, dI) vwCl [(g0, .inr (1, [.ref g1, .int (nI n), .ref g2, .int (nI ln), .int (bI rd), .int fp, .int (nI (sg ((k - 1) + 1))), .int (nI (mf (k - 1))), .int (nI (bf (k - 1)))])), (g1, .inl (cA, 1000, .inl (fun j => nI (tb j)))), (g2, .inl (cA, 1000, .inl (fun j => nI (kb j))))] H := hP
          have hD : va_D A [(g0, .inr (1, [.ref g1, .int (nI n), .ref g2, .int (nI ln), .int (bI rd), .int fp, .int (nI (sg ((k - 1) + 1))), .int (nI (mf (k - 1))), .int (nI (bf (k - 1)))])), (g1, .inl (cA, 1000, .inl (fun j => nI (tb j)))), (g2, .inl (cA, 1000, .inl (fun j => nI (kb j))))] := hD
          refine lv_if_eq (tgt := 53) hx hb dX1_placeOf_31 (by decide) (fun c_23 => ?_) (fun c_23 => ?_)
          · exact absurd c_23 (by decide)
          · have c_23 : ¬ 1 = 0 := fun zz => c_23 ((nI_eq (a := 1) (b := 0) (by omega) (by omega)).mpr zz)
            refine lv_iload_n hx hb dX1_placeOf_34 rfl (lv_at hl 1 rfl) ?_
            refine lv_if_lt (tgt := 53) hx hb dX1_placeOf_35 (by decide) (fun c_24 => ?_) (fun c_24 => ?_)
            · exact absurd c_24 (nI_pos (by omega))
            · have c_24 : ¬ k < 0 := fun zz => c_24 ((nI_ltI (a := k) (b := 0) (by omega) (by omega)).mpr zz)
              refine lv_aload_n hx hb dX1_placeOf_38 rfl (lv_at hl 0 rfl) ?_
              refine lv_iload_n hx hb dX1_placeOf_39 rfl (lv_at hl 1 rfl) ?_
              have hFc := va_free (wc := mw g0 g1 g2 cA (tb, n, kb, ln, rd, fp, (sg ((k - 1) + 1)), (nI (mf (k - 1))), (nI (bf (k - 1))))) hD hS hA [0, 1, 2] rfl
              refine va_calli (va_runV (As := [.int (nI k)]) (rest := []) ⟨hx, hb, hml, hown, hts⟩ (c_X1_go_far l dC dI g0 g1 g2 cA H.size tb n kb ln rd fp (sg ((k - 1) + 1)) (nI (mf (k - 1))) (nI (bf (k - 1))) hkb hln k mf bf sg (hch hrd) (nI k) hk hrd (nI_pos' (by omega)) (Int32.le_refl _)) (cwV 1 hts gX1_placeOf_X1_go rfl rfl rfl (by decide +kernel) ⟨Nat.le_of_ble_eq_true rfl, Nat.le_of_ble_eq_true rfl⟩) ⟨mmut_blind, va_recv hK hP (ci := 1) (q0 := 0) rfl rfl, fun U hU hW => ⟨rfl, mmut_of hP hK hD hU hW⟩⟩ rfl rfl hl.1 rfl (lv_room (Nat.le_of_ble_eq_true rfl)) dX1_placeOf_40 ⟨Nat.le_of_ble_eq_true rfl, Nat.le_of_ble_eq_true rfl⟩) hS (fun q _ h => hFc q h) hFc (fun r_25 u_25 t_25 H1 locs ht hvm hw hB hz1 hk1 hS => ?_)
              obtain ⟨hw0, st_25, mt_25, bg_25, hw1⟩ := hw
              obtain rfl : r_25 = 0 := hw0
              obtain rfl : u_25 = (tb, n, kb, ln, rd, fp, st_25, mt_25, bg_25) := hw1
              obtain ⟨hP1, hK1, hD1⟩ := hB
              rw [ht] at hP1
              obtain ⟨hP, hD⟩ := va_join (wr := []) (w1 := mw g0 g1 g2 cA (tb, n, kb, ln, rd, fp, st_25, mt_25, bg_25)) hP hD [0, 1, 2] [] rfl rfl (by decide) (by decide) hk1 hFc hP1 hD1
              generalize H1 = H at hP hS ⊢
              have hP : va_P (dC, dI) vwCl [(g0, .inr (1, [.ref g1, .int (nI n), .ref g2, .int (nI ln), .int (bI rd), .int fp, .int (nI st_25), .int mt_25, .int bg_25])), (g1, .inl (cA, 1000, .inl (fun j => nI (tb j)))), (g2, .inl (cA, 1000, .inl (fun j => nI (kb j))))] H := hP
              have hD : va_D A [(g0, .inr (1, [.ref g1, .int (nI n), .ref g2, .int (nI ln), .int (bI rd), .int fp, .int (nI st_25), .int mt_25, .int bg_25])), (g1, .inl (cA, 1000, .inl (fun j => nI (tb j)))), (g2, .inl (cA, 1000, .inl (fun j => nI (kb j))))] := hD
              refine lv_if_ne (tgt := 53) hx hb dX1_placeOf_43 (by decide) (fun c_26 => ?_) (fun c_26 => ?_)
              · exact absurd c_26 (by decide)
              · have c_26 : 0 = 0 := (nI_eq (a := 0) (b := 0) (by omega) (by omega)).mp c_26
                refine lv_aload_n hx hb dX1_placeOf_46 rfl (lv_at hl 0 rfl) ?_
                refine va_get (D := (dC, dI)) (ci := 1) (v := .int (nI ln)) (C := RX1) (T := TX1) (N := 9) hx hb hts hIn hown hK hP 0 rfl rfl 3 (by decide) (hts (.fieldLink RX1 44 RX1 "length" "I") (by decide +kernel)) (fun _ h9 => h9) rfl dX1_placeOf_47 ?_
                refine lv_goto (tgt := 54) hx hb dX1_placeOf_50 (by decide) ?_
                have hP9 : va_P (dC, dI) vwCl (mw g0 g1 g2 cA (tb, n, kb, ln, rd, fp, st_25, mt_25, bg_25)) H := hP
                have hD9 : va_D A (mw g0 g1 g2 cA (tb, n, kb, ln, rd, fp, st_25, mt_25, bg_25)) := hD
                exact W.iret (v := nI ln) hx hb hr (fun t ht hW => ⟨⟨nI ln, (tb, n, kb, ln, rd, fp, st_25, mt_25, bg_25), rfl, ⟨rfl, _, _, _, rfl⟩, by rw [ht]; exact hP9, va_K.moved hW.alike hK, hD9⟩, hS.F ht⟩) hS.2.2 dX1_placeOf_54
    · exact absurd c_15 (by decide)
  · refine lv_aload_n hx hb dX1_placeOf_0 rfl (lv_at hl 0 rfl) ?_
    refine lv_iload_n hx hb dX1_placeOf_1 rfl (lv_at hl 1 rfl) ?_
    have hFc := va_free (wc := mw g0 g1 g2 cA (tb, n, kb, ln, rd, fp, st, mt, bg)) hD hS hA [0, 1, 2] rfl
    refine va_calli (va_runV (As := [.int (nI j)]) (rest := []) ⟨hx, hb, hml, hown, hts⟩ (c_X1_go_far l dC dI g0 g1 g2 cA s.heap.size tb n kb ln rd fp st mt bg hkb hln k mf bf sg (hch hrd) (nI j) hk hrd (nI_pos' (by omega)) (nI_le (by omega) (by omega))) (cwV 1 hts gX1_placeOf_X1_go rfl rfl rfl (by decide +kernel) ⟨Nat.le_of_ble_eq_true rfl, Nat.le_of_ble_eq_true rfl⟩) ⟨mmut_blind, va_recv hK hP (ci := 1) (q0 := 0) rfl rfl, fun U hU hW => ⟨rfl, mmut_of hP hK hD hU hW⟩⟩ rfl rfl hl.1 rfl (lv_room (Nat.le_of_ble_eq_true rfl)) dX1_placeOf_2 ⟨Nat.le_of_ble_eq_true rfl, Nat.le_of_ble_eq_true rfl⟩) hS (fun q _ h => hFc q h) hFc (fun r_27 u_27 t_27 H1 locs ht hvm hw hB hz1 hk1 hS => ?_)
    obtain ⟨hw0, st_27, mt_27, bg_27, hw1⟩ := hw
    obtain rfl : r_27 = 0 := hw0
    obtain rfl : u_27 = (tb, n, kb, ln, rd, fp, st_27, mt_27, bg_27) := hw1
    obtain ⟨hP1, hK1, hD1⟩ := hB
    rw [ht] at hP1
    obtain ⟨hP, hD⟩ := va_join (wr := []) (w1 := mw g0 g1 g2 cA (tb, n, kb, ln, rd, fp, st_27, mt_27, bg_27)) hP hD [0, 1, 2] [] rfl rfl (by decide) (by decide) hk1 hFc hP1 hD1
    generalize H1 = H at hP hS ⊢
    have hP : va_P (dC, dI) vwCl [(g0, .inr (1, [.ref g1, .int (nI n), .ref g2, .int (nI ln), .int (bI rd), .int fp, .int (nI st_27), .int mt_27, .int bg_27])), (g1, .inl (cA, 1000, .inl (fun j => nI (tb j)))), (g2, .inl (cA, 1000, .inl (fun j => nI (kb j))))] H := hP
    have hD : va_D A [(g0, .inr (1, [.ref g1, .int (nI n), .ref g2, .int (nI ln), .int (bI rd), .int fp, .int (nI st_27), .int mt_27, .int bg_27])), (g1, .inl (cA, 1000, .inl (fun j => nI (tb j)))), (g2, .inl (cA, 1000, .inl (fun j => nI (kb j))))] := hD
    refine lv_if_eq (tgt := 13) hx hb dX1_placeOf_5 (by decide) (fun c_28 => ?_) (fun c_28 => ?_)
    · have c_28 : 0 = 0 := (nI_eq (a := 0) (b := 0) (by omega) (by omega)).mp c_28
      refine lv_aload_n hx hb dX1_placeOf_13 rfl (lv_at hl 0 rfl) ?_
      refine va_get (D := (dC, dI)) (ci := 1) (v := .int (bI rd)) (C := RX1) (T := TX1) (N := 9) hx hb hts hIn hown hK hP 0 rfl rfl 4 (by decide) (hts (.fieldLink RX1 60 RX1 "read" "Z") (by decide +kernel)) (fun _ h9 => h9) rfl dX1_placeOf_14 ?_
      refine lv_if_eq (tgt := 53) hx hb dX1_placeOf_17 (by decide) (fun c_29 => ?_) (fun c_29 => ?_)
      · exact absurd hrd (bI_0 c_29)
      · have c_29 := bI_n0 c_29
        refine lv_iload_n hx hb dX1_placeOf_20 rfl (lv_at hl 1 rfl) ?_
        refine lv_if_eq (tgt := 34) hx hb dX1_placeOf_21 (by decide) (fun c_30 => ?_) (fun c_30 => ?_)
        · exact absurd c_30 (nI_ne0 (by omega) (by omega))
        · have c_30 : ¬ j = 0 := fun zz => c_30 ((nI_eq (a := j) (b := 0) (by omega) (by omega)).mpr zz)
          refine lv_aload_n hx hb dX1_placeOf_24 rfl (lv_at hl 0 rfl) ?_
          refine lv_iload_n hx hb dX1_placeOf_25 rfl (lv_at hl 1 rfl) ?_
          refine lv_iconst (v := 1) hx hb dX1_placeOf_26 (by decide) ?_
          refine lv_isub hx hb dX1_placeOf_27 ?_
          refine lv_topi (fun x_31 ex_31 => ?_)
          obtain rfl : x_31 = nI (j - 1) := ex_31.trans (pk_sub (a := j) (b := 1) (by omega))
          have hFc := va_free (wc := mw g0 g1 g2 cA (tb, n, kb, ln, rd, fp, st_27, mt_27, bg_27)) hD hS hA [0, 1, 2] rfl
          refine va_calli (va_runV (As := [.int (nI (j - 1))]) (rest := []) ⟨hx, hb, hml, hown, hts⟩ (c_X1_go_far l dC dI g0 g1 g2 cA H.size tb n kb ln rd fp st_27 mt_27 bg_27 hkb hln k mf bf sg (hch hrd) (nI (j - 1)) hk hrd (nI_pos' (by omega)) (nI_le (by omega) (by omega))) (cwV 1 hts gX1_placeOf_X1_go rfl rfl rfl (by decide +kernel) ⟨Nat.le_of_ble_eq_true rfl, Nat.le_of_ble_eq_true rfl⟩) ⟨mmut_blind, va_recv hK hP (ci := 1) (q0 := 0) rfl rfl, fun U hU hW => ⟨rfl, mmut_of hP hK hD hU hW⟩⟩ rfl rfl hl.1 rfl (lv_room (Nat.le_of_ble_eq_true rfl)) dX1_placeOf_28 ⟨Nat.le_of_ble_eq_true rfl, Nat.le_of_ble_eq_true rfl⟩) hS (fun q _ h => hFc q h) hFc (fun r_32 u_32 t_32 H1 locs ht hvm hw hB hz1 hk1 hS => ?_)
          obtain ⟨hw0, st_32, mt_32, bg_32, hw1⟩ := hw
          obtain rfl : r_32 = 0 := hw0
          obtain rfl : u_32 = (tb, n, kb, ln, rd, fp, st_32, mt_32, bg_32) := hw1
          obtain ⟨hP1, hK1, hD1⟩ := hB
          rw [ht] at hP1
          obtain ⟨hP, hD⟩ := va_join (wr := []) (w1 := mw g0 g1 g2 cA (tb, n, kb, ln, rd, fp, st_32, mt_32, bg_32)) hP hD [0, 1, 2] [] rfl rfl (by decide) (by decide) hk1 hFc hP1 hD1
          generalize H1 = H at hP hS ⊢
          have hP : va_P (dC, dI) vwCl [(g0, .inr (1, [.ref g1, .int (nI n), .ref g2, .int (nI ln), .int (bI rd), .int fp, .int (nI st_32), .int mt_32, .int bg_32])), (g1, .inl (cA, 1000, .inl (fun j => nI (tb j)))), (g2, .inl (cA, 1000, .inl (fun j => nI (kb j))))] H := hP
          have hD : va_D A [(g0, .inr (1, [.ref g1, .int (nI n), .ref g2, .int (nI ln), .int (bI rd), .int fp, .int (nI st_32), .int mt_32, .int bg_32])), (g1, .inl (cA, 1000, .inl (fun j => nI (tb j)))), (g2, .inl (cA, 1000, .inl (fun j => nI (kb j))))] := hD
          refine lv_if_eq (tgt := 53) hx hb dX1_placeOf_31 (by decide) (fun c_33 => ?_) (fun c_33 => ?_)
          · have c_33 : 0 = 0 := (nI_eq (a := 0) (b := 0) (by omega) (by omega)).mp c_33
            refine lv_iconst (v := -1) hx hb dX1_placeOf_53 (by decide) ?_
            have hP9 : va_P (dC, dI) vwCl (mw g0 g1 g2 cA (tb, n, kb, ln, rd, fp, st_32, mt_32, bg_32)) H := hP
            have hD9 : va_D A (mw g0 g1 g2 cA (tb, n, kb, ln, rd, fp, st_32, mt_32, bg_32)) := hD
            exact W.iret (v := (-1)) hx hb hr (fun t ht hW => ⟨⟨(-1), (tb, n, kb, ln, rd, fp, st_32, mt_32, bg_32), rfl, ⟨rfl, _, _, _, rfl⟩, by rw [ht]; exact hP9, va_K.moved hW.alike hK, hD9⟩, hS.F ht⟩) hS.2.2 dX1_placeOf_54
          · exact absurd c_33 (by decide)
    · exact absurd c_28 (by decide)
end
section
def mFit (kd : Int32) (n : Nat) (v : Int32) : Bool := if kd = 0 then (if n = 0 then mBeg v else mPart v) else if kd = 1 then mPart v else mBlank v
def mRunL (kd : Int32) (mf : Nat → Nat) (k : Nat) : Nat → Nat → Nat → Nat
  | 0, _, n => n
  | d + 1, z, n => if mFit kd n (nI (mf z)) then (if z + 1 < k then mRunL kd mf k d (z + 1) (n + 1) else n + 1) else n
theorem mRunL_s {kd : Int32} {mf : Nat → Nat} {k d z n : Nat} : mRunL kd mf k (d + 1) z n = if mFit kd n (nI (mf z)) then (if z + 1 < k then mRunL kd mf k d (z + 1) (n + 1) else n + 1) else n := rfl
def RunCase (kd : Int32) (rd : Bool) (k : Nat) (mf : Nat → Nat) (i res : Int32) : Prop :=
  (kd < 0 ∧ res = 0) ∨ (¬ kd < 0 ∧ 2 < kd ∧ res = 0) ∨ (¬ kd < 0 ∧ ¬ 2 < kd ∧ (rd = false ∨ i < 0) ∧ res = 0) ∨ (¬ kd < 0 ∧ ¬ 2 < kd ∧ rd = true ∧ 0 ≤ i ∧ nI k ≤ i ∧ res = 0) ∨ (¬ kd < 0 ∧ ¬ 2 < kd ∧ rd = true ∧ ∃ j, j < k ∧ i = nI j ∧ res = nI (mRunL kd mf k (k - j) j 0))
set_option maxHeartbeats 4000000 in
set_option maxRecDepth 100000 in
theorem c_X1_run (l : Launch) (dC : Nat → ClassId) (dI : Nat → Nat → Nat) (g0 g1 g2 : Nat) (cA : ClassId) (sz : Nat) (tb : Nat → Nat) (n : Nat) (kb : Nat → Nat) (ln : Nat) (rd : Bool) (fp : Int32) (st : Nat) (mt bg : Int32) (hkb : ∀ j, kb j < 256) (hln : ln ≤ 1000) (k : Nat) (hk : k ≤ 1000) (mf bf sg : Nat → Nat) (hch : rd = true → Chain kb ln k mf bf sg) (kd i res : Int32) (hc : RunCase kd rd k mf i res) : Met l yX1_run wsX1_run ({ frames := 4, cells := 0, slots := 0, locals := 89 }) (va_Pc [.ref g0, .int kd, .int i] (fun U => mmut dC dI g0 g1 g2 cA sz (tb, n, kb, ln, rd, fp, st, mt, bg) U)) (va_Qi (fun (r : Int32) (u : MS) => r = res ∧ ∃ (st' : Nat) (mt' bg' : Int32), u = (tb, n, kb, ln, rd, fp, st', mt', bg')) (matt dC dI g0 g1 g2 cA (va_A (mw g0 g1 g2 cA (tb, n, kb, ln, rd, fp, st, mt, bg)) sz)) (va_A (mw g0 g1 g2 cA (tb, n, kb, ln, rd, fp, st, mt, bg)) sz)) 0 0 (va_A (mw g0 g1 g2 cA (tb, n, kb, ln, rd, fp, st, mt, bg)) sz) := by
  refine Met.ofW (cc := cX1_run) (maxL := 6) (ret := (some .int)) (by decide) rfl ?_
  intro p e s m args below meth c s₁ B hml hv
  obtain ⟨rfl, hsz, hP, hK, hD0⟩ := hv
  have hx := B.exec
  have hb := B.bytes
  have hr := B.returns
  have hts := atoms_spec (ws := wsX1_run) B.pre
  have hown : s.vm.findClass RX1 = some m.cls := findClass_of_methodNamed B.named
  subst hsz
  have hD := hD0.self (sz := s.heap.size)
  generalize hAe : va_A (mw g0 g1 g2 cA (tb, n, kb, ln, rd, fp, st, mt, bg)) s.heap.size = A at hD ⊢
  have hA : ∀ q : Nat, s.heap.size ≤ q → A q := fun q h => by rw [← hAe]; exact Or.inr h
  have hS : va_S A s.heap s.heap [] := va_S.rf
  have hP : va_P (dC, dI) vwCl [(g0, .inr (1, [.ref g1, .int (nI n), .ref g2, .int (nI ln), .int (bI rd), .int fp, .int (nI st), .int mt, .int bg])), (g1, .inl (cA, 1000, .inl (fun j => nI (tb j)))), (g2, .inl (cA, 1000, .inl (fun j => nI (kb j))))] s.heap := hP
  have hD : va_D A [(g0, .inr (1, [.ref g1, .int (nI n), .ref g2, .int (nI ln), .int (bI rd), .int fp, .int (nI st), .int mt, .int bg])), (g1, .inl (cA, 1000, .inl (fun j => nI (tb j)))), (g2, .inl (cA, 1000, .inl (fun j => nI (kb j))))] := hD
  have hIn : ∀ w ∈ wsX10, w ∈ wsX1_run := by decide +kernel
  have hl := lv_entry ([.ref g0, .int kd, .int i]) (n := 6) (Nat.le_of_ble_eq_true rfl)
  rw [lg_entry_eq]
  generalize (lg_sl ([.ref g0, .int kd, .int i]) ++ List.replicate (6 - (lg_sl ([.ref g0, .int kd, .int i])).length) Slot.unset).toArray = ls at hl ⊢
  have hl : lv_has ls 6 [(0, .ref g0), (1, .int kd), (2, .int i)] := hl
  rcases hc with ⟨h1, rfl⟩ | ⟨h1, h2, rfl⟩ | ⟨h1, h2, ho, rfl⟩ | ⟨h1, h2, hrd, h0, hf, rfl⟩ | ⟨h1, h2, hrd, j, hj, rfl, hR0⟩
  · refine lv_iload_n hx hb dX1_run_0 rfl (lv_at hl 1 rfl) ?_
    refine lv_if_lt (tgt := 17) hx hb dX1_run_1 (by decide) (fun c_1 => ?_) (fun c_1 => ?_)
    · refine lv_iconst (v := 0) hx hb dX1_run_17 (by decide) ?_
      have hP9 : va_P (dC, dI) vwCl (mw g0 g1 g2 cA (tb, n, kb, ln, rd, fp, st, mt, bg)) s.heap := hP
      have hD9 : va_D A (mw g0 g1 g2 cA (tb, n, kb, ln, rd, fp, st, mt, bg)) := hD
      exact W.iret (v := 0) hx hb hr (fun t ht hW => ⟨⟨0, (tb, n, kb, ln, rd, fp, st, mt, bg), rfl, ⟨rfl, _, _, _, rfl⟩, by rw [ht]; exact hP9, va_K.moved hW.alike hK, hD9⟩, hS.F ht⟩) hS.2.2 dX1_run_18
    · exact absurd h1 c_1
  · refine lv_iload_n hx hb dX1_run_0 rfl (lv_at hl 1 rfl) ?_
    refine lv_if_lt (tgt := 17) hx hb dX1_run_1 (by decide) (fun c_2 => ?_) (fun c_2 => ?_)
    · exact absurd c_2 h1
    · refine lv_iload_n hx hb dX1_run_4 rfl (lv_at hl 1 rfl) ?_
      refine lv_iconst (v := 2) hx hb dX1_run_5 (by decide) ?_
      refine lv_icmp_gt (tgt := 17) hx hb dX1_run_6 (by decide) (fun c_3 => ?_) (fun c_3 => ?_)
      · refine lv_iconst (v := 0) hx hb dX1_run_17 (by decide) ?_
        have hP9 : va_P (dC, dI) vwCl (mw g0 g1 g2 cA (tb, n, kb, ln, rd, fp, st, mt, bg)) s.heap := hP
        have hD9 : va_D A (mw g0 g1 g2 cA (tb, n, kb, ln, rd, fp, st, mt, bg)) := hD
        exact W.iret (v := 0) hx hb hr (fun t ht hW => ⟨⟨0, (tb, n, kb, ln, rd, fp, st, mt, bg), rfl, ⟨rfl, _, _, _, rfl⟩, by rw [ht]; exact hP9, va_K.moved hW.alike hK, hD9⟩, hS.F ht⟩) hS.2.2 dX1_run_18
      · exact absurd h2 c_3
  · refine lv_iload_n hx hb dX1_run_0 rfl (lv_at hl 1 rfl) ?_
    refine lv_if_lt (tgt := 17) hx hb dX1_run_1 (by decide) (fun c_4 => ?_) (fun c_4 => ?_)
    · exact absurd c_4 h1
    · refine lv_iload_n hx hb dX1_run_4 rfl (lv_at hl 1 rfl) ?_
      refine lv_iconst (v := 2) hx hb dX1_run_5 (by decide) ?_
      refine lv_icmp_gt (tgt := 17) hx hb dX1_run_6 (by decide) (fun c_5 => ?_) (fun c_5 => ?_)
      · exact absurd c_5 h2
      · refine lv_aload_n hx hb dX1_run_9 rfl (lv_at hl 0 rfl) ?_
        refine lv_iload_n hx hb dX1_run_10 rfl (lv_at hl 2 rfl) ?_
        have hFc := va_free (wc := mw g0 g1 g2 cA (tb, n, kb, ln, rd, fp, st, mt, bg)) hD hS hA [0, 1, 2] rfl
        refine va_calli (va_runV (As := [.int i]) (rest := []) ⟨hx, hb, hml, hown, hts⟩ (c_X1_go_off l dC dI g0 g1 g2 cA s.heap.size tb n kb ln rd fp st mt bg i ho) (cwV 1 hts gX1_run_X1_go rfl rfl rfl (by decide +kernel) ⟨Nat.le_of_ble_eq_true rfl, Nat.le_of_ble_eq_true rfl⟩) ⟨mmut_blind, va_recv hK hP (ci := 1) (q0 := 0) rfl rfl, fun U hU hW => ⟨rfl, mmut_of hP hK hD hU hW⟩⟩ rfl rfl hl.1 rfl (lv_room (Nat.le_of_ble_eq_true rfl)) dX1_run_11 ⟨Nat.le_of_ble_eq_true rfl, Nat.le_of_ble_eq_true rfl⟩) hS (fun q _ h => hFc q h) hFc (fun r_6 u_6 t_6 H1 locs ht hvm hw hB hz1 hk1 hS => ?_)
        obtain ⟨hw0, hw1⟩ := hw
        obtain rfl : r_6 = 0 := hw0
        obtain rfl : u_6 = (tb, n, kb, ln, rd, fp, 0, mt, bg) := hw1
        obtain ⟨hP1, hK1, hD1⟩ := hB
        rw [ht] at hP1
        obtain ⟨hP, hD⟩ := va_join (wr := []) (w1 := mw g0 g1 g2 cA (tb, n, kb, ln, rd, fp, 0, mt, bg)) hP hD [0, 1, 2] [] rfl rfl (by decide) (by decide) hk1 hFc hP1 hD1
        generalize H1 = H at hP hS ⊢
        have hP : va_P (dC, dI) vwCl [(g0, .inr (1, [.ref g1, .int (nI n), .ref g2, .int (nI ln), .int (bI rd), .int fp, .int (nI 0), .int mt, .int bg])), (g1, .inl (cA, 1000, .inl (fun j => nI (tb j)))), (g2, .inl (cA, 1000, .inl (fun j => nI (kb j))))] H := hP
        have hD : va_D A [(g0, .inr (1, [.ref g1, .int (nI n), .ref g2, .int (nI ln), .int (bI rd), .int fp, .int (nI 0), .int mt, .int bg])), (g1, .inl (cA, 1000, .inl (fun j => nI (tb j)))), (g2, .inl (cA, 1000, .inl (fun j => nI (kb j))))] := hD
        refine lv_if_ne (tgt := 19) hx hb dX1_run_14 (by decide) (fun c_7 => ?_) (fun c_7 => ?_)
        · exact absurd c_7 (by decide)
        · have c_7 : 0 = 0 := (nI_eq (a := 0) (b := 0) (by omega) (by omega)).mp c_7
          refine lv_iconst (v := 0) hx hb dX1_run_17 (by decide) ?_
          have hP9 : va_P (dC, dI) vwCl (mw g0 g1 g2 cA (tb, n, kb, ln, rd, fp, 0, mt, bg)) H := hP
          have hD9 : va_D A (mw g0 g1 g2 cA (tb, n, kb, ln, rd, fp, 0, mt, bg)) := hD
          exact W.iret (v := 0) hx hb hr (fun t ht hW => ⟨⟨0, (tb, n, kb, ln, rd, fp, 0, mt, bg), rfl, ⟨rfl, _, _, _, rfl⟩, by rw [ht]; exact hP9, va_K.moved hW.alike hK, hD9⟩, hS.F ht⟩) hS.2.2 dX1_run_18
  · refine lv_iload_n hx hb dX1_run_0 rfl (lv_at hl 1 rfl) ?_
    refine lv_if_lt (tgt := 17) hx hb dX1_run_1 (by decide) (fun c_8 => ?_) (fun c_8 => ?_)
    · exact absurd c_8 h1
    · refine lv_iload_n hx hb dX1_run_4 rfl (lv_at hl 1 rfl) ?_
      refine lv_iconst (v := 2) hx hb dX1_run_5 (by decide) ?_
      refine lv_icmp_gt (tgt := 17) hx hb dX1_run_6 (by decide) (fun c_9 => ?_) (fun c_9 => ?_)
      · exact absurd c_9 h2
      · refine lv_aload_n hx hb dX1_run_9 rfl (lv_at hl 0 rfl) ?_
        refine lv_iload_n hx hb dX1_run_10 rfl (lv_at hl 2 rfl) ?_
        have hFc := va_free (wc := mw g0 g1 g2 cA (tb, n, kb, ln, rd, fp, st, mt, bg)) hD hS hA [0, 1, 2] rfl
        refine va_calli (va_runV (As := [.int i]) (rest := []) ⟨hx, hb, hml, hown, hts⟩ (c_X1_go_far l dC dI g0 g1 g2 cA s.heap.size tb n kb ln rd fp st mt bg hkb hln k mf bf sg (hch hrd) i hk hrd h0 hf) (cwV 1 hts gX1_run_X1_go rfl rfl rfl (by decide +kernel) ⟨Nat.le_of_ble_eq_true rfl, Nat.le_of_ble_eq_true rfl⟩) ⟨mmut_blind, va_recv hK hP (ci := 1) (q0 := 0) rfl rfl, fun U hU hW => ⟨rfl, mmut_of hP hK hD hU hW⟩⟩ rfl rfl hl.1 rfl (lv_room (Nat.le_of_ble_eq_true rfl)) dX1_run_11 ⟨Nat.le_of_ble_eq_true rfl, Nat.le_of_ble_eq_true rfl⟩) hS (fun q _ h => hFc q h) hFc (fun r_10 u_10 t_10 H1 locs ht hvm hw hB hz1 hk1 hS => ?_)
        obtain ⟨hw0, st_10, mt_10, bg_10, hw1⟩ := hw
        obtain rfl : r_10 = 0 := hw0
        obtain rfl : u_10 = (tb, n, kb, ln, rd, fp, st_10, mt_10, bg_10) := hw1
        obtain ⟨hP1, hK1, hD1⟩ := hB
        rw [ht] at hP1
        obtain ⟨hP, hD⟩ := va_join (wr := []) (w1 := mw g0 g1 g2 cA (tb, n, kb, ln, rd, fp, st_10, mt_10, bg_10)) hP hD [0, 1, 2] [] rfl rfl (by decide) (by decide) hk1 hFc hP1 hD1
        generalize H1 = H at hP hS ⊢
        have hP : va_P (dC, dI) vwCl [(g0, .inr (1, [.ref g1, .int (nI n), .ref g2, .int (nI ln), .int (bI rd), .int fp, .int (nI st_10), .int mt_10, .int bg_10])), (g1, .inl (cA, 1000, .inl (fun j => nI (tb j)))), (g2, .inl (cA, 1000, .inl (fun j => nI (kb j))))] H := hP
        have hD : va_D A [(g0, .inr (1, [.ref g1, .int (nI n), .ref g2, .int (nI ln), .int (bI rd), .int fp, .int (nI st_10), .int mt_10, .int bg_10])), (g1, .inl (cA, 1000, .inl (fun j => nI (tb j)))), (g2, .inl (cA, 1000, .inl (fun j => nI (kb j))))] := hD
        refine lv_if_ne (tgt := 19) hx hb dX1_run_14 (by decide) (fun c_11 => ?_) (fun c_11 => ?_)
        · exact absurd c_11 (by decide)
        · have c_11 : 0 = 0 := (nI_eq (a := 0) (b := 0) (by omega) (by omega)).mp c_11
          refine lv_iconst (v := 0) hx hb dX1_run_17 (by decide) ?_
          have hP9 : va_P (dC, dI) vwCl (mw g0 g1 g2 cA (tb, n, kb, ln, rd, fp, st_10, mt_10, bg_10)) H := hP
          have hD9 : va_D A (mw g0 g1 g2 cA (tb, n, kb, ln, rd, fp, st_10, mt_10, bg_10)) := hD
          exact W.iret (v := 0) hx hb hr (fun t ht hW => ⟨⟨0, (tb, n, kb, ln, rd, fp, st_10, mt_10, bg_10), rfl, ⟨rfl, _, _, _, rfl⟩, by rw [ht]; exact hP9, va_K.moved hW.alike hK, hD9⟩, hS.F ht⟩) hS.2.2 dX1_run_18
  · have hsgb := chain_sg hkb (hch hrd)
    have loop : ∀ (d z nn : Nat) (H : Heap) (locs : List Loc) (ls : Array Slot), z + (d + 1) = k → nn ≤ z → nI (mRunL kd mf k (d + 1) z nn) = res → va_P (dC, dI) vwCl [(g0, .inr (1, [.ref g1, .int (nI n), .ref g2, .int (nI ln), .int (bI rd), .int fp, .int (nI (sg (z + 1))), .int (nI (mf z)), .int (nI (bf z))])), (g1, .inl (cA, 1000, .inl (fun j => nI (tb j)))), (g2, .inl (cA, 1000, .inl (fun j => nI (kb j))))] H → va_D A [(g0, .inr (1, [.ref g1, .int (nI n), .ref g2, .int (nI ln), .int (bI rd), .int fp, .int (nI (sg (z + 1))), .int (nI (mf z)), .int (nI (bf z))])), (g1, .inl (cA, 1000, .inl (fun j => nI (tb j)))), (g2, .inl (cA, 1000, .inl (fun j => nI (kb j))))] → va_S A s.heap H locs → lv_has ls 6 [(4, .int 1), (3, .int (nI nn)), (0, .ref g0), (1, .int kd), (2, .int (nI j))] → W p l e (headSpec wsX1_run ({ frames := 4, cells := 0, slots := 0, locals := 89 })).room s m ([.ref g0, .int kd, .int (nI j)] : List Value).toArray below meth c H locs 0 0 (MQ below (va_Qi (fun (r : Int32) (u : MS) => r = res ∧ ∃ (st' : Nat) (mt' bg' : Int32), u = (tb, n, kb, ln, rd, fp, st', mt', bg')) (matt dC dI g0 g1 g2 cA A) A) ([.ref g0, .int kd, .int (nI j)] : List Value).toArray s 0 0 A) (F0 m 24 ls []) := by
      intro d
      induction d with
      | zero =>
        intro z nn H locs ls hzd hnz hR hP hD hS hl
        have hsb := hsgb (z + 1) (by omega)
        have hz : ¬ z + 1 < k := by omega
        refine lv_iload hx hb dX1_run_24 (lv_at hl 0 rfl) ?_
        refine lv_if_eq (tgt := 116) hx hb dX1_run_26 (by decide) (fun c_12 => ?_) (fun c_12 => ?_)
        · exact absurd c_12 (by decide)
        · have c_12 : ¬ 1 = 0 := fun zz => c_12 ((nI_eq (a := 1) (b := 0) (by omega) (by omega)).mpr zz)
          refine lv_iload_n hx hb dX1_run_29 rfl (lv_at hl 3 rfl) ?_
          refine lv_if_ne (tgt := 57) hx hb dX1_run_30 (by decide) (fun c_13 => ?_) (fun c_13 => ?_)
          · refine lv_iload_n hx hb dX1_run_57 rfl (lv_at hl 3 rfl) ?_
            refine lv_iconst (v := 1) hx hb dX1_run_58 (by decide) ?_
            refine lv_icmp_ne (tgt := 72) hx hb dX1_run_59 (by decide) (fun c_14 => ?_) (fun c_14 => ?_)
            · refine lv_aload_n hx hb dX1_run_72 rfl (lv_at hl 2 rfl) ?_
              refine va_get (D := (dC, dI)) (ci := 1) (v := .int (nI (mf z))) (C := RX1) (T := TX1) (N := 9) hx hb hts hIn hown hK hP 0 rfl rfl 7 (by decide) (hts (.fieldLink RX1 57 RX1 "met" "I") (by decide +kernel)) (fun _ h9 => h9) rfl dX1_run_73 ?_
              refine vp_callSi (W.runS (As := [.int (nI (mf z))]) (rest := []) ⟨hx, hb, hml, hown, hts⟩ (c_X1_isBlank l (nI (mf z))) (va_cwS 1 hts gX1_run_X1_isBlank rfl rfl rfl (by decide +kernel) ⟨Nat.le_of_ble_eq_true rfl, Nat.le_of_ble_eq_true rfl⟩) ⟨fun _ _ _ _ q => q, fun U hU hW => ⟨rfl, trivial⟩⟩ rfl rfl hl.1 rfl (lv_room (Nat.le_of_ble_eq_true rfl)) dX1_run_76 ⟨Nat.le_of_ble_eq_true rfl, Nat.le_of_ble_eq_true rfl⟩) (fun r_15 er_15 => ?_)
              obtain rfl : r_15 = bI (mBlank (nI (mf z))) := er_15
              refine lv_istore (lv' := [(5, .int (bI (mBlank (nI (mf z))))), (4, .int 1), (3, .int (nI nn)), (0, .ref g0), (1, .int kd), (2, .int (nI j))]) hx hb dX1_run_79 hl (by decide) rfl (fun ls hl => ?_)
              refine lv_iload hx hb dX1_run_81 (lv_at hl 0 rfl) ?_
              refine lv_if_eq (tgt := 92) hx hb dX1_run_83 (by decide) (fun c_16 => ?_) (fun c_16 => ?_)
              · have c_16 := bI_0 c_16
                refine lv_iload_n hx hb dX1_run_92 rfl (lv_at hl 2 rfl) ?_
                refine lv_istore_n (lv' := [(3, .int (nI nn)), (5, .int (bI (mBlank (nI (mf z))))), (4, .int 1), (0, .ref g0), (1, .int kd), (2, .int (nI j))]) hx hb dX1_run_93 rfl hl (by decide) rfl (fun ls hl => ?_)
                refine lv_iload hx hb dX1_run_94 (lv_at hl 1 rfl) ?_
                refine lv_if_eq (tgt := 110) hx hb dX1_run_96 (by decide) (fun c_17 => ?_) (fun c_17 => ?_)
                · have c_17 := bI_0 c_17
                  refine lv_iconst (v := 0) hx hb dX1_run_110 (by decide) ?_
                  refine lv_istore (lv' := [(4, .int 0), (3, .int (nI nn)), (5, .int (bI (mBlank (nI (mf z))))), (0, .ref g0), (1, .int kd), (2, .int (nI j))]) hx hb dX1_run_111 hl (by decide) rfl (fun ls hl => ?_)
                  refine lv_goto (tgt := 24) hx hb dX1_run_113 (by decide) ?_
                  refine lv_iload hx hb dX1_run_24 (lv_at hl 0 rfl) ?_
                  refine lv_if_eq (tgt := 116) hx hb dX1_run_26 (by decide) (fun c_18 => ?_) (fun c_18 => ?_)
                  · have c_18 : 0 = 0 := (nI_eq (a := 0) (b := 0) (by omega) (by omega)).mp c_18
                    refine lv_iload_n hx hb dX1_run_116 rfl (lv_at hl 1 rfl) ?_
                    have hP9 : va_P (dC, dI) vwCl (mw g0 g1 g2 cA (tb, n, kb, ln, rd, fp, (sg (z + 1)), (nI (mf z)), (nI (bf z)))) H := hP
                    have hD9 : va_D A (mw g0 g1 g2 cA (tb, n, kb, ln, rd, fp, (sg (z + 1)), (nI (mf z)), (nI (bf z)))) := hD
                    exact W.iret (v := nI nn) hx hb hr (fun t ht hW => ⟨⟨nI nn, (tb, n, kb, ln, rd, fp, (sg (z + 1)), (nI (mf z)), (nI (bf z))), rfl, ⟨by have hfit : ¬ mFit kd nn (nI (mf z)) = true := (by simp only [mFit, if_neg c_12, if_neg c_13, if_neg c_14, if_pos c_18, c_16]; exact fun q => q.elim); rw [← hR, mRunL_s, if_neg hfit], _, _, _, rfl⟩, by rw [ht]; exact hP9, va_K.moved hW.alike hK, hD9⟩, hS.F ht⟩) hS.2.2 dX1_run_117
                  · exact absurd c_18 (by decide)
                · exact absurd (bI_n0 c_17) c_16
              · have c_16 := bI_n0 c_16
                refine lv_iload_n hx hb dX1_run_86 rfl (lv_at hl 2 rfl) ?_
                refine lv_iconst (v := 1) hx hb dX1_run_87 (by decide) ?_
                refine lv_iadd hx hb dX1_run_88 ?_
                refine lv_topi (fun x_19 ex_19 => ?_)
                obtain rfl : x_19 = nI (nn + 1) := ex_19.trans (nI_add nn 1)
                refine lv_goto (tgt := 93) hx hb dX1_run_89 (by decide) ?_
                refine lv_istore_n (lv' := [(3, .int (nI (nn + 1))), (5, .int (bI (mBlank (nI (mf z))))), (4, .int 1), (0, .ref g0), (1, .int kd), (2, .int (nI j))]) hx hb dX1_run_93 rfl hl (by decide) rfl (fun ls hl => ?_)
                refine lv_iload hx hb dX1_run_94 (lv_at hl 1 rfl) ?_
                refine lv_if_eq (tgt := 110) hx hb dX1_run_96 (by decide) (fun c_20 => ?_) (fun c_20 => ?_)
                · exact absurd c_16 (bI_0 c_20)
                · have c_20 := bI_n0 c_20
                  refine lv_aload_n hx hb dX1_run_99 rfl (lv_at hl 3 rfl) ?_
                  have hFc := va_free (wc := mw g0 g1 g2 cA (tb, n, kb, ln, rd, fp, (sg (z + 1)), (nI (mf z)), (nI (bf z)))) hD hS hA [0, 1, 2] rfl
                  refine va_calli (va_runV (As := []) (rest := []) ⟨hx, hb, hml, hown, hts⟩ (c_X1_next_end l dC dI g0 g1 g2 cA H.size tb n kb ln rd fp (sg (z + 1)) (nI (mf z)) (nI (bf z)) hkb hln (by omega) (by rw [show z + 1 = k by omega]; exact (hch hrd).2.2)) (cwV 0 hts gX1_run_X1_next rfl rfl rfl (by decide +kernel) ⟨Nat.le_of_ble_eq_true rfl, Nat.le_of_ble_eq_true rfl⟩) ⟨mmut_blind, va_recv hK hP (ci := 1) (q0 := 0) rfl rfl, fun U hU hW => ⟨rfl, mmut_of hP hK hD hU hW⟩⟩ rfl rfl hl.1 rfl (lv_room (Nat.le_of_ble_eq_true rfl)) dX1_run_100 ⟨Nat.le_of_ble_eq_true rfl, Nat.le_of_ble_eq_true rfl⟩) hS (fun q _ h => hFc q h) hFc (fun r_21 u_21 t_21 H1 locs ht hvm hw hB hz1 hk1 hS => ?_)
                  obtain ⟨hw0, hw1⟩ := hw
                  obtain rfl : r_21 = 0 := hw0
                  obtain rfl : u_21 = (tb, n, kb, ln, rd, fp, (s0N kb ln (sg (z + 1))), (nI (mf z)), (nI (bf z))) := hw1
                  obtain ⟨hP1, hK1, hD1⟩ := hB
                  rw [ht] at hP1
                  obtain ⟨hP, hD⟩ := va_join (wr := []) (w1 := mw g0 g1 g2 cA (tb, n, kb, ln, rd, fp, (s0N kb ln (sg (z + 1))), (nI (mf z)), (nI (bf z)))) hP hD [0, 1, 2] [] rfl rfl (by decide) (by decide) hk1 hFc hP1 hD1
                  generalize H1 = H at hP hS ⊢
                  have hP : va_P (dC, dI) vwCl [(g0, .inr (1, [.ref g1, .int (nI n), .ref g2, .int (nI ln), .int (bI rd), .int fp, .int (nI (s0N kb ln (sg (z + 1)))), .int (nI (mf z)), .int (nI (bf z))])), (g1, .inl (cA, 1000, .inl (fun j => nI (tb j)))), (g2, .inl (cA, 1000, .inl (fun j => nI (kb j))))] H := hP
                  have hD : va_D A [(g0, .inr (1, [.ref g1, .int (nI n), .ref g2, .int (nI ln), .int (bI rd), .int fp, .int (nI (s0N kb ln (sg (z + 1)))), .int (nI (mf z)), .int (nI (bf z))])), (g1, .inl (cA, 1000, .inl (fun j => nI (tb j)))), (g2, .inl (cA, 1000, .inl (fun j => nI (kb j))))] := hD
                  refine lv_if_eq (tgt := 110) hx hb dX1_run_103 (by decide) (fun c_22 => ?_) (fun c_22 => ?_)
                  · have c_22 : 0 = 0 := (nI_eq (a := 0) (b := 0) (by omega) (by omega)).mp c_22
                    refine lv_iconst (v := 0) hx hb dX1_run_110 (by decide) ?_
                    refine lv_istore (lv' := [(4, .int 0), (3, .int (nI (nn + 1))), (5, .int (bI (mBlank (nI (mf z))))), (0, .ref g0), (1, .int kd), (2, .int (nI j))]) hx hb dX1_run_111 hl (by decide) rfl (fun ls hl => ?_)
                    refine lv_goto (tgt := 24) hx hb dX1_run_113 (by decide) ?_
                    refine lv_iload hx hb dX1_run_24 (lv_at hl 0 rfl) ?_
                    refine lv_if_eq (tgt := 116) hx hb dX1_run_26 (by decide) (fun c_23 => ?_) (fun c_23 => ?_)
                    · have c_23 : 0 = 0 := (nI_eq (a := 0) (b := 0) (by omega) (by omega)).mp c_23
                      refine lv_iload_n hx hb dX1_run_116 rfl (lv_at hl 1 rfl) ?_
                      have hP9 : va_P (dC, dI) vwCl (mw g0 g1 g2 cA (tb, n, kb, ln, rd, fp, (s0N kb ln (sg (z + 1))), (nI (mf z)), (nI (bf z)))) H := hP
                      have hD9 : va_D A (mw g0 g1 g2 cA (tb, n, kb, ln, rd, fp, (s0N kb ln (sg (z + 1))), (nI (mf z)), (nI (bf z)))) := hD
                      exact W.iret (v := nI (nn + 1)) hx hb hr (fun t ht hW => ⟨⟨nI (nn + 1), (tb, n, kb, ln, rd, fp, (s0N kb ln (sg (z + 1))), (nI (mf z)), (nI (bf z))), rfl, ⟨by have hfit : mFit kd nn (nI (mf z)) = true := (by simp only [mFit, if_neg c_12, if_neg c_13, if_neg c_14, if_pos c_22, if_pos c_23, c_16]); rw [← hR, mRunL_s, if_pos hfit, if_neg hz], _, _, _, rfl⟩, by rw [ht]; exact hP9, va_K.moved hW.alike hK, hD9⟩, hS.F ht⟩) hS.2.2 dX1_run_117
                    · exact absurd c_23 (by decide)
                  · exact absurd c_22 (by decide)
            · refine lv_aload_n hx hb dX1_run_62 rfl (lv_at hl 2 rfl) ?_
              refine va_get (D := (dC, dI)) (ci := 1) (v := .int (nI (mf z))) (C := RX1) (T := TX1) (N := 9) hx hb hts hIn hown hK hP 0 rfl rfl 7 (by decide) (hts (.fieldLink RX1 57 RX1 "met" "I") (by decide +kernel)) (fun _ h9 => h9) rfl dX1_run_63 ?_
              refine vp_callSi (W.runS (As := [.int (nI (mf z))]) (rest := []) ⟨hx, hb, hml, hown, hts⟩ (c_X1_isPart l (nI (mf z))) (va_cwS 1 hts gX1_run_X1_isPart rfl rfl rfl (by decide +kernel) ⟨Nat.le_of_ble_eq_true rfl, Nat.le_of_ble_eq_true rfl⟩) ⟨fun _ _ _ _ q => q, fun U hU hW => ⟨rfl, trivial⟩⟩ rfl rfl hl.1 rfl (lv_room (Nat.le_of_ble_eq_true rfl)) dX1_run_66 ⟨Nat.le_of_ble_eq_true rfl, Nat.le_of_ble_eq_true rfl⟩) (fun r_24 er_24 => ?_)
              obtain rfl : r_24 = bI (mPart (nI (mf z))) := er_24
              refine lv_goto (tgt := 79) hx hb dX1_run_69 (by decide) ?_
              refine lv_istore (lv' := [(5, .int (bI (mPart (nI (mf z))))), (4, .int 1), (3, .int (nI nn)), (0, .ref g0), (1, .int kd), (2, .int (nI j))]) hx hb dX1_run_79 hl (by decide) rfl (fun ls hl => ?_)
              refine lv_iload hx hb dX1_run_81 (lv_at hl 0 rfl) ?_
              refine lv_if_eq (tgt := 92) hx hb dX1_run_83 (by decide) (fun c_25 => ?_) (fun c_25 => ?_)
              · have c_25 := bI_0 c_25
                refine lv_iload_n hx hb dX1_run_92 rfl (lv_at hl 2 rfl) ?_
                refine lv_istore_n (lv' := [(3, .int (nI nn)), (5, .int (bI (mPart (nI (mf z))))), (4, .int 1), (0, .ref g0), (1, .int kd), (2, .int (nI j))]) hx hb dX1_run_93 rfl hl (by decide) rfl (fun ls hl => ?_)
                refine lv_iload hx hb dX1_run_94 (lv_at hl 1 rfl) ?_
                refine lv_if_eq (tgt := 110) hx hb dX1_run_96 (by decide) (fun c_26 => ?_) (fun c_26 => ?_)
                · have c_26 := bI_0 c_26
                  refine lv_iconst (v := 0) hx hb dX1_run_110 (by decide) ?_
                  refine lv_istore (lv' := [(4, .int 0), (3, .int (nI nn)), (5, .int (bI (mPart (nI (mf z))))), (0, .ref g0), (1, .int kd), (2, .int (nI j))]) hx hb dX1_run_111 hl (by decide) rfl (fun ls hl => ?_)
                  refine lv_goto (tgt := 24) hx hb dX1_run_113 (by decide) ?_
                  refine lv_iload hx hb dX1_run_24 (lv_at hl 0 rfl) ?_
                  refine lv_if_eq (tgt := 116) hx hb dX1_run_26 (by decide) (fun c_27 => ?_) (fun c_27 => ?_)
                  · have c_27 : 0 = 0 := (nI_eq (a := 0) (b := 0) (by omega) (by omega)).mp c_27
                    refine lv_iload_n hx hb dX1_run_116 rfl (lv_at hl 1 rfl) ?_
                    have hP9 : va_P (dC, dI) vwCl (mw g0 g1 g2 cA (tb, n, kb, ln, rd, fp, (sg (z + 1)), (nI (mf z)), (nI (bf z)))) H := hP
                    have hD9 : va_D A (mw g0 g1 g2 cA (tb, n, kb, ln, rd, fp, (sg (z + 1)), (nI (mf z)), (nI (bf z)))) := hD
                    exact W.iret (v := nI nn) hx hb hr (fun t ht hW => ⟨⟨nI nn, (tb, n, kb, ln, rd, fp, (sg (z + 1)), (nI (mf z)), (nI (bf z))), rfl, ⟨by have hfit : ¬ mFit kd nn (nI (mf z)) = true := (by simp only [mFit, if_neg c_12, if_neg c_13, if_pos c_14, if_pos c_27, c_25]; exact fun q => q.elim); rw [← hR, mRunL_s, if_neg hfit], _, _, _, rfl⟩, by rw [ht]; exact hP9, va_K.moved hW.alike hK, hD9⟩, hS.F ht⟩) hS.2.2 dX1_run_117
                  · exact absurd c_27 (by decide)
                · exact absurd (bI_n0 c_26) c_25
              · have c_25 := bI_n0 c_25
                refine lv_iload_n hx hb dX1_run_86 rfl (lv_at hl 2 rfl) ?_
                refine lv_iconst (v := 1) hx hb dX1_run_87 (by decide) ?_
                refine lv_iadd hx hb dX1_run_88 ?_
                refine lv_topi (fun x_28 ex_28 => ?_)
                obtain rfl : x_28 = nI (nn + 1) := ex_28.trans (nI_add nn 1)
                refine lv_goto (tgt := 93) hx hb dX1_run_89 (by decide) ?_
                refine lv_istore_n (lv' := [(3, .int (nI (nn + 1))), (5, .int (bI (mPart (nI (mf z))))), (4, .int 1), (0, .ref g0), (1, .int kd), (2, .int (nI j))]) hx hb dX1_run_93 rfl hl (by decide) rfl (fun ls hl => ?_)
                refine lv_iload hx hb dX1_run_94 (lv_at hl 1 rfl) ?_
                refine lv_if_eq (tgt := 110) hx hb dX1_run_96 (by decide) (fun c_29 => ?_) (fun c_29 => ?_)
                · exact absurd c_25 (bI_0 c_29)
                · have c_29 := bI_n0 c_29
                  refine lv_aload_n hx hb dX1_run_99 rfl (lv_at hl 3 rfl) ?_
                  have hFc := va_free (wc := mw g0 g1 g2 cA (tb, n, kb, ln, rd, fp, (sg (z + 1)), (nI (mf z)), (nI (bf z)))) hD hS hA [0, 1, 2] rfl
                  refine va_calli (va_runV (As := []) (rest := []) ⟨hx, hb, hml, hown, hts⟩ (c_X1_next_end l dC dI g0 g1 g2 cA H.size tb n kb ln rd fp (sg (z + 1)) (nI (mf z)) (nI (bf z)) hkb hln (by omega) (by rw [show z + 1 = k by omega]; exact (hch hrd).2.2)) (cwV 0 hts gX1_run_X1_next rfl rfl rfl (by decide +kernel) ⟨Nat.le_of_ble_eq_true rfl, Nat.le_of_ble_eq_true rfl⟩) ⟨mmut_blind, va_recv hK hP (ci := 1) (q0 := 0) rfl rfl, fun U hU hW => ⟨rfl, mmut_of hP hK hD hU hW⟩⟩ rfl rfl hl.1 rfl (lv_room (Nat.le_of_ble_eq_true rfl)) dX1_run_100 ⟨Nat.le_of_ble_eq_true rfl, Nat.le_of_ble_eq_true rfl⟩) hS (fun q _ h => hFc q h) hFc (fun r_30 u_30 t_30 H1 locs ht hvm hw hB hz1 hk1 hS => ?_)
                  obtain ⟨hw0, hw1⟩ := hw
                  obtain rfl : r_30 = 0 := hw0
                  obtain rfl : u_30 = (tb, n, kb, ln, rd, fp, (s0N kb ln (sg (z + 1))), (nI (mf z)), (nI (bf z))) := hw1
                  obtain ⟨hP1, hK1, hD1⟩ := hB
                  rw [ht] at hP1
                  obtain ⟨hP, hD⟩ := va_join (wr := []) (w1 := mw g0 g1 g2 cA (tb, n, kb, ln, rd, fp, (s0N kb ln (sg (z + 1))), (nI (mf z)), (nI (bf z)))) hP hD [0, 1, 2] [] rfl rfl (by decide) (by decide) hk1 hFc hP1 hD1
                  generalize H1 = H at hP hS ⊢
                  have hP : va_P (dC, dI) vwCl [(g0, .inr (1, [.ref g1, .int (nI n), .ref g2, .int (nI ln), .int (bI rd), .int fp, .int (nI (s0N kb ln (sg (z + 1)))), .int (nI (mf z)), .int (nI (bf z))])), (g1, .inl (cA, 1000, .inl (fun j => nI (tb j)))), (g2, .inl (cA, 1000, .inl (fun j => nI (kb j))))] H := hP
                  have hD : va_D A [(g0, .inr (1, [.ref g1, .int (nI n), .ref g2, .int (nI ln), .int (bI rd), .int fp, .int (nI (s0N kb ln (sg (z + 1)))), .int (nI (mf z)), .int (nI (bf z))])), (g1, .inl (cA, 1000, .inl (fun j => nI (tb j)))), (g2, .inl (cA, 1000, .inl (fun j => nI (kb j))))] := hD
                  refine lv_if_eq (tgt := 110) hx hb dX1_run_103 (by decide) (fun c_31 => ?_) (fun c_31 => ?_)
                  · have c_31 : 0 = 0 := (nI_eq (a := 0) (b := 0) (by omega) (by omega)).mp c_31
                    refine lv_iconst (v := 0) hx hb dX1_run_110 (by decide) ?_
                    refine lv_istore (lv' := [(4, .int 0), (3, .int (nI (nn + 1))), (5, .int (bI (mPart (nI (mf z))))), (0, .ref g0), (1, .int kd), (2, .int (nI j))]) hx hb dX1_run_111 hl (by decide) rfl (fun ls hl => ?_)
                    refine lv_goto (tgt := 24) hx hb dX1_run_113 (by decide) ?_
                    refine lv_iload hx hb dX1_run_24 (lv_at hl 0 rfl) ?_
                    refine lv_if_eq (tgt := 116) hx hb dX1_run_26 (by decide) (fun c_32 => ?_) (fun c_32 => ?_)
                    · have c_32 : 0 = 0 := (nI_eq (a := 0) (b := 0) (by omega) (by omega)).mp c_32
                      refine lv_iload_n hx hb dX1_run_116 rfl (lv_at hl 1 rfl) ?_
                      have hP9 : va_P (dC, dI) vwCl (mw g0 g1 g2 cA (tb, n, kb, ln, rd, fp, (s0N kb ln (sg (z + 1))), (nI (mf z)), (nI (bf z)))) H := hP
                      have hD9 : va_D A (mw g0 g1 g2 cA (tb, n, kb, ln, rd, fp, (s0N kb ln (sg (z + 1))), (nI (mf z)), (nI (bf z)))) := hD
                      exact W.iret (v := nI (nn + 1)) hx hb hr (fun t ht hW => ⟨⟨nI (nn + 1), (tb, n, kb, ln, rd, fp, (s0N kb ln (sg (z + 1))), (nI (mf z)), (nI (bf z))), rfl, ⟨by have hfit : mFit kd nn (nI (mf z)) = true := (by simp only [mFit, if_neg c_12, if_neg c_13, if_pos c_14, if_pos c_31, if_pos c_32, c_25]); rw [← hR, mRunL_s, if_pos hfit, if_neg hz], _, _, _, rfl⟩, by rw [ht]; exact hP9, va_K.moved hW.alike hK, hD9⟩, hS.F ht⟩) hS.2.2 dX1_run_117
                    · exact absurd c_32 (by decide)
                  · exact absurd c_31 (by decide)
          · refine lv_iload_n hx hb dX1_run_33 rfl (lv_at hl 1 rfl) ?_
            refine lv_if_ne (tgt := 47) hx hb dX1_run_34 (by decide) (fun c_33 => ?_) (fun c_33 => ?_)
            · have c_33 : ¬ nn = 0 := fun zz => c_33 ((nI_eq (a := nn) (b := 0) (by omega) (by omega)).mpr zz)
              refine lv_aload_n hx hb dX1_run_47 rfl (lv_at hl 2 rfl) ?_
              refine va_get (D := (dC, dI)) (ci := 1) (v := .int (nI (mf z))) (C := RX1) (T := TX1) (N := 9) hx hb hts hIn hown hK hP 0 rfl rfl 7 (by decide) (hts (.fieldLink RX1 57 RX1 "met" "I") (by decide +kernel)) (fun _ h9 => h9) rfl dX1_run_48 ?_
              refine vp_callSi (W.runS (As := [.int (nI (mf z))]) (rest := []) ⟨hx, hb, hml, hown, hts⟩ (c_X1_isPart l (nI (mf z))) (va_cwS 1 hts gX1_run_X1_isPart rfl rfl rfl (by decide +kernel) ⟨Nat.le_of_ble_eq_true rfl, Nat.le_of_ble_eq_true rfl⟩) ⟨fun _ _ _ _ q => q, fun U hU hW => ⟨rfl, trivial⟩⟩ rfl rfl hl.1 rfl (lv_room (Nat.le_of_ble_eq_true rfl)) dX1_run_51 ⟨Nat.le_of_ble_eq_true rfl, Nat.le_of_ble_eq_true rfl⟩) (fun r_34 er_34 => ?_)
              obtain rfl : r_34 = bI (mPart (nI (mf z))) := er_34
              refine lv_goto (tgt := 79) hx hb dX1_run_54 (by decide) ?_
              refine lv_istore (lv' := [(5, .int (bI (mPart (nI (mf z))))), (4, .int 1), (3, .int (nI nn)), (0, .ref g0), (1, .int kd), (2, .int (nI j))]) hx hb dX1_run_79 hl (by decide) rfl (fun ls hl => ?_)
              refine lv_iload hx hb dX1_run_81 (lv_at hl 0 rfl) ?_
              refine lv_if_eq (tgt := 92) hx hb dX1_run_83 (by decide) (fun c_35 => ?_) (fun c_35 => ?_)
              · have c_35 := bI_0 c_35
                refine lv_iload_n hx hb dX1_run_92 rfl (lv_at hl 2 rfl) ?_
                refine lv_istore_n (lv' := [(3, .int (nI nn)), (5, .int (bI (mPart (nI (mf z))))), (4, .int 1), (0, .ref g0), (1, .int kd), (2, .int (nI j))]) hx hb dX1_run_93 rfl hl (by decide) rfl (fun ls hl => ?_)
                refine lv_iload hx hb dX1_run_94 (lv_at hl 1 rfl) ?_
                refine lv_if_eq (tgt := 110) hx hb dX1_run_96 (by decide) (fun c_36 => ?_) (fun c_36 => ?_)
                · have c_36 := bI_0 c_36
                  refine lv_iconst (v := 0) hx hb dX1_run_110 (by decide) ?_
                  refine lv_istore (lv' := [(4, .int 0), (3, .int (nI nn)), (5, .int (bI (mPart (nI (mf z))))), (0, .ref g0), (1, .int kd), (2, .int (nI j))]) hx hb dX1_run_111 hl (by decide) rfl (fun ls hl => ?_)
                  refine lv_goto (tgt := 24) hx hb dX1_run_113 (by decide) ?_
                  refine lv_iload hx hb dX1_run_24 (lv_at hl 0 rfl) ?_
                  refine lv_if_eq (tgt := 116) hx hb dX1_run_26 (by decide) (fun c_37 => ?_) (fun c_37 => ?_)
                  · have c_37 : 0 = 0 := (nI_eq (a := 0) (b := 0) (by omega) (by omega)).mp c_37
                    refine lv_iload_n hx hb dX1_run_116 rfl (lv_at hl 1 rfl) ?_
                    have hP9 : va_P (dC, dI) vwCl (mw g0 g1 g2 cA (tb, n, kb, ln, rd, fp, (sg (z + 1)), (nI (mf z)), (nI (bf z)))) H := hP
                    have hD9 : va_D A (mw g0 g1 g2 cA (tb, n, kb, ln, rd, fp, (sg (z + 1)), (nI (mf z)), (nI (bf z)))) := hD
                    exact W.iret (v := nI nn) hx hb hr (fun t ht hW => ⟨⟨nI nn, (tb, n, kb, ln, rd, fp, (sg (z + 1)), (nI (mf z)), (nI (bf z))), rfl, ⟨by have hfit : ¬ mFit kd nn (nI (mf z)) = true := (by simp only [mFit, if_neg c_12, if_pos c_13, if_neg c_33, if_pos c_37, c_35]; exact fun q => q.elim); rw [← hR, mRunL_s, if_neg hfit], _, _, _, rfl⟩, by rw [ht]; exact hP9, va_K.moved hW.alike hK, hD9⟩, hS.F ht⟩) hS.2.2 dX1_run_117
                  · exact absurd c_37 (by decide)
                · exact absurd (bI_n0 c_36) c_35
              · have c_35 := bI_n0 c_35
                refine lv_iload_n hx hb dX1_run_86 rfl (lv_at hl 2 rfl) ?_
                refine lv_iconst (v := 1) hx hb dX1_run_87 (by decide) ?_
                refine lv_iadd hx hb dX1_run_88 ?_
                refine lv_topi (fun x_38 ex_38 => ?_)
                obtain rfl : x_38 = nI (nn + 1) := ex_38.trans (nI_add nn 1)
                refine lv_goto (tgt := 93) hx hb dX1_run_89 (by decide) ?_
                refine lv_istore_n (lv' := [(3, .int (nI (nn + 1))), (5, .int (bI (mPart (nI (mf z))))), (4, .int 1), (0, .ref g0), (1, .int kd), (2, .int (nI j))]) hx hb dX1_run_93 rfl hl (by decide) rfl (fun ls hl => ?_)
                refine lv_iload hx hb dX1_run_94 (lv_at hl 1 rfl) ?_
                refine lv_if_eq (tgt := 110) hx hb dX1_run_96 (by decide) (fun c_39 => ?_) (fun c_39 => ?_)
                · exact absurd c_35 (bI_0 c_39)
                · have c_39 := bI_n0 c_39
                  refine lv_aload_n hx hb dX1_run_99 rfl (lv_at hl 3 rfl) ?_
                  have hFc := va_free (wc := mw g0 g1 g2 cA (tb, n, kb, ln, rd, fp, (sg (z + 1)), (nI (mf z)), (nI (bf z)))) hD hS hA [0, 1, 2] rfl
                  refine va_calli (va_runV (As := []) (rest := []) ⟨hx, hb, hml, hown, hts⟩ (c_X1_next_end l dC dI g0 g1 g2 cA H.size tb n kb ln rd fp (sg (z + 1)) (nI (mf z)) (nI (bf z)) hkb hln (by omega) (by rw [show z + 1 = k by omega]; exact (hch hrd).2.2)) (cwV 0 hts gX1_run_X1_next rfl rfl rfl (by decide +kernel) ⟨Nat.le_of_ble_eq_true rfl, Nat.le_of_ble_eq_true rfl⟩) ⟨mmut_blind, va_recv hK hP (ci := 1) (q0 := 0) rfl rfl, fun U hU hW => ⟨rfl, mmut_of hP hK hD hU hW⟩⟩ rfl rfl hl.1 rfl (lv_room (Nat.le_of_ble_eq_true rfl)) dX1_run_100 ⟨Nat.le_of_ble_eq_true rfl, Nat.le_of_ble_eq_true rfl⟩) hS (fun q _ h => hFc q h) hFc (fun r_40 u_40 t_40 H1 locs ht hvm hw hB hz1 hk1 hS => ?_)
                  obtain ⟨hw0, hw1⟩ := hw
                  obtain rfl : r_40 = 0 := hw0
                  obtain rfl : u_40 = (tb, n, kb, ln, rd, fp, (s0N kb ln (sg (z + 1))), (nI (mf z)), (nI (bf z))) := hw1
                  obtain ⟨hP1, hK1, hD1⟩ := hB
                  rw [ht] at hP1
                  obtain ⟨hP, hD⟩ := va_join (wr := []) (w1 := mw g0 g1 g2 cA (tb, n, kb, ln, rd, fp, (s0N kb ln (sg (z + 1))), (nI (mf z)), (nI (bf z)))) hP hD [0, 1, 2] [] rfl rfl (by decide) (by decide) hk1 hFc hP1 hD1
                  generalize H1 = H at hP hS ⊢
                  have hP : va_P (dC, dI) vwCl [(g0, .inr (1, [.ref g1, .int (nI n), .ref g2, .int (nI ln), .int (bI rd), .int fp, .int (nI (s0N kb ln (sg (z + 1)))), .int (nI (mf z)), .int (nI (bf z))])), (g1, .inl (cA, 1000, .inl (fun j => nI (tb j)))), (g2, .inl (cA, 1000, .inl (fun j => nI (kb j))))] H := hP
                  have hD : va_D A [(g0, .inr (1, [.ref g1, .int (nI n), .ref g2, .int (nI ln), .int (bI rd), .int fp, .int (nI (s0N kb ln (sg (z + 1)))), .int (nI (mf z)), .int (nI (bf z))])), (g1, .inl (cA, 1000, .inl (fun j => nI (tb j)))), (g2, .inl (cA, 1000, .inl (fun j => nI (kb j))))] := hD
                  refine lv_if_eq (tgt := 110) hx hb dX1_run_103 (by decide) (fun c_41 => ?_) (fun c_41 => ?_)
                  · have c_41 : 0 = 0 := (nI_eq (a := 0) (b := 0) (by omega) (by omega)).mp c_41
                    refine lv_iconst (v := 0) hx hb dX1_run_110 (by decide) ?_
                    refine lv_istore (lv' := [(4, .int 0), (3, .int (nI (nn + 1))), (5, .int (bI (mPart (nI (mf z))))), (0, .ref g0), (1, .int kd), (2, .int (nI j))]) hx hb dX1_run_111 hl (by decide) rfl (fun ls hl => ?_)
                    refine lv_goto (tgt := 24) hx hb dX1_run_113 (by decide) ?_
                    refine lv_iload hx hb dX1_run_24 (lv_at hl 0 rfl) ?_
                    refine lv_if_eq (tgt := 116) hx hb dX1_run_26 (by decide) (fun c_42 => ?_) (fun c_42 => ?_)
                    · have c_42 : 0 = 0 := (nI_eq (a := 0) (b := 0) (by omega) (by omega)).mp c_42
                      refine lv_iload_n hx hb dX1_run_116 rfl (lv_at hl 1 rfl) ?_
                      have hP9 : va_P (dC, dI) vwCl (mw g0 g1 g2 cA (tb, n, kb, ln, rd, fp, (s0N kb ln (sg (z + 1))), (nI (mf z)), (nI (bf z)))) H := hP
                      have hD9 : va_D A (mw g0 g1 g2 cA (tb, n, kb, ln, rd, fp, (s0N kb ln (sg (z + 1))), (nI (mf z)), (nI (bf z)))) := hD
                      exact W.iret (v := nI (nn + 1)) hx hb hr (fun t ht hW => ⟨⟨nI (nn + 1), (tb, n, kb, ln, rd, fp, (s0N kb ln (sg (z + 1))), (nI (mf z)), (nI (bf z))), rfl, ⟨by have hfit : mFit kd nn (nI (mf z)) = true := (by simp only [mFit, if_neg c_12, if_pos c_13, if_neg c_33, if_pos c_41, if_pos c_42, c_35]); rw [← hR, mRunL_s, if_pos hfit, if_neg hz], _, _, _, rfl⟩, by rw [ht]; exact hP9, va_K.moved hW.alike hK, hD9⟩, hS.F ht⟩) hS.2.2 dX1_run_117
                    · exact absurd c_42 (by decide)
                  · exact absurd c_41 (by decide)
            · have c_33 : nn = 0 := (nI_eq (a := nn) (b := 0) (by omega) (by omega)).mp c_33
              refine lv_aload_n hx hb dX1_run_37 rfl (lv_at hl 2 rfl) ?_
              refine va_get (D := (dC, dI)) (ci := 1) (v := .int (nI (mf z))) (C := RX1) (T := TX1) (N := 9) hx hb hts hIn hown hK hP 0 rfl rfl 7 (by decide) (hts (.fieldLink RX1 57 RX1 "met" "I") (by decide +kernel)) (fun _ h9 => h9) rfl dX1_run_38 ?_
              refine vp_callSi (W.runS (As := [.int (nI (mf z))]) (rest := []) ⟨hx, hb, hml, hown, hts⟩ (c_X1_isBegin l (nI (mf z))) (va_cwS 1 hts gX1_run_X1_isBegin rfl rfl rfl (by decide +kernel) ⟨Nat.le_of_ble_eq_true rfl, Nat.le_of_ble_eq_true rfl⟩) ⟨fun _ _ _ _ q => q, fun U hU hW => ⟨rfl, trivial⟩⟩ rfl rfl hl.1 rfl (lv_room (Nat.le_of_ble_eq_true rfl)) dX1_run_41 ⟨Nat.le_of_ble_eq_true rfl, Nat.le_of_ble_eq_true rfl⟩) (fun r_43 er_43 => ?_)
              obtain rfl : r_43 = bI (mBeg (nI (mf z))) := er_43
              refine lv_goto (tgt := 79) hx hb dX1_run_44 (by decide) ?_
              refine lv_istore (lv' := [(5, .int (bI (mBeg (nI (mf z))))), (4, .int 1), (3, .int (nI nn)), (0, .ref g0), (1, .int kd), (2, .int (nI j))]) hx hb dX1_run_79 hl (by decide) rfl (fun ls hl => ?_)
              refine lv_iload hx hb dX1_run_81 (lv_at hl 0 rfl) ?_
              refine lv_if_eq (tgt := 92) hx hb dX1_run_83 (by decide) (fun c_44 => ?_) (fun c_44 => ?_)
              · have c_44 := bI_0 c_44
                refine lv_iload_n hx hb dX1_run_92 rfl (lv_at hl 2 rfl) ?_
                refine lv_istore_n (lv' := [(3, .int (nI nn)), (5, .int (bI (mBeg (nI (mf z))))), (4, .int 1), (0, .ref g0), (1, .int kd), (2, .int (nI j))]) hx hb dX1_run_93 rfl hl (by decide) rfl (fun ls hl => ?_)
                refine lv_iload hx hb dX1_run_94 (lv_at hl 1 rfl) ?_
                refine lv_if_eq (tgt := 110) hx hb dX1_run_96 (by decide) (fun c_45 => ?_) (fun c_45 => ?_)
                · have c_45 := bI_0 c_45
                  refine lv_iconst (v := 0) hx hb dX1_run_110 (by decide) ?_
                  refine lv_istore (lv' := [(4, .int 0), (3, .int (nI nn)), (5, .int (bI (mBeg (nI (mf z))))), (0, .ref g0), (1, .int kd), (2, .int (nI j))]) hx hb dX1_run_111 hl (by decide) rfl (fun ls hl => ?_)
                  refine lv_goto (tgt := 24) hx hb dX1_run_113 (by decide) ?_
                  refine lv_iload hx hb dX1_run_24 (lv_at hl 0 rfl) ?_
                  refine lv_if_eq (tgt := 116) hx hb dX1_run_26 (by decide) (fun c_46 => ?_) (fun c_46 => ?_)
                  · have c_46 : 0 = 0 := (nI_eq (a := 0) (b := 0) (by omega) (by omega)).mp c_46
                    refine lv_iload_n hx hb dX1_run_116 rfl (lv_at hl 1 rfl) ?_
                    have hP9 : va_P (dC, dI) vwCl (mw g0 g1 g2 cA (tb, n, kb, ln, rd, fp, (sg (z + 1)), (nI (mf z)), (nI (bf z)))) H := hP
                    have hD9 : va_D A (mw g0 g1 g2 cA (tb, n, kb, ln, rd, fp, (sg (z + 1)), (nI (mf z)), (nI (bf z)))) := hD
                    exact W.iret (v := nI nn) hx hb hr (fun t ht hW => ⟨⟨nI nn, (tb, n, kb, ln, rd, fp, (sg (z + 1)), (nI (mf z)), (nI (bf z))), rfl, ⟨by have hfit : ¬ mFit kd nn (nI (mf z)) = true := (by simp only [mFit, if_neg c_12, if_pos c_13, if_pos c_33, if_pos c_46, c_44]; exact fun q => q.elim); rw [← hR, mRunL_s, if_neg hfit], _, _, _, rfl⟩, by rw [ht]; exact hP9, va_K.moved hW.alike hK, hD9⟩, hS.F ht⟩) hS.2.2 dX1_run_117
                  · exact absurd c_46 (by decide)
                · exact absurd (bI_n0 c_45) c_44
              · have c_44 := bI_n0 c_44
                refine lv_iload_n hx hb dX1_run_86 rfl (lv_at hl 2 rfl) ?_
                refine lv_iconst (v := 1) hx hb dX1_run_87 (by decide) ?_
                refine lv_iadd hx hb dX1_run_88 ?_
                refine lv_topi (fun x_47 ex_47 => ?_)
                obtain rfl : x_47 = nI (nn + 1) := ex_47.trans (nI_add nn 1)
                refine lv_goto (tgt := 93) hx hb dX1_run_89 (by decide) ?_
                refine lv_istore_n (lv' := [(3, .int (nI (nn + 1))), (5, .int (bI (mBeg (nI (mf z))))), (4, .int 1), (0, .ref g0), (1, .int kd), (2, .int (nI j))]) hx hb dX1_run_93 rfl hl (by decide) rfl (fun ls hl => ?_)
                refine lv_iload hx hb dX1_run_94 (lv_at hl 1 rfl) ?_
                refine lv_if_eq (tgt := 110) hx hb dX1_run_96 (by decide) (fun c_48 => ?_) (fun c_48 => ?_)
                · exact absurd c_44 (bI_0 c_48)
                · have c_48 := bI_n0 c_48
                  refine lv_aload_n hx hb dX1_run_99 rfl (lv_at hl 3 rfl) ?_
                  have hFc := va_free (wc := mw g0 g1 g2 cA (tb, n, kb, ln, rd, fp, (sg (z + 1)), (nI (mf z)), (nI (bf z)))) hD hS hA [0, 1, 2] rfl
                  refine va_calli (va_runV (As := []) (rest := []) ⟨hx, hb, hml, hown, hts⟩ (c_X1_next_end l dC dI g0 g1 g2 cA H.size tb n kb ln rd fp (sg (z + 1)) (nI (mf z)) (nI (bf z)) hkb hln (by omega) (by rw [show z + 1 = k by omega]; exact (hch hrd).2.2)) (cwV 0 hts gX1_run_X1_next rfl rfl rfl (by decide +kernel) ⟨Nat.le_of_ble_eq_true rfl, Nat.le_of_ble_eq_true rfl⟩) ⟨mmut_blind, va_recv hK hP (ci := 1) (q0 := 0) rfl rfl, fun U hU hW => ⟨rfl, mmut_of hP hK hD hU hW⟩⟩ rfl rfl hl.1 rfl (lv_room (Nat.le_of_ble_eq_true rfl)) dX1_run_100 ⟨Nat.le_of_ble_eq_true rfl, Nat.le_of_ble_eq_true rfl⟩) hS (fun q _ h => hFc q h) hFc (fun r_49 u_49 t_49 H1 locs ht hvm hw hB hz1 hk1 hS => ?_)
                  obtain ⟨hw0, hw1⟩ := hw
                  obtain rfl : r_49 = 0 := hw0
                  obtain rfl : u_49 = (tb, n, kb, ln, rd, fp, (s0N kb ln (sg (z + 1))), (nI (mf z)), (nI (bf z))) := hw1
                  obtain ⟨hP1, hK1, hD1⟩ := hB
                  rw [ht] at hP1
                  obtain ⟨hP, hD⟩ := va_join (wr := []) (w1 := mw g0 g1 g2 cA (tb, n, kb, ln, rd, fp, (s0N kb ln (sg (z + 1))), (nI (mf z)), (nI (bf z)))) hP hD [0, 1, 2] [] rfl rfl (by decide) (by decide) hk1 hFc hP1 hD1
                  generalize H1 = H at hP hS ⊢
                  have hP : va_P (dC, dI) vwCl [(g0, .inr (1, [.ref g1, .int (nI n), .ref g2, .int (nI ln), .int (bI rd), .int fp, .int (nI (s0N kb ln (sg (z + 1)))), .int (nI (mf z)), .int (nI (bf z))])), (g1, .inl (cA, 1000, .inl (fun j => nI (tb j)))), (g2, .inl (cA, 1000, .inl (fun j => nI (kb j))))] H := hP
                  have hD : va_D A [(g0, .inr (1, [.ref g1, .int (nI n), .ref g2, .int (nI ln), .int (bI rd), .int fp, .int (nI (s0N kb ln (sg (z + 1)))), .int (nI (mf z)), .int (nI (bf z))])), (g1, .inl (cA, 1000, .inl (fun j => nI (tb j)))), (g2, .inl (cA, 1000, .inl (fun j => nI (kb j))))] := hD
                  refine lv_if_eq (tgt := 110) hx hb dX1_run_103 (by decide) (fun c_50 => ?_) (fun c_50 => ?_)
                  · have c_50 : 0 = 0 := (nI_eq (a := 0) (b := 0) (by omega) (by omega)).mp c_50
                    refine lv_iconst (v := 0) hx hb dX1_run_110 (by decide) ?_
                    refine lv_istore (lv' := [(4, .int 0), (3, .int (nI (nn + 1))), (5, .int (bI (mBeg (nI (mf z))))), (0, .ref g0), (1, .int kd), (2, .int (nI j))]) hx hb dX1_run_111 hl (by decide) rfl (fun ls hl => ?_)
                    refine lv_goto (tgt := 24) hx hb dX1_run_113 (by decide) ?_
                    refine lv_iload hx hb dX1_run_24 (lv_at hl 0 rfl) ?_
                    refine lv_if_eq (tgt := 116) hx hb dX1_run_26 (by decide) (fun c_51 => ?_) (fun c_51 => ?_)
                    · have c_51 : 0 = 0 := (nI_eq (a := 0) (b := 0) (by omega) (by omega)).mp c_51
                      refine lv_iload_n hx hb dX1_run_116 rfl (lv_at hl 1 rfl) ?_
                      have hP9 : va_P (dC, dI) vwCl (mw g0 g1 g2 cA (tb, n, kb, ln, rd, fp, (s0N kb ln (sg (z + 1))), (nI (mf z)), (nI (bf z)))) H := hP
                      have hD9 : va_D A (mw g0 g1 g2 cA (tb, n, kb, ln, rd, fp, (s0N kb ln (sg (z + 1))), (nI (mf z)), (nI (bf z)))) := hD
                      exact W.iret (v := nI (nn + 1)) hx hb hr (fun t ht hW => ⟨⟨nI (nn + 1), (tb, n, kb, ln, rd, fp, (s0N kb ln (sg (z + 1))), (nI (mf z)), (nI (bf z))), rfl, ⟨by have hfit : mFit kd nn (nI (mf z)) = true := (by simp only [mFit, if_neg c_12, if_pos c_13, if_pos c_33, if_pos c_50, if_pos c_51, c_44]); rw [← hR, mRunL_s, if_pos hfit, if_neg hz], _, _, _, rfl⟩, by rw [ht]; exact hP9, va_K.moved hW.alike hK, hD9⟩, hS.F ht⟩) hS.2.2 dX1_run_117
                    · exact absurd c_51 (by decide)
                  · exact absurd c_50 (by decide)
      | succ d ih =>
        intro z nn H locs ls hzd hnz hR hP hD hS hl
        have hsb := hsgb (z + 1) (by omega)
        have hz : z + 1 < k := by omega
        refine lv_iload hx hb dX1_run_24 (lv_at hl 0 rfl) ?_
        refine lv_if_eq (tgt := 116) hx hb dX1_run_26 (by decide) (fun c_52 => ?_) (fun c_52 => ?_)
        · exact absurd c_52 (by decide)
        · have c_52 : ¬ 1 = 0 := fun zz => c_52 ((nI_eq (a := 1) (b := 0) (by omega) (by omega)).mpr zz)
          refine lv_iload_n hx hb dX1_run_29 rfl (lv_at hl 3 rfl) ?_
          refine lv_if_ne (tgt := 57) hx hb dX1_run_30 (by decide) (fun c_53 => ?_) (fun c_53 => ?_)
          · refine lv_iload_n hx hb dX1_run_57 rfl (lv_at hl 3 rfl) ?_
            refine lv_iconst (v := 1) hx hb dX1_run_58 (by decide) ?_
            refine lv_icmp_ne (tgt := 72) hx hb dX1_run_59 (by decide) (fun c_54 => ?_) (fun c_54 => ?_)
            · refine lv_aload_n hx hb dX1_run_72 rfl (lv_at hl 2 rfl) ?_
              refine va_get (D := (dC, dI)) (ci := 1) (v := .int (nI (mf z))) (C := RX1) (T := TX1) (N := 9) hx hb hts hIn hown hK hP 0 rfl rfl 7 (by decide) (hts (.fieldLink RX1 57 RX1 "met" "I") (by decide +kernel)) (fun _ h9 => h9) rfl dX1_run_73 ?_
              refine vp_callSi (W.runS (As := [.int (nI (mf z))]) (rest := []) ⟨hx, hb, hml, hown, hts⟩ (c_X1_isBlank l (nI (mf z))) (va_cwS 1 hts gX1_run_X1_isBlank rfl rfl rfl (by decide +kernel) ⟨Nat.le_of_ble_eq_true rfl, Nat.le_of_ble_eq_true rfl⟩) ⟨fun _ _ _ _ q => q, fun U hU hW => ⟨rfl, trivial⟩⟩ rfl rfl hl.1 rfl (lv_room (Nat.le_of_ble_eq_true rfl)) dX1_run_76 ⟨Nat.le_of_ble_eq_true rfl, Nat.le_of_ble_eq_true rfl⟩) (fun r_55 er_55 => ?_)
              obtain rfl : r_55 = bI (mBlank (nI (mf z))) := er_55
              refine lv_istore (lv' := [(5, .int (bI (mBlank (nI (mf z))))), (4, .int 1), (3, .int (nI nn)), (0, .ref g0), (1, .int kd), (2, .int (nI j))]) hx hb dX1_run_79 hl (by decide) rfl (fun ls hl => ?_)
              refine lv_iload hx hb dX1_run_81 (lv_at hl 0 rfl) ?_
              refine lv_if_eq (tgt := 92) hx hb dX1_run_83 (by decide) (fun c_56 => ?_) (fun c_56 => ?_)
              · have c_56 := bI_0 c_56
                refine lv_iload_n hx hb dX1_run_92 rfl (lv_at hl 2 rfl) ?_
                refine lv_istore_n (lv' := [(3, .int (nI nn)), (5, .int (bI (mBlank (nI (mf z))))), (4, .int 1), (0, .ref g0), (1, .int kd), (2, .int (nI j))]) hx hb dX1_run_93 rfl hl (by decide) rfl (fun ls hl => ?_)
                refine lv_iload hx hb dX1_run_94 (lv_at hl 1 rfl) ?_
                refine lv_if_eq (tgt := 110) hx hb dX1_run_96 (by decide) (fun c_57 => ?_) (fun c_57 => ?_)
                · have c_57 := bI_0 c_57
                  refine lv_iconst (v := 0) hx hb dX1_run_110 (by decide) ?_
                  refine lv_istore (lv' := [(4, .int 0), (3, .int (nI nn)), (5, .int (bI (mBlank (nI (mf z))))), (0, .ref g0), (1, .int kd), (2, .int (nI j))]) hx hb dX1_run_111 hl (by decide) rfl (fun ls hl => ?_)
                  refine lv_goto (tgt := 24) hx hb dX1_run_113 (by decide) ?_
                  refine lv_iload hx hb dX1_run_24 (lv_at hl 0 rfl) ?_
                  refine lv_if_eq (tgt := 116) hx hb dX1_run_26 (by decide) (fun c_58 => ?_) (fun c_58 => ?_)
                  · have c_58 : 0 = 0 := (nI_eq (a := 0) (b := 0) (by omega) (by omega)).mp c_58
                    refine lv_iload_n hx hb dX1_run_116 rfl (lv_at hl 1 rfl) ?_
                    have hP9 : va_P (dC, dI) vwCl (mw g0 g1 g2 cA (tb, n, kb, ln, rd, fp, (sg (z + 1)), (nI (mf z)), (nI (bf z)))) H := hP
                    have hD9 : va_D A (mw g0 g1 g2 cA (tb, n, kb, ln, rd, fp, (sg (z + 1)), (nI (mf z)), (nI (bf z)))) := hD
                    exact W.iret (v := nI nn) hx hb hr (fun t ht hW => ⟨⟨nI nn, (tb, n, kb, ln, rd, fp, (sg (z + 1)), (nI (mf z)), (nI (bf z))), rfl, ⟨by have hfit : ¬ mFit kd nn (nI (mf z)) = true := (by simp only [mFit, if_neg c_52, if_neg c_53, if_neg c_54, if_pos c_58, c_56]; exact fun q => q.elim); rw [← hR, mRunL_s, if_neg hfit], _, _, _, rfl⟩, by rw [ht]; exact hP9, va_K.moved hW.alike hK, hD9⟩, hS.F ht⟩) hS.2.2 dX1_run_117
                  · exact absurd c_58 (by decide)
                · exact absurd (bI_n0 c_57) c_56
              · have c_56 := bI_n0 c_56
                refine lv_iload_n hx hb dX1_run_86 rfl (lv_at hl 2 rfl) ?_
                refine lv_iconst (v := 1) hx hb dX1_run_87 (by decide) ?_
                refine lv_iadd hx hb dX1_run_88 ?_
                refine lv_topi (fun x_59 ex_59 => ?_)
                obtain rfl : x_59 = nI (nn + 1) := ex_59.trans (nI_add nn 1)
                refine lv_goto (tgt := 93) hx hb dX1_run_89 (by decide) ?_
                refine lv_istore_n (lv' := [(3, .int (nI (nn + 1))), (5, .int (bI (mBlank (nI (mf z))))), (4, .int 1), (0, .ref g0), (1, .int kd), (2, .int (nI j))]) hx hb dX1_run_93 rfl hl (by decide) rfl (fun ls hl => ?_)
                refine lv_iload hx hb dX1_run_94 (lv_at hl 1 rfl) ?_
                refine lv_if_eq (tgt := 110) hx hb dX1_run_96 (by decide) (fun c_60 => ?_) (fun c_60 => ?_)
                · exact absurd c_56 (bI_0 c_60)
                · have c_60 := bI_n0 c_60
                  refine lv_aload_n hx hb dX1_run_99 rfl (lv_at hl 3 rfl) ?_
                  have hFc := va_free (wc := mw g0 g1 g2 cA (tb, n, kb, ln, rd, fp, (sg (z + 1)), (nI (mf z)), (nI (bf z)))) hD hS hA [0, 1, 2] rfl
                  obtain ⟨hgo, v_61, w_61, hsq, hmf, hbf, hsg⟩ := (hch hrd).2.1 (z + 1) hz
                  have hlt_61 := seqN_lt hkb hsq
                  refine va_calli (va_runV (As := []) (rest := []) ⟨hx, hb, hml, hown, hts⟩ (c_X1_next_some l dC dI g0 g1 g2 cA H.size tb n kb ln rd fp (sg (z + 1)) (nI (mf z)) (nI (bf z)) hkb hln (by omega) v_61 w_61 hgo hsq) (cwV 0 hts gX1_run_X1_next rfl rfl rfl (by decide +kernel) ⟨Nat.le_of_ble_eq_true rfl, Nat.le_of_ble_eq_true rfl⟩) ⟨mmut_blind, va_recv hK hP (ci := 1) (q0 := 0) rfl rfl, fun U hU hW => ⟨rfl, mmut_of hP hK hD hU hW⟩⟩ rfl rfl hl.1 rfl (lv_room (Nat.le_of_ble_eq_true rfl)) dX1_run_100 ⟨Nat.le_of_ble_eq_true rfl, Nat.le_of_ble_eq_true rfl⟩) hS (fun q _ h => hFc q h) hFc (fun r_61 u_61 t_61 H1 locs ht hvm hw hB hz1 hk1 hS => ?_)
                  obtain ⟨hw0, hw1⟩ := hw
                  rw [← hmf, ← hsg, ← hbf] at hw1
                  obtain rfl : r_61 = 1 := hw0
                  obtain rfl : u_61 = (tb, n, kb, ln, rd, fp, (sg ((z + 1) + 1)), (nI (mf (z + 1))), (nI (bf (z + 1)))) := hw1
                  obtain ⟨hP1, hK1, hD1⟩ := hB
                  rw [ht] at hP1
                  obtain ⟨hP, hD⟩ := va_join (wr := []) (w1 := mw g0 g1 g2 cA (tb, n, kb, ln, rd, fp, (sg ((z + 1) + 1)), (nI (mf (z + 1))), (nI (bf (z + 1))))) hP hD [0, 1, 2] [] rfl rfl (by decide) (by decide) hk1 hFc hP1 hD1
                  generalize H1 = H at hP hS ⊢
                  have hP : va_P (dC, dI) vwCl [(g0, .inr (1, [.ref g1, .int (nI n), .ref g2, .int (nI ln), .int (bI rd), .int fp, .int (nI (sg ((z + 1) + 1))), .int (nI (mf (z + 1))), .int (nI (bf (z + 1)))])), (g1, .inl (cA, 1000, .inl (fun j => nI (tb j)))), (g2, .inl (cA, 1000, .inl (fun j => nI (kb j))))] H := hP
                  have hD : va_D A [(g0, .inr (1, [.ref g1, .int (nI n), .ref g2, .int (nI ln), .int (bI rd), .int fp, .int (nI (sg ((z + 1) + 1))), .int (nI (mf (z + 1))), .int (nI (bf (z + 1)))])), (g1, .inl (cA, 1000, .inl (fun j => nI (tb j)))), (g2, .inl (cA, 1000, .inl (fun j => nI (kb j))))] := hD
                  refine lv_if_eq (tgt := 110) hx hb dX1_run_103 (by decide) (fun c_62 => ?_) (fun c_62 => ?_)
                  · exact absurd c_62 (by decide)
                  · have c_62 : ¬ 1 = 0 := fun zz => c_62 ((nI_eq (a := 1) (b := 0) (by omega) (by omega)).mpr zz)
                    refine lv_iconst (v := 1) hx hb dX1_run_106 (by decide) ?_
                    refine lv_goto (tgt := 111) hx hb dX1_run_107 (by decide) ?_
                    refine lv_istore (lv' := [(4, .int 1), (3, .int (nI (nn + 1))), (5, .int (bI (mBlank (nI (mf z))))), (0, .ref g0), (1, .int kd), (2, .int (nI j))]) hx hb dX1_run_111 hl (by decide) rfl (fun ls hl => ?_)
                    refine lv_goto (tgt := 24) hx hb dX1_run_113 (by decide) ?_
                    have hfit : mFit kd nn (nI (mf z)) = true := by simp only [mFit, if_neg c_52, if_neg c_53, if_neg c_54, if_neg c_62, c_56]
                    exact ih (z + 1) (nn + 1) H locs ls (by omega) (by omega) (by rw [← hR, mRunL_s (n := nn), if_pos hfit, if_pos hz]) hP hD hS (lv_sub hl [0, 1, 3, 4, 5] rfl)
            · refine lv_aload_n hx hb dX1_run_62 rfl (lv_at hl 2 rfl) ?_
              refine va_get (D := (dC, dI)) (ci := 1) (v := .int (nI (mf z))) (C := RX1) (T := TX1) (N := 9) hx hb hts hIn hown hK hP 0 rfl rfl 7 (by decide) (hts (.fieldLink RX1 57 RX1 "met" "I") (by decide +kernel)) (fun _ h9 => h9) rfl dX1_run_63 ?_
              refine vp_callSi (W.runS (As := [.int (nI (mf z))]) (rest := []) ⟨hx, hb, hml, hown, hts⟩ (c_X1_isPart l (nI (mf z))) (va_cwS 1 hts gX1_run_X1_isPart rfl rfl rfl (by decide +kernel) ⟨Nat.le_of_ble_eq_true rfl, Nat.le_of_ble_eq_true rfl⟩) ⟨fun _ _ _ _ q => q, fun U hU hW => ⟨rfl, trivial⟩⟩ rfl rfl hl.1 rfl (lv_room (Nat.le_of_ble_eq_true rfl)) dX1_run_66 ⟨Nat.le_of_ble_eq_true rfl, Nat.le_of_ble_eq_true rfl⟩) (fun r_63 er_63 => ?_)
              obtain rfl : r_63 = bI (mPart (nI (mf z))) := er_63
              refine lv_goto (tgt := 79) hx hb dX1_run_69 (by decide) ?_
              refine lv_istore (lv' := [(5, .int (bI (mPart (nI (mf z))))), (4, .int 1), (3, .int (nI nn)), (0, .ref g0), (1, .int kd), (2, .int (nI j))]) hx hb dX1_run_79 hl (by decide) rfl (fun ls hl => ?_)
              refine lv_iload hx hb dX1_run_81 (lv_at hl 0 rfl) ?_
              refine lv_if_eq (tgt := 92) hx hb dX1_run_83 (by decide) (fun c_64 => ?_) (fun c_64 => ?_)
              · have c_64 := bI_0 c_64
                refine lv_iload_n hx hb dX1_run_92 rfl (lv_at hl 2 rfl) ?_
                refine lv_istore_n (lv' := [(3, .int (nI nn)), (5, .int (bI (mPart (nI (mf z))))), (4, .int 1), (0, .ref g0), (1, .int kd), (2, .int (nI j))]) hx hb dX1_run_93 rfl hl (by decide) rfl (fun ls hl => ?_)
                refine lv_iload hx hb dX1_run_94 (lv_at hl 1 rfl) ?_
                refine lv_if_eq (tgt := 110) hx hb dX1_run_96 (by decide) (fun c_65 => ?_) (fun c_65 => ?_)
                · have c_65 := bI_0 c_65
                  refine lv_iconst (v := 0) hx hb dX1_run_110 (by decide) ?_
                  refine lv_istore (lv' := [(4, .int 0), (3, .int (nI nn)), (5, .int (bI (mPart (nI (mf z))))), (0, .ref g0), (1, .int kd), (2, .int (nI j))]) hx hb dX1_run_111 hl (by decide) rfl (fun ls hl => ?_)
                  refine lv_goto (tgt := 24) hx hb dX1_run_113 (by decide) ?_
                  refine lv_iload hx hb dX1_run_24 (lv_at hl 0 rfl) ?_
                  refine lv_if_eq (tgt := 116) hx hb dX1_run_26 (by decide) (fun c_66 => ?_) (fun c_66 => ?_)
                  · have c_66 : 0 = 0 := (nI_eq (a := 0) (b := 0) (by omega) (by omega)).mp c_66
                    refine lv_iload_n hx hb dX1_run_116 rfl (lv_at hl 1 rfl) ?_
                    have hP9 : va_P (dC, dI) vwCl (mw g0 g1 g2 cA (tb, n, kb, ln, rd, fp, (sg (z + 1)), (nI (mf z)), (nI (bf z)))) H := hP
                    have hD9 : va_D A (mw g0 g1 g2 cA (tb, n, kb, ln, rd, fp, (sg (z + 1)), (nI (mf z)), (nI (bf z)))) := hD
                    exact W.iret (v := nI nn) hx hb hr (fun t ht hW => ⟨⟨nI nn, (tb, n, kb, ln, rd, fp, (sg (z + 1)), (nI (mf z)), (nI (bf z))), rfl, ⟨by have hfit : ¬ mFit kd nn (nI (mf z)) = true := (by simp only [mFit, if_neg c_52, if_neg c_53, if_pos c_54, if_pos c_66, c_64]; exact fun q => q.elim); rw [← hR, mRunL_s, if_neg hfit], _, _, _, rfl⟩, by rw [ht]; exact hP9, va_K.moved hW.alike hK, hD9⟩, hS.F ht⟩) hS.2.2 dX1_run_117
                  · exact absurd c_66 (by decide)
                · exact absurd (bI_n0 c_65) c_64
              · have c_64 := bI_n0 c_64
                refine lv_iload_n hx hb dX1_run_86 rfl (lv_at hl 2 rfl) ?_
                refine lv_iconst (v := 1) hx hb dX1_run_87 (by decide) ?_
                refine lv_iadd hx hb dX1_run_88 ?_
                refine lv_topi (fun x_67 ex_67 => ?_)
                obtain rfl : x_67 = nI (nn + 1) := ex_67.trans (nI_add nn 1)
                refine lv_goto (tgt := 93) hx hb dX1_run_89 (by decide) ?_
                refine lv_istore_n (lv' := [(3, .int (nI (nn + 1))), (5, .int (bI (mPart (nI (mf z))))), (4, .int 1), (0, .ref g0), (1, .int kd), (2, .int (nI j))]) hx hb dX1_run_93 rfl hl (by decide) rfl (fun ls hl => ?_)
                refine lv_iload hx hb dX1_run_94 (lv_at hl 1 rfl) ?_
                refine lv_if_eq (tgt := 110) hx hb dX1_run_96 (by decide) (fun c_68 => ?_) (fun c_68 => ?_)
                · exact absurd c_64 (bI_0 c_68)
                · have c_68 := bI_n0 c_68
                  refine lv_aload_n hx hb dX1_run_99 rfl (lv_at hl 3 rfl) ?_
                  have hFc := va_free (wc := mw g0 g1 g2 cA (tb, n, kb, ln, rd, fp, (sg (z + 1)), (nI (mf z)), (nI (bf z)))) hD hS hA [0, 1, 2] rfl
                  obtain ⟨hgo, v_69, w_69, hsq, hmf, hbf, hsg⟩ := (hch hrd).2.1 (z + 1) hz
                  have hlt_69 := seqN_lt hkb hsq
                  refine va_calli (va_runV (As := []) (rest := []) ⟨hx, hb, hml, hown, hts⟩ (c_X1_next_some l dC dI g0 g1 g2 cA H.size tb n kb ln rd fp (sg (z + 1)) (nI (mf z)) (nI (bf z)) hkb hln (by omega) v_69 w_69 hgo hsq) (cwV 0 hts gX1_run_X1_next rfl rfl rfl (by decide +kernel) ⟨Nat.le_of_ble_eq_true rfl, Nat.le_of_ble_eq_true rfl⟩) ⟨mmut_blind, va_recv hK hP (ci := 1) (q0 := 0) rfl rfl, fun U hU hW => ⟨rfl, mmut_of hP hK hD hU hW⟩⟩ rfl rfl hl.1 rfl (lv_room (Nat.le_of_ble_eq_true rfl)) dX1_run_100 ⟨Nat.le_of_ble_eq_true rfl, Nat.le_of_ble_eq_true rfl⟩) hS (fun q _ h => hFc q h) hFc (fun r_69 u_69 t_69 H1 locs ht hvm hw hB hz1 hk1 hS => ?_)
                  obtain ⟨hw0, hw1⟩ := hw
                  rw [← hmf, ← hsg, ← hbf] at hw1
                  obtain rfl : r_69 = 1 := hw0
                  obtain rfl : u_69 = (tb, n, kb, ln, rd, fp, (sg ((z + 1) + 1)), (nI (mf (z + 1))), (nI (bf (z + 1)))) := hw1
                  obtain ⟨hP1, hK1, hD1⟩ := hB
                  rw [ht] at hP1
                  obtain ⟨hP, hD⟩ := va_join (wr := []) (w1 := mw g0 g1 g2 cA (tb, n, kb, ln, rd, fp, (sg ((z + 1) + 1)), (nI (mf (z + 1))), (nI (bf (z + 1))))) hP hD [0, 1, 2] [] rfl rfl (by decide) (by decide) hk1 hFc hP1 hD1
                  generalize H1 = H at hP hS ⊢
                  have hP : va_P (dC, dI) vwCl [(g0, .inr (1, [.ref g1, .int (nI n), .ref g2, .int (nI ln), .int (bI rd), .int fp, .int (nI (sg ((z + 1) + 1))), .int (nI (mf (z + 1))), .int (nI (bf (z + 1)))])), (g1, .inl (cA, 1000, .inl (fun j => nI (tb j)))), (g2, .inl (cA, 1000, .inl (fun j => nI (kb j))))] H := hP
                  have hD : va_D A [(g0, .inr (1, [.ref g1, .int (nI n), .ref g2, .int (nI ln), .int (bI rd), .int fp, .int (nI (sg ((z + 1) + 1))), .int (nI (mf (z + 1))), .int (nI (bf (z + 1)))])), (g1, .inl (cA, 1000, .inl (fun j => nI (tb j)))), (g2, .inl (cA, 1000, .inl (fun j => nI (kb j))))] := hD
                  refine lv_if_eq (tgt := 110) hx hb dX1_run_103 (by decide) (fun c_70 => ?_) (fun c_70 => ?_)
                  · exact absurd c_70 (by decide)
                  · have c_70 : ¬ 1 = 0 := fun zz => c_70 ((nI_eq (a := 1) (b := 0) (by omega) (by omega)).mpr zz)
                    refine lv_iconst (v := 1) hx hb dX1_run_106 (by decide) ?_
                    refine lv_goto (tgt := 111) hx hb dX1_run_107 (by decide) ?_
                    refine lv_istore (lv' := [(4, .int 1), (3, .int (nI (nn + 1))), (5, .int (bI (mPart (nI (mf z))))), (0, .ref g0), (1, .int kd), (2, .int (nI j))]) hx hb dX1_run_111 hl (by decide) rfl (fun ls hl => ?_)
                    refine lv_goto (tgt := 24) hx hb dX1_run_113 (by decide) ?_
                    have hfit : mFit kd nn (nI (mf z)) = true := by simp only [mFit, if_neg c_52, if_neg c_53, if_pos c_54, if_neg c_70, c_64]
                    exact ih (z + 1) (nn + 1) H locs ls (by omega) (by omega) (by rw [← hR, mRunL_s (n := nn), if_pos hfit, if_pos hz]) hP hD hS (lv_sub hl [0, 1, 3, 4, 5] rfl)
          · refine lv_iload_n hx hb dX1_run_33 rfl (lv_at hl 1 rfl) ?_
            refine lv_if_ne (tgt := 47) hx hb dX1_run_34 (by decide) (fun c_71 => ?_) (fun c_71 => ?_)
            · have c_71 : ¬ nn = 0 := fun zz => c_71 ((nI_eq (a := nn) (b := 0) (by omega) (by omega)).mpr zz)
              refine lv_aload_n hx hb dX1_run_47 rfl (lv_at hl 2 rfl) ?_
              refine va_get (D := (dC, dI)) (ci := 1) (v := .int (nI (mf z))) (C := RX1) (T := TX1) (N := 9) hx hb hts hIn hown hK hP 0 rfl rfl 7 (by decide) (hts (.fieldLink RX1 57 RX1 "met" "I") (by decide +kernel)) (fun _ h9 => h9) rfl dX1_run_48 ?_
              refine vp_callSi (W.runS (As := [.int (nI (mf z))]) (rest := []) ⟨hx, hb, hml, hown, hts⟩ (c_X1_isPart l (nI (mf z))) (va_cwS 1 hts gX1_run_X1_isPart rfl rfl rfl (by decide +kernel) ⟨Nat.le_of_ble_eq_true rfl, Nat.le_of_ble_eq_true rfl⟩) ⟨fun _ _ _ _ q => q, fun U hU hW => ⟨rfl, trivial⟩⟩ rfl rfl hl.1 rfl (lv_room (Nat.le_of_ble_eq_true rfl)) dX1_run_51 ⟨Nat.le_of_ble_eq_true rfl, Nat.le_of_ble_eq_true rfl⟩) (fun r_72 er_72 => ?_)
              obtain rfl : r_72 = bI (mPart (nI (mf z))) := er_72
              refine lv_goto (tgt := 79) hx hb dX1_run_54 (by decide) ?_
              refine lv_istore (lv' := [(5, .int (bI (mPart (nI (mf z))))), (4, .int 1), (3, .int (nI nn)), (0, .ref g0), (1, .int kd), (2, .int (nI j))]) hx hb dX1_run_79 hl (by decide) rfl (fun ls hl => ?_)
              refine lv_iload hx hb dX1_run_81 (lv_at hl 0 rfl) ?_
              refine lv_if_eq (tgt := 92) hx hb dX1_run_83 (by decide) (fun c_73 => ?_) (fun c_73 => ?_)
              · have c_73 := bI_0 c_73
                refine lv_iload_n hx hb dX1_run_92 rfl (lv_at hl 2 rfl) ?_
                refine lv_istore_n (lv' := [(3, .int (nI nn)), (5, .int (bI (mPart (nI (mf z))))), (4, .int 1), (0, .ref g0), (1, .int kd), (2, .int (nI j))]) hx hb dX1_run_93 rfl hl (by decide) rfl (fun ls hl => ?_)
                refine lv_iload hx hb dX1_run_94 (lv_at hl 1 rfl) ?_
                refine lv_if_eq (tgt := 110) hx hb dX1_run_96 (by decide) (fun c_74 => ?_) (fun c_74 => ?_)
                · have c_74 := bI_0 c_74
                  refine lv_iconst (v := 0) hx hb dX1_run_110 (by decide) ?_
                  refine lv_istore (lv' := [(4, .int 0), (3, .int (nI nn)), (5, .int (bI (mPart (nI (mf z))))), (0, .ref g0), (1, .int kd), (2, .int (nI j))]) hx hb dX1_run_111 hl (by decide) rfl (fun ls hl => ?_)
                  refine lv_goto (tgt := 24) hx hb dX1_run_113 (by decide) ?_
                  refine lv_iload hx hb dX1_run_24 (lv_at hl 0 rfl) ?_
                  refine lv_if_eq (tgt := 116) hx hb dX1_run_26 (by decide) (fun c_75 => ?_) (fun c_75 => ?_)
                  · have c_75 : 0 = 0 := (nI_eq (a := 0) (b := 0) (by omega) (by omega)).mp c_75
                    refine lv_iload_n hx hb dX1_run_116 rfl (lv_at hl 1 rfl) ?_
                    have hP9 : va_P (dC, dI) vwCl (mw g0 g1 g2 cA (tb, n, kb, ln, rd, fp, (sg (z + 1)), (nI (mf z)), (nI (bf z)))) H := hP
                    have hD9 : va_D A (mw g0 g1 g2 cA (tb, n, kb, ln, rd, fp, (sg (z + 1)), (nI (mf z)), (nI (bf z)))) := hD
                    exact W.iret (v := nI nn) hx hb hr (fun t ht hW => ⟨⟨nI nn, (tb, n, kb, ln, rd, fp, (sg (z + 1)), (nI (mf z)), (nI (bf z))), rfl, ⟨by have hfit : ¬ mFit kd nn (nI (mf z)) = true := (by simp only [mFit, if_neg c_52, if_pos c_53, if_neg c_71, if_pos c_75, c_73]; exact fun q => q.elim); rw [← hR, mRunL_s, if_neg hfit], _, _, _, rfl⟩, by rw [ht]; exact hP9, va_K.moved hW.alike hK, hD9⟩, hS.F ht⟩) hS.2.2 dX1_run_117
                  · exact absurd c_75 (by decide)
                · exact absurd (bI_n0 c_74) c_73
              · have c_73 := bI_n0 c_73
                refine lv_iload_n hx hb dX1_run_86 rfl (lv_at hl 2 rfl) ?_
                refine lv_iconst (v := 1) hx hb dX1_run_87 (by decide) ?_
                refine lv_iadd hx hb dX1_run_88 ?_
                refine lv_topi (fun x_76 ex_76 => ?_)
                obtain rfl : x_76 = nI (nn + 1) := ex_76.trans (nI_add nn 1)
                refine lv_goto (tgt := 93) hx hb dX1_run_89 (by decide) ?_
                refine lv_istore_n (lv' := [(3, .int (nI (nn + 1))), (5, .int (bI (mPart (nI (mf z))))), (4, .int 1), (0, .ref g0), (1, .int kd), (2, .int (nI j))]) hx hb dX1_run_93 rfl hl (by decide) rfl (fun ls hl => ?_)
                refine lv_iload hx hb dX1_run_94 (lv_at hl 1 rfl) ?_
                refine lv_if_eq (tgt := 110) hx hb dX1_run_96 (by decide) (fun c_77 => ?_) (fun c_77 => ?_)
                · exact absurd c_73 (bI_0 c_77)
                · have c_77 := bI_n0 c_77
                  refine lv_aload_n hx hb dX1_run_99 rfl (lv_at hl 3 rfl) ?_
                  have hFc := va_free (wc := mw g0 g1 g2 cA (tb, n, kb, ln, rd, fp, (sg (z + 1)), (nI (mf z)), (nI (bf z)))) hD hS hA [0, 1, 2] rfl
                  obtain ⟨hgo, v_78, w_78, hsq, hmf, hbf, hsg⟩ := (hch hrd).2.1 (z + 1) hz
                  have hlt_78 := seqN_lt hkb hsq
                  refine va_calli (va_runV (As := []) (rest := []) ⟨hx, hb, hml, hown, hts⟩ (c_X1_next_some l dC dI g0 g1 g2 cA H.size tb n kb ln rd fp (sg (z + 1)) (nI (mf z)) (nI (bf z)) hkb hln (by omega) v_78 w_78 hgo hsq) (cwV 0 hts gX1_run_X1_next rfl rfl rfl (by decide +kernel) ⟨Nat.le_of_ble_eq_true rfl, Nat.le_of_ble_eq_true rfl⟩) ⟨mmut_blind, va_recv hK hP (ci := 1) (q0 := 0) rfl rfl, fun U hU hW => ⟨rfl, mmut_of hP hK hD hU hW⟩⟩ rfl rfl hl.1 rfl (lv_room (Nat.le_of_ble_eq_true rfl)) dX1_run_100 ⟨Nat.le_of_ble_eq_true rfl, Nat.le_of_ble_eq_true rfl⟩) hS (fun q _ h => hFc q h) hFc (fun r_78 u_78 t_78 H1 locs ht hvm hw hB hz1 hk1 hS => ?_)
                  obtain ⟨hw0, hw1⟩ := hw
                  rw [← hmf, ← hsg, ← hbf] at hw1
                  obtain rfl : r_78 = 1 := hw0
                  obtain rfl : u_78 = (tb, n, kb, ln, rd, fp, (sg ((z + 1) + 1)), (nI (mf (z + 1))), (nI (bf (z + 1)))) := hw1
                  obtain ⟨hP1, hK1, hD1⟩ := hB
                  rw [ht] at hP1
                  obtain ⟨hP, hD⟩ := va_join (wr := []) (w1 := mw g0 g1 g2 cA (tb, n, kb, ln, rd, fp, (sg ((z + 1) + 1)), (nI (mf (z + 1))), (nI (bf (z + 1))))) hP hD [0, 1, 2] [] rfl rfl (by decide) (by decide) hk1 hFc hP1 hD1
                  generalize H1 = H at hP hS ⊢
                  have hP : va_P (dC, dI) vwCl [(g0, .inr (1, [.ref g1, .int (nI n), .ref g2, .int (nI ln), .int (bI rd), .int fp, .int (nI (sg ((z + 1) + 1))), .int (nI (mf (z + 1))), .int (nI (bf (z + 1)))])), (g1, .inl (cA, 1000, .inl (fun j => nI (tb j)))), (g2, .inl (cA, 1000, .inl (fun j => nI (kb j))))] H := hP
                  have hD : va_D A [(g0, .inr (1, [.ref g1, .int (nI n), .ref g2, .int (nI ln), .int (bI rd), .int fp, .int (nI (sg ((z + 1) + 1))), .int (nI (mf (z + 1))), .int (nI (bf (z + 1)))])), (g1, .inl (cA, 1000, .inl (fun j => nI (tb j)))), (g2, .inl (cA, 1000, .inl (fun j => nI (kb j))))] := hD
                  refine lv_if_eq (tgt := 110) hx hb dX1_run_103 (by decide) (fun c_79 => ?_) (fun c_79 => ?_)
                  · exact absurd c_79 (by decide)
                  · have c_79 : ¬ 1 = 0 := fun zz => c_79 ((nI_eq (a := 1) (b := 0) (by omega) (by omega)).mpr zz)
                    refine lv_iconst (v := 1) hx hb dX1_run_106 (by decide) ?_
                    refine lv_goto (tgt := 111) hx hb dX1_run_107 (by decide) ?_
                    refine lv_istore (lv' := [(4, .int 1), (3, .int (nI (nn + 1))), (5, .int (bI (mPart (nI (mf z))))), (0, .ref g0), (1, .int kd), (2, .int (nI j))]) hx hb dX1_run_111 hl (by decide) rfl (fun ls hl => ?_)
                    refine lv_goto (tgt := 24) hx hb dX1_run_113 (by decide) ?_
                    have hfit : mFit kd nn (nI (mf z)) = true := by simp only [mFit, if_neg c_52, if_pos c_53, if_neg c_71, if_neg c_79, c_73]
                    exact ih (z + 1) (nn + 1) H locs ls (by omega) (by omega) (by rw [← hR, mRunL_s (n := nn), if_pos hfit, if_pos hz]) hP hD hS (lv_sub hl [0, 1, 3, 4, 5] rfl)
            · have c_71 : nn = 0 := (nI_eq (a := nn) (b := 0) (by omega) (by omega)).mp c_71
              refine lv_aload_n hx hb dX1_run_37 rfl (lv_at hl 2 rfl) ?_
              refine va_get (D := (dC, dI)) (ci := 1) (v := .int (nI (mf z))) (C := RX1) (T := TX1) (N := 9) hx hb hts hIn hown hK hP 0 rfl rfl 7 (by decide) (hts (.fieldLink RX1 57 RX1 "met" "I") (by decide +kernel)) (fun _ h9 => h9) rfl dX1_run_38 ?_
              refine vp_callSi (W.runS (As := [.int (nI (mf z))]) (rest := []) ⟨hx, hb, hml, hown, hts⟩ (c_X1_isBegin l (nI (mf z))) (va_cwS 1 hts gX1_run_X1_isBegin rfl rfl rfl (by decide +kernel) ⟨Nat.le_of_ble_eq_true rfl, Nat.le_of_ble_eq_true rfl⟩) ⟨fun _ _ _ _ q => q, fun U hU hW => ⟨rfl, trivial⟩⟩ rfl rfl hl.1 rfl (lv_room (Nat.le_of_ble_eq_true rfl)) dX1_run_41 ⟨Nat.le_of_ble_eq_true rfl, Nat.le_of_ble_eq_true rfl⟩) (fun r_80 er_80 => ?_)
              obtain rfl : r_80 = bI (mBeg (nI (mf z))) := er_80
              refine lv_goto (tgt := 79) hx hb dX1_run_44 (by decide) ?_
              refine lv_istore (lv' := [(5, .int (bI (mBeg (nI (mf z))))), (4, .int 1), (3, .int (nI nn)), (0, .ref g0), (1, .int kd), (2, .int (nI j))]) hx hb dX1_run_79 hl (by decide) rfl (fun ls hl => ?_)
              refine lv_iload hx hb dX1_run_81 (lv_at hl 0 rfl) ?_
              refine lv_if_eq (tgt := 92) hx hb dX1_run_83 (by decide) (fun c_81 => ?_) (fun c_81 => ?_)
              · have c_81 := bI_0 c_81
                refine lv_iload_n hx hb dX1_run_92 rfl (lv_at hl 2 rfl) ?_
                refine lv_istore_n (lv' := [(3, .int (nI nn)), (5, .int (bI (mBeg (nI (mf z))))), (4, .int 1), (0, .ref g0), (1, .int kd), (2, .int (nI j))]) hx hb dX1_run_93 rfl hl (by decide) rfl (fun ls hl => ?_)
                refine lv_iload hx hb dX1_run_94 (lv_at hl 1 rfl) ?_
                refine lv_if_eq (tgt := 110) hx hb dX1_run_96 (by decide) (fun c_82 => ?_) (fun c_82 => ?_)
                · have c_82 := bI_0 c_82
                  refine lv_iconst (v := 0) hx hb dX1_run_110 (by decide) ?_
                  refine lv_istore (lv' := [(4, .int 0), (3, .int (nI nn)), (5, .int (bI (mBeg (nI (mf z))))), (0, .ref g0), (1, .int kd), (2, .int (nI j))]) hx hb dX1_run_111 hl (by decide) rfl (fun ls hl => ?_)
                  refine lv_goto (tgt := 24) hx hb dX1_run_113 (by decide) ?_
                  refine lv_iload hx hb dX1_run_24 (lv_at hl 0 rfl) ?_
                  refine lv_if_eq (tgt := 116) hx hb dX1_run_26 (by decide) (fun c_83 => ?_) (fun c_83 => ?_)
                  · have c_83 : 0 = 0 := (nI_eq (a := 0) (b := 0) (by omega) (by omega)).mp c_83
                    refine lv_iload_n hx hb dX1_run_116 rfl (lv_at hl 1 rfl) ?_
                    have hP9 : va_P (dC, dI) vwCl (mw g0 g1 g2 cA (tb, n, kb, ln, rd, fp, (sg (z + 1)), (nI (mf z)), (nI (bf z)))) H := hP
                    have hD9 : va_D A (mw g0 g1 g2 cA (tb, n, kb, ln, rd, fp, (sg (z + 1)), (nI (mf z)), (nI (bf z)))) := hD
                    exact W.iret (v := nI nn) hx hb hr (fun t ht hW => ⟨⟨nI nn, (tb, n, kb, ln, rd, fp, (sg (z + 1)), (nI (mf z)), (nI (bf z))), rfl, ⟨by have hfit : ¬ mFit kd nn (nI (mf z)) = true := (by simp only [mFit, if_neg c_52, if_pos c_53, if_pos c_71, if_pos c_83, c_81]; exact fun q => q.elim); rw [← hR, mRunL_s, if_neg hfit], _, _, _, rfl⟩, by rw [ht]; exact hP9, va_K.moved hW.alike hK, hD9⟩, hS.F ht⟩) hS.2.2 dX1_run_117
                  · exact absurd c_83 (by decide)
                · exact absurd (bI_n0 c_82) c_81
              · have c_81 := bI_n0 c_81
                refine lv_iload_n hx hb dX1_run_86 rfl (lv_at hl 2 rfl) ?_
                refine lv_iconst (v := 1) hx hb dX1_run_87 (by decide) ?_
                refine lv_iadd hx hb dX1_run_88 ?_
                refine lv_topi (fun x_84 ex_84 => ?_)
                obtain rfl : x_84 = nI (nn + 1) := ex_84.trans (nI_add nn 1)
                refine lv_goto (tgt := 93) hx hb dX1_run_89 (by decide) ?_
                refine lv_istore_n (lv' := [(3, .int (nI (nn + 1))), (5, .int (bI (mBeg (nI (mf z))))), (4, .int 1), (0, .ref g0), (1, .int kd), (2, .int (nI j))]) hx hb dX1_run_93 rfl hl (by decide) rfl (fun ls hl => ?_)
                refine lv_iload hx hb dX1_run_94 (lv_at hl 1 rfl) ?_
                refine lv_if_eq (tgt := 110) hx hb dX1_run_96 (by decide) (fun c_85 => ?_) (fun c_85 => ?_)
                · exact absurd c_81 (bI_0 c_85)
                · have c_85 := bI_n0 c_85
                  refine lv_aload_n hx hb dX1_run_99 rfl (lv_at hl 3 rfl) ?_
                  have hFc := va_free (wc := mw g0 g1 g2 cA (tb, n, kb, ln, rd, fp, (sg (z + 1)), (nI (mf z)), (nI (bf z)))) hD hS hA [0, 1, 2] rfl
                  obtain ⟨hgo, v_86, w_86, hsq, hmf, hbf, hsg⟩ := (hch hrd).2.1 (z + 1) hz
                  have hlt_86 := seqN_lt hkb hsq
                  refine va_calli (va_runV (As := []) (rest := []) ⟨hx, hb, hml, hown, hts⟩ (c_X1_next_some l dC dI g0 g1 g2 cA H.size tb n kb ln rd fp (sg (z + 1)) (nI (mf z)) (nI (bf z)) hkb hln (by omega) v_86 w_86 hgo hsq) (cwV 0 hts gX1_run_X1_next rfl rfl rfl (by decide +kernel) ⟨Nat.le_of_ble_eq_true rfl, Nat.le_of_ble_eq_true rfl⟩) ⟨mmut_blind, va_recv hK hP (ci := 1) (q0 := 0) rfl rfl, fun U hU hW => ⟨rfl, mmut_of hP hK hD hU hW⟩⟩ rfl rfl hl.1 rfl (lv_room (Nat.le_of_ble_eq_true rfl)) dX1_run_100 ⟨Nat.le_of_ble_eq_true rfl, Nat.le_of_ble_eq_true rfl⟩) hS (fun q _ h => hFc q h) hFc (fun r_86 u_86 t_86 H1 locs ht hvm hw hB hz1 hk1 hS => ?_)
                  obtain ⟨hw0, hw1⟩ := hw
                  rw [← hmf, ← hsg, ← hbf] at hw1
                  obtain rfl : r_86 = 1 := hw0
                  obtain rfl : u_86 = (tb, n, kb, ln, rd, fp, (sg ((z + 1) + 1)), (nI (mf (z + 1))), (nI (bf (z + 1)))) := hw1
                  obtain ⟨hP1, hK1, hD1⟩ := hB
                  rw [ht] at hP1
                  obtain ⟨hP, hD⟩ := va_join (wr := []) (w1 := mw g0 g1 g2 cA (tb, n, kb, ln, rd, fp, (sg ((z + 1) + 1)), (nI (mf (z + 1))), (nI (bf (z + 1))))) hP hD [0, 1, 2] [] rfl rfl (by decide) (by decide) hk1 hFc hP1 hD1
                  generalize H1 = H at hP hS ⊢
                  have hP : va_P (dC, dI) vwCl [(g0, .inr (1, [.ref g1, .int (nI n), .ref g2, .int (nI ln), .int (bI rd), .int fp, .int (nI (sg ((z + 1) + 1))), .int (nI (mf (z + 1))), .int (nI (bf (z + 1)))])), (g1, .inl (cA, 1000, .inl (fun j => nI (tb j)))), (g2, .inl (cA, 1000, .inl (fun j => nI (kb j))))] H := hP
                  have hD : va_D A [(g0, .inr (1, [.ref g1, .int (nI n), .ref g2, .int (nI ln), .int (bI rd), .int fp, .int (nI (sg ((z + 1) + 1))), .int (nI (mf (z + 1))), .int (nI (bf (z + 1)))])), (g1, .inl (cA, 1000, .inl (fun j => nI (tb j)))), (g2, .inl (cA, 1000, .inl (fun j => nI (kb j))))] := hD
                  refine lv_if_eq (tgt := 110) hx hb dX1_run_103 (by decide) (fun c_87 => ?_) (fun c_87 => ?_)
                  · exact absurd c_87 (by decide)
                  · have c_87 : ¬ 1 = 0 := fun zz => c_87 ((nI_eq (a := 1) (b := 0) (by omega) (by omega)).mpr zz)
                    refine lv_iconst (v := 1) hx hb dX1_run_106 (by decide) ?_
                    refine lv_goto (tgt := 111) hx hb dX1_run_107 (by decide) ?_
                    refine lv_istore (lv' := [(4, .int 1), (3, .int (nI (nn + 1))), (5, .int (bI (mBeg (nI (mf z))))), (0, .ref g0), (1, .int kd), (2, .int (nI j))]) hx hb dX1_run_111 hl (by decide) rfl (fun ls hl => ?_)
                    refine lv_goto (tgt := 24) hx hb dX1_run_113 (by decide) ?_
                    have hfit : mFit kd nn (nI (mf z)) = true := by simp only [mFit, if_neg c_52, if_pos c_53, if_pos c_71, if_neg c_87, c_81]
                    exact ih (z + 1) (nn + 1) H locs ls (by omega) (by omega) (by rw [← hR, mRunL_s (n := nn), if_pos hfit, if_pos hz]) hP hD hS (lv_sub hl [0, 1, 3, 4, 5] rfl)
    refine lv_iload_n hx hb dX1_run_0 rfl (lv_at hl 1 rfl) ?_
    refine lv_if_lt (tgt := 17) hx hb dX1_run_1 (by decide) (fun c_88 => ?_) (fun c_88 => ?_)
    · exact absurd c_88 h1
    · refine lv_iload_n hx hb dX1_run_4 rfl (lv_at hl 1 rfl) ?_
      refine lv_iconst (v := 2) hx hb dX1_run_5 (by decide) ?_
      refine lv_icmp_gt (tgt := 17) hx hb dX1_run_6 (by decide) (fun c_89 => ?_) (fun c_89 => ?_)
      · exact absurd c_89 h2
      · refine lv_aload_n hx hb dX1_run_9 rfl (lv_at hl 0 rfl) ?_
        refine lv_iload_n hx hb dX1_run_10 rfl (lv_at hl 2 rfl) ?_
        have hFc := va_free (wc := mw g0 g1 g2 cA (tb, n, kb, ln, rd, fp, st, mt, bg)) hD hS hA [0, 1, 2] rfl
        refine va_calli (va_runV (As := [.int (nI j)]) (rest := []) ⟨hx, hb, hml, hown, hts⟩ (c_X1_go_yes l dC dI g0 g1 g2 cA s.heap.size tb n kb ln rd fp st mt bg hkb hln k mf bf sg (hch hrd) j hj hk hrd) (cwV 1 hts gX1_run_X1_go rfl rfl rfl (by decide +kernel) ⟨Nat.le_of_ble_eq_true rfl, Nat.le_of_ble_eq_true rfl⟩) ⟨mmut_blind, va_recv hK hP (ci := 1) (q0 := 0) rfl rfl, fun U hU hW => ⟨rfl, mmut_of hP hK hD hU hW⟩⟩ rfl rfl hl.1 rfl (lv_room (Nat.le_of_ble_eq_true rfl)) dX1_run_11 ⟨Nat.le_of_ble_eq_true rfl, Nat.le_of_ble_eq_true rfl⟩) hS (fun q _ h => hFc q h) hFc (fun r_90 u_90 t_90 H1 locs ht hvm hw hB hz1 hk1 hS => ?_)
        obtain ⟨hw0, hw1⟩ := hw
        obtain rfl : r_90 = 1 := hw0
        obtain rfl : u_90 = (tb, n, kb, ln, rd, fp, (sg (j + 1)), (nI (mf j)), (nI (bf j))) := hw1
        obtain ⟨hP1, hK1, hD1⟩ := hB
        rw [ht] at hP1
        obtain ⟨hP, hD⟩ := va_join (wr := []) (w1 := mw g0 g1 g2 cA (tb, n, kb, ln, rd, fp, (sg (j + 1)), (nI (mf j)), (nI (bf j)))) hP hD [0, 1, 2] [] rfl rfl (by decide) (by decide) hk1 hFc hP1 hD1
        generalize H1 = H at hP hS ⊢
        have hP : va_P (dC, dI) vwCl [(g0, .inr (1, [.ref g1, .int (nI n), .ref g2, .int (nI ln), .int (bI rd), .int fp, .int (nI (sg (j + 1))), .int (nI (mf j)), .int (nI (bf j))])), (g1, .inl (cA, 1000, .inl (fun j => nI (tb j)))), (g2, .inl (cA, 1000, .inl (fun j => nI (kb j))))] H := hP
        have hD : va_D A [(g0, .inr (1, [.ref g1, .int (nI n), .ref g2, .int (nI ln), .int (bI rd), .int fp, .int (nI (sg (j + 1))), .int (nI (mf j)), .int (nI (bf j))])), (g1, .inl (cA, 1000, .inl (fun j => nI (tb j)))), (g2, .inl (cA, 1000, .inl (fun j => nI (kb j))))] := hD
        refine lv_if_ne (tgt := 19) hx hb dX1_run_14 (by decide) (fun c_91 => ?_) (fun c_91 => ?_)
        · have c_91 : ¬ 1 = 0 := fun zz => c_91 ((nI_eq (a := 1) (b := 0) (by omega) (by omega)).mpr zz)
          refine lv_iconst (v := 0) hx hb dX1_run_19 (by decide) ?_
          refine lv_istore_n (lv' := [(3, .int 0), (0, .ref g0), (1, .int kd), (2, .int (nI j))]) hx hb dX1_run_20 rfl hl (by decide) rfl (fun ls hl => ?_)
          refine lv_iconst (v := 1) hx hb dX1_run_21 (by decide) ?_
          refine lv_istore (lv' := [(4, .int 1), (3, .int 0), (0, .ref g0), (1, .int kd), (2, .int (nI j))]) hx hb dX1_run_22 hl (by decide) rfl (fun ls hl => ?_)
          exact loop (k - j - 1) j 0 H locs ls (by omega) (by omega) (by rw [hR0, show k - j - 1 + 1 = k - j by omega]) hP hD hS (lv_sub hl [0, 1, 2, 3, 4] rfl)
        · exact absurd c_91 (by decide)
end
