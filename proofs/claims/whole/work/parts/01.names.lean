-- ===== PART A: goes FIRST, ahead of the names: the tables' words, and 'selects' of the private methods out of them =====
/-- a private method of a class that the tables say can be made, by its rows of tables_1 -/
def lw_okq (q : MethodName × Nat) : Prop := (q.1.cls ≠ "java/lang/invoke/MethodHandle" ∧ q.1.cls ≠ "java/lang/invoke/VarHandle") ∧ Cond.instantiable q.1.cls q.2 ∈ tables_1 ∧ Cond.privateMethod q.1 ∈ tables_1 ∧ Cond.instanceMethod q.1 ∈ tables_1
theorem lw_p0 : lw_okq (⟨"CharDesk", "hasRoomFor", "(I)Z"⟩, 7) := ⟨⟨by decide +kernel, by decide +kernel⟩, List.mem_of_getElem? (i := 5) (by decide +kernel), List.mem_of_getElem? (i := 40) (by decide +kernel), List.mem_of_getElem? (i := 41) (by decide +kernel)⟩
theorem lw_p1 : lw_okq (⟨"CharDesk", "append", "(I)V"⟩, 7) := ⟨⟨by decide +kernel, by decide +kernel⟩, List.mem_of_getElem? (i := 5) (by decide +kernel), List.mem_of_getElem? (i := 44) (by decide +kernel), List.mem_of_getElem? (i := 45) (by decide +kernel)⟩
theorem lw_p2 : lw_okq (⟨"CharDesk", "forgetReading", "()V"⟩, 7) := ⟨⟨by decide +kernel, by decide +kernel⟩, List.mem_of_getElem? (i := 5) (by decide +kernel), List.mem_of_getElem? (i := 69) (by decide +kernel), List.mem_of_getElem? (i := 70) (by decide +kernel)⟩
theorem lw_p3 : lw_okq (⟨"CharDesk", "readText", "()I"⟩, 7) := ⟨⟨by decide +kernel, by decide +kernel⟩, List.mem_of_getElem? (i := 5) (by decide +kernel), List.mem_of_getElem? (i := 73) (by decide +kernel), List.mem_of_getElem? (i := 74) (by decide +kernel)⟩
theorem lw_p4 : lw_okq (⟨"CharDesk", "decodedAt", "(I)I"⟩, 7) := ⟨⟨by decide +kernel, by decide +kernel⟩, List.mem_of_getElem? (i := 5) (by decide +kernel), List.mem_of_getElem? (i := 77) (by decide +kernel), List.mem_of_getElem? (i := 78) (by decide +kernel)⟩
theorem lw_p5 : lw_okq (⟨"CharDesk", "isLeftOut", "(II)Z"⟩, 7) := ⟨⟨by decide +kernel, by decide +kernel⟩, List.mem_of_getElem? (i := 5) (by decide +kernel), List.mem_of_getElem? (i := 92) (by decide +kernel), List.mem_of_getElem? (i := 93) (by decide +kernel)⟩
theorem lw_p6 : lw_okq (⟨"CharDesk", "keep", "(II)V"⟩, 7) := ⟨⟨by decide +kernel, by decide +kernel⟩, List.mem_of_getElem? (i := 5) (by decide +kernel), List.mem_of_getElem? (i := 97) (by decide +kernel), List.mem_of_getElem? (i := 98) (by decide +kernel)⟩
theorem lw_p7 : lw_okq (⟨"CharDesk", "hasCharacter", "(I)Z"⟩, 7) := ⟨⟨by decide +kernel, by decide +kernel⟩, List.mem_of_getElem? (i := 5) (by decide +kernel), List.mem_of_getElem? (i := 109) (by decide +kernel), List.mem_of_getElem? (i := 110) (by decide +kernel)⟩
theorem lw_p8 : lw_okq (⟨"CharDesk", "hasStretch", "(II)Z"⟩, 7) := ⟨⟨by decide +kernel, by decide +kernel⟩, List.mem_of_getElem? (i := 5) (by decide +kernel), List.mem_of_getElem? (i := 141) (by decide +kernel), List.mem_of_getElem? (i := 142) (by decide +kernel)⟩
theorem lw_p9 : lw_okq (⟨"CharDeskModel", "sequence", "()I"⟩, 9) := ⟨⟨by decide +kernel, by decide +kernel⟩, List.mem_of_getElem? (i := 152) (by decide +kernel), List.mem_of_getElem? (i := 212) (by decide +kernel), List.mem_of_getElem? (i := 213) (by decide +kernel)⟩
theorem lw_p10 : lw_okq (⟨"CharDeskModel", "next", "()Z"⟩, 9) := ⟨⟨by decide +kernel, by decide +kernel⟩, List.mem_of_getElem? (i := 152) (by decide +kernel), List.mem_of_getElem? (i := 222) (by decide +kernel), List.mem_of_getElem? (i := 223) (by decide +kernel)⟩
theorem lw_p11 : lw_okq (⟨"CharDeskModel", "go", "(I)Z"⟩, 9) := ⟨⟨by decide +kernel, by decide +kernel⟩, List.mem_of_getElem? (i := 152) (by decide +kernel), List.mem_of_getElem? (i := 234) (by decide +kernel), List.mem_of_getElem? (i := 235) (by decide +kernel)⟩
def lw_privs_1 : List (MethodName × Nat) := [(⟨"CharDesk", "hasRoomFor", "(I)Z"⟩, 7), (⟨"CharDesk", "append", "(I)V"⟩, 7), (⟨"CharDesk", "forgetReading", "()V"⟩, 7), (⟨"CharDesk", "readText", "()I"⟩, 7), (⟨"CharDesk", "decodedAt", "(I)I"⟩, 7), (⟨"CharDesk", "isLeftOut", "(II)Z"⟩, 7), (⟨"CharDesk", "keep", "(II)V"⟩, 7), (⟨"CharDesk", "hasCharacter", "(I)Z"⟩, 7), (⟨"CharDesk", "hasStretch", "(II)Z"⟩, 7), (⟨"CharDeskModel", "sequence", "()I"⟩, 9), (⟨"CharDeskModel", "next", "()Z"⟩, 9), (⟨"CharDeskModel", "go", "(I)Z"⟩, 9)]
theorem lw_r1 : ∀ q ∈ lw_privs_1, lw_okq q := List.forall_mem_cons.mpr ⟨lw_p0, List.forall_mem_cons.mpr ⟨lw_p1, List.forall_mem_cons.mpr ⟨lw_p2, List.forall_mem_cons.mpr ⟨lw_p3, List.forall_mem_cons.mpr ⟨lw_p4, List.forall_mem_cons.mpr ⟨lw_p5, List.forall_mem_cons.mpr ⟨lw_p6, List.forall_mem_cons.mpr ⟨lw_p7, List.forall_mem_cons.mpr ⟨lw_p8, List.forall_mem_cons.mpr ⟨lw_p9, List.forall_mem_cons.mpr ⟨lw_p10, List.forall_mem_cons.mpr ⟨lw_p11, fun _ h => absurd h List.not_mem_nil⟩⟩⟩⟩⟩⟩⟩⟩⟩⟩⟩⟩
def lw_privs : List (MethodName × Nat) := lw_privs_1
def lw_tbl : List Cond := k2_sels lw_privs ++ tables_1
theorem lw_privs_ok : ∀ q ∈ lw_privs, lw_okq q := lw_r1
-- ===== end of PART A; then your names; then what follows =====
/-! ===== BEGIN words of one list among another's, by their places ===== -/
theorem goodIn_r {big : List Cond} (ws : List Cond) (ps : List Nat) (hp : ws = ps.filterMap (fun i => big[i]?)) (h : ws.all goodWord = true) : GoodIn big ws := by
  intro w hw
  have h1 := List.all_eq_true.mp h w hw
  rw [hp] at hw
  obtain ⟨i, -, hi⟩ := List.mem_filterMap.mp hw
  have hm : w ∈ big := by first | exact List.mem_of_getElem? hi | exact List.getElem?_mem hi
  exact ⟨hm, good_of_word h1⟩
theorem goodIn_app {big a b : List Cond} (ha : GoodIn big a) (hb : GoodIn big b) : GoodIn big (a ++ b) := fun w h => (List.mem_append.mp h).elim (ha w) (hb w)
theorem goodIn_ca {big a b : List Cond} {c : Cond} (ha : GoodIn big (c :: a)) (hb : GoodIn big b) : GoodIn big (c :: (a ++ b)) := fun w h => (List.mem_cons.mp h).elim (fun e => ha w (List.mem_cons.mpr (Or.inl e))) (fun h => (List.mem_append.mp h).elim (fun h => ha w (List.mem_cons.mpr (Or.inr h))) (hb w))
theorem goodIn_sub {big ws : List Cond} (hm : ∀ w ∈ ws, w ∈ big) (h : ws.all goodWord = true) : GoodIn big ws := fun w hw => ⟨hm w hw, good_of_word (List.all_eq_true.mp h w hw)⟩
/-! ===== END ===== -/

/-! ===== BEGIN printed: names, fields, word lists, decode rows ===== -/
def RX0 : String := "CharDesk"
def TX0 : u_T := fun k => match k with
  | 0 => ("CharDesk", "text", "[I", true)
  | 1 => ("CharDesk", "textLength", "I", false)
  | 2 => ("CharDesk", "characters", "[I", true)
  | 3 => ("CharDesk", "places", "[I", true)
  | 4 => ("CharDesk", "count", "I", false)
  | 5 => ("CharDesk", "readLength", "I", false)
  | _ => ("CharDesk", "faultPlace", "I", false)
def tyX0 : Nat → FieldType := fun k => match k with
  | 0 => .array .int
  | 1 => .int
  | 2 => .array .int
  | 3 => .array .int
  | 4 => .int
  | 5 => .int
  | _ => .int
abbrev wsX00 : List Cond := u_ws RX0 TX0 7
theorem nmX0 : ∀ a, a < 7 → ∀ b, b < 7 → a ≠ b → (TX0 a).2.1 ≠ (TX0 b).2.1 := by decide +kernel
theorem tyX0_ok : ∀ k, k < 7 → parseFieldDescriptor (TX0 k).2.2.1 = some (tyX0 k) := by decide +kernel
abbrev cX0_init : ByteArray := prog_1_method_1_code
def yX0_init : MethodName := ⟨RX0, "<init>", "()V"⟩
abbrev cX0_put : ByteArray := prog_1_method_2_code
def yX0_put : MethodName := ⟨RX0, "put", "(JI)Z"⟩
abbrev cX0_character : ByteArray := prog_1_method_3_code
def yX0_character : MethodName := ⟨RX0, "character", "(I)Z"⟩
abbrev cX0_read : ByteArray := prog_1_method_4_code
def yX0_read : MethodName := ⟨RX0, "read", "()I"⟩
abbrev cX0_place : ByteArray := prog_1_method_5_code
def yX0_place : MethodName := ⟨RX0, "place", "()I"⟩
abbrev cX0_at : ByteArray := prog_1_method_6_code
def yX0_at : MethodName := ⟨RX0, "at", "(I)I"⟩
abbrev cX0_placeOf : ByteArray := prog_1_method_7_code
def yX0_placeOf : MethodName := ⟨RX0, "placeOf", "(I)I"⟩
abbrev cX0_kind : ByteArray := prog_1_method_8_code
def yX0_kind : MethodName := ⟨RX0, "kind", "(I)I"⟩
abbrev cX0_run : ByteArray := prog_1_method_9_code
def yX0_run : MethodName := ⟨RX0, "run", "(II)I"⟩
abbrev cX0_compare : ByteArray := prog_1_method_10_code
def yX0_compare : MethodName := ⟨RX0, "compare", "(III)I"⟩
abbrev cX0_bytes : ByteArray := prog_1_method_11_code
def yX0_bytes : MethodName := ⟨RX0, "bytes", "(I)J"⟩
abbrev cX0_hasRoomFor : ByteArray := prog_1_method_12_code
def yX0_hasRoomFor : MethodName := ⟨RX0, "hasRoomFor", "(I)Z"⟩
abbrev cX0_append : ByteArray := prog_1_method_13_code
def yX0_append : MethodName := ⟨RX0, "append", "(I)V"⟩
abbrev cX0_forgetReading : ByteArray := prog_1_method_14_code
def yX0_forgetReading : MethodName := ⟨RX0, "forgetReading", "()V"⟩
abbrev cX0_readText : ByteArray := prog_1_method_15_code
def yX0_readText : MethodName := ⟨RX0, "readText", "()I"⟩
abbrev cX0_faultOf : ByteArray := prog_1_method_16_code
def yX0_faultOf : MethodName := ⟨RX0, "faultOf", "(I)I"⟩
abbrev cX0_isLeftOut : ByteArray := prog_1_method_17_code
def yX0_isLeftOut : MethodName := ⟨RX0, "isLeftOut", "(II)Z"⟩
abbrev cX0_keep : ByteArray := prog_1_method_18_code
def yX0_keep : MethodName := ⟨RX0, "keep", "(II)V"⟩
abbrev cX0_decodedAt : ByteArray := prog_1_method_19_code
def yX0_decodedAt : MethodName := ⟨RX0, "decodedAt", "(I)I"⟩
abbrev cX0_followersOf : ByteArray := prog_1_method_20_code
def yX0_followersOf : MethodName := ⟨RX0, "followersOf", "(I)I"⟩
abbrev cX0_widthOf : ByteArray := prog_1_method_21_code
def yX0_widthOf : MethodName := ⟨RX0, "widthOf", "(I)I"⟩
abbrev cX0_encodedByte : ByteArray := prog_1_method_22_code
def yX0_encodedByte : MethodName := ⟨RX0, "encodedByte", "(III)I"⟩
abbrev cX0_firstByteMark : ByteArray := prog_1_method_23_code
def yX0_firstByteMark : MethodName := ⟨RX0, "firstByteMark", "(I)I"⟩
abbrev cX0_hasCharacter : ByteArray := prog_1_method_24_code
def yX0_hasCharacter : MethodName := ⟨RX0, "hasCharacter", "(I)Z"⟩
abbrev cX0_hasStretch : ByteArray := prog_1_method_25_code
def yX0_hasStretch : MethodName := ⟨RX0, "hasStretch", "(II)Z"⟩
abbrev cX0_belongsToRun : ByteArray := prog_1_method_26_code
def yX0_belongsToRun : MethodName := ⟨RX0, "belongsToRun", "(II)Z"⟩
abbrev cX0_isNamePart : ByteArray := prog_1_method_27_code
def yX0_isNamePart : MethodName := ⟨RX0, "isNamePart", "(I)Z"⟩
abbrev cX0_isIn : ByteArray := prog_1_method_28_code
def yX0_isIn : MethodName := ⟨RX0, "isIn", "([II)Z"⟩
def RX1 : String := "CharDeskModel"
def TX1 : u_T := fun k => match k with
  | 0 => ("CharDeskModel", "text", "[I", true)
  | 1 => ("CharDeskModel", "size", "I", false)
  | 2 => ("CharDeskModel", "kept", "[I", true)
  | 3 => ("CharDeskModel", "length", "I", false)
  | 4 => ("CharDeskModel", "read", "Z", false)
  | 5 => ("CharDeskModel", "place", "I", false)
  | 6 => ("CharDeskModel", "stand", "I", false)
  | 7 => ("CharDeskModel", "met", "I", false)
  | _ => ("CharDeskModel", "began", "I", false)
def tyX1 : Nat → FieldType := fun k => match k with
  | 0 => .array .int
  | 1 => .int
  | 2 => .array .int
  | 3 => .int
  | 4 => .boolean
  | 5 => .int
  | 6 => .int
  | 7 => .int
  | _ => .int
abbrev wsX10 : List Cond := u_ws RX1 TX1 9
theorem nmX1 : ∀ a, a < 9 → ∀ b, b < 9 → a ≠ b → (TX1 a).2.1 ≠ (TX1 b).2.1 := by decide +kernel
theorem tyX1_ok : ∀ k, k < 9 → parseFieldDescriptor (TX1 k).2.2.1 = some (tyX1 k) := by decide +kernel
abbrev cX1_init : ByteArray := prog_3_method_1_code
def yX1_init : MethodName := ⟨RX1, "<init>", "()V"⟩
abbrev cX1_put : ByteArray := prog_3_method_2_code
def yX1_put : MethodName := ⟨RX1, "put", "(JI)Z"⟩
abbrev cX1_has : ByteArray := prog_3_method_3_code
def yX1_has : MethodName := ⟨RX1, "has", "(I)Z"⟩
abbrev cX1_sizeOf : ByteArray := prog_3_method_4_code
def yX1_sizeOf : MethodName := ⟨RX1, "sizeOf", "(I)I"⟩
abbrev cX1_byteOf : ByteArray := prog_3_method_5_code
def yX1_byteOf : MethodName := ⟨RX1, "byteOf", "(II)I"⟩
abbrev cX1_character : ByteArray := prog_3_method_6_code
def yX1_character : MethodName := ⟨RX1, "character", "(I)Z"⟩
abbrev cX1_sequence : ByteArray := prog_3_method_7_code
def yX1_sequence : MethodName := ⟨RX1, "sequence", "()I"⟩
abbrev cX1_isAllowed : ByteArray := prog_3_method_8_code
def yX1_isAllowed : MethodName := ⟨RX1, "isAllowed", "(I)Z"⟩
abbrev cX1_next : ByteArray := prog_3_method_9_code
def yX1_next : MethodName := ⟨RX1, "next", "()Z"⟩
abbrev cX1_read : ByteArray := prog_3_method_10_code
def yX1_read : MethodName := ⟨RX1, "read", "()I"⟩
abbrev cX1_place : ByteArray := prog_3_method_11_code
def yX1_place : MethodName := ⟨RX1, "place", "()I"⟩
abbrev cX1_go : ByteArray := prog_3_method_12_code
def yX1_go : MethodName := ⟨RX1, "go", "(I)Z"⟩
abbrev cX1_at : ByteArray := prog_3_method_13_code
def yX1_at : MethodName := ⟨RX1, "at", "(I)I"⟩
def RJ6 : String := "java/lang/Integer"
def TJ6 : u_T := fun k => match k with
  | _ => ("", "", "", false)
def tyJ6 : Nat → FieldType := fun k => match k with
  | _ => .int
abbrev wsJ60 : List Cond := u_ws RJ6 TJ6 0
theorem nmJ6 : ∀ a, a < 0 → ∀ b, b < 0 → a ≠ b → (TJ6 a).2.1 ≠ (TJ6 b).2.1 := by decide +kernel
theorem tyJ6_ok : ∀ k, k < 0 → parseFieldDescriptor (TJ6 k).2.2.1 = some (tyJ6 k) := by decide +kernel
abbrev cJ6_compare_7cf53 : ByteArray := prog_4_method_40_code
def yJ6_compare_7cf53 : MethodName := ⟨RJ6, "compare", "(II)I"⟩
def RL : String := "CharDeskLaw"
abbrev cL_law : ByteArray := code
def yL_law : MethodName := ⟨RL, "law", "([I)Z"⟩
def wsX0_init : List Cond := .code yX0_init cX0_init 1 none :: ([.methodLink RX0 1 objectInit, .instanceMethod objectInit, .code objectInit ⟨#[0xb1]⟩ 1 none, .arrayClass .int, .fieldLink RX0 9 "CharDesk" "text" "[I", .fieldLink RX0 13 "CharDesk" "characters" "[I", .fieldLink RX0 16 "CharDesk" "places" "[I", .fieldLink RX0 19 "CharDesk" "textLength" "I", .fieldLink RX0 23 "CharDesk" "count" "I", .fieldLink RX0 26 "CharDesk" "readLength" "I", .fieldLink RX0 29 "CharDesk" "faultPlace" "I"] ++ wsX00)
def wsX0_hasRoomFor : List Cond := .code yX0_hasRoomFor cX0_hasRoomFor 2 (some .boolean) :: ([.fieldLink RX0 19 "CharDesk" "textLength" "I"] ++ wsX00)
def wsX0_append : List Cond := .code yX0_append cX0_append 2 none :: ([.fieldLink RX0 19 "CharDesk" "textLength" "I", .fieldLink RX0 9 "CharDesk" "text" "[I"] ++ wsX00)
def wsX0_put : List Cond := .code yX0_put cX0_put 5 (some .boolean) :: ([.methodLink RX0 32 yX0_hasRoomFor, .instanceMethod yX0_hasRoomFor, .selects RX0 yX0_hasRoomFor yX0_hasRoomFor, .initialized RX0, .code yX0_hasRoomFor cX0_hasRoomFor 2 (some .boolean), .fieldLink RX0 19 "CharDesk" "textLength" "I", .methodLink RX0 36 yX0_append, .instanceMethod yX0_append, .selects RX0 yX0_append yX0_append, .code yX0_append cX0_append 2 none, .fieldLink RX0 9 "CharDesk" "text" "[I"] ++ wsX00)
def wsX0_widthOf : List Cond := .code yX0_widthOf cX0_widthOf 1 (some .int) :: ([.constant RX0 104 (1114111), .constant RX0 105 (55296), .constant RX0 106 (57343), .constant RX0 107 (65535)])
def wsX0_firstByteMark : List Cond := .code yX0_firstByteMark cX0_firstByteMark 1 (some .int) :: ([])
def wsX0_encodedByte : List Cond := .code yX0_encodedByte cX0_encodedByte 4 (some .int) :: ([.methodLink RX0 108 yX0_firstByteMark, .static yX0_firstByteMark, .initialized RX0, .code yX0_firstByteMark cX0_firstByteMark 1 (some .int)])
def wsX0_character : List Cond := .code yX0_character cX0_character 4 (some .boolean) :: ([.methodLink RX0 40 yX0_widthOf, .static yX0_widthOf, .initialized RX0, .code yX0_widthOf cX0_widthOf 1 (some .int), .constant RX0 104 (1114111), .constant RX0 105 (55296), .constant RX0 106 (57343), .constant RX0 107 (65535), .methodLink RX0 32 yX0_hasRoomFor, .instanceMethod yX0_hasRoomFor, .selects RX0 yX0_hasRoomFor yX0_hasRoomFor, .code yX0_hasRoomFor cX0_hasRoomFor 2 (some .boolean), .fieldLink RX0 19 "CharDesk" "textLength" "I", .methodLink RX0 44 yX0_encodedByte, .static yX0_encodedByte, .code yX0_encodedByte cX0_encodedByte 4 (some .int), .methodLink RX0 108 yX0_firstByteMark, .static yX0_firstByteMark, .code yX0_firstByteMark cX0_firstByteMark 1 (some .int), .methodLink RX0 36 yX0_append, .instanceMethod yX0_append, .selects RX0 yX0_append yX0_append, .code yX0_append cX0_append 2 none, .fieldLink RX0 9 "CharDesk" "text" "[I"] ++ wsX00)
def wsX0_forgetReading : List Cond := .code yX0_forgetReading cX0_forgetReading 1 none :: ([.fieldLink RX0 23 "CharDesk" "count" "I", .fieldLink RX0 26 "CharDesk" "readLength" "I", .fieldLink RX0 29 "CharDesk" "faultPlace" "I"] ++ wsX00)
def wsX0_followersOf : List Cond := .code yX0_followersOf cX0_followersOf 1 (some .int) :: ([])
def wsX0_decodedAt : List Cond := .code yX0_decodedAt cX0_decodedAt 7 (some .int) :: ([.fieldLink RX0 9 "CharDesk" "text" "[I", .fieldLink RX0 19 "CharDesk" "textLength" "I", .methodLink RX0 101 yX0_followersOf, .static yX0_followersOf, .initialized RX0, .code yX0_followersOf cX0_followersOf 1 (some .int), .methodLink RX0 40 yX0_widthOf, .static yX0_widthOf, .code yX0_widthOf cX0_widthOf 1 (some .int), .constant RX0 104 (1114111), .constant RX0 105 (55296), .constant RX0 106 (57343), .constant RX0 107 (65535)] ++ wsX00)
def wsX0_isIn : List Cond := .code yX0_isIn cX0_isIn 3 (some .boolean) :: ([])
def wsX0_faultOf : List Cond := .code yX0_faultOf cX0_faultOf 1 (some .int) :: ([.fieldLink RX0 58 "CharDesk" "ALLOWED" "[I", .methodLink RX0 61 yX0_isIn, .static yX0_isIn, .initialized RX0, .code yX0_isIn cX0_isIn 3 (some .boolean)])
def wsX0_isLeftOut : List Cond := .code yX0_isLeftOut cX0_isLeftOut 3 (some .boolean) :: ([.constant RX0 100 (65279), .fieldLink RX0 9 "CharDesk" "text" "[I"] ++ wsX00)
def wsX0_keep : List Cond := .code yX0_keep cX0_keep 3 none :: ([.fieldLink RX0 23 "CharDesk" "count" "I", .fieldLink RX0 13 "CharDesk" "characters" "[I", .fieldLink RX0 16 "CharDesk" "places" "[I"] ++ wsX00)
def wsX0_readText_r1 : List Cond := [Cond.fieldLink RX0 19 "CharDesk" "textLength" "I", Cond.fieldLink RX0 29 "CharDesk" "faultPlace" "I", Cond.methodLink RX0 87 yX0_decodedAt, Cond.instanceMethod yX0_decodedAt, Cond.selects RX0 yX0_decodedAt yX0_decodedAt, Cond.initialized RX0, Cond.code yX0_decodedAt cX0_decodedAt 7 (some .int), Cond.fieldLink RX0 9 "CharDesk" "text" "[I", Cond.methodLink RX0 101 yX0_followersOf, Cond.static yX0_followersOf, Cond.code yX0_followersOf cX0_followersOf 1 (some .int), Cond.methodLink RX0 40 yX0_widthOf, Cond.static yX0_widthOf, Cond.code yX0_widthOf cX0_widthOf 1 (some .int), Cond.constant RX0 104 (1114111), Cond.constant RX0 105 (55296), Cond.constant RX0 106 (57343), Cond.constant RX0 107 (65535), Cond.methodLink RX0 90 yX0_faultOf, Cond.static yX0_faultOf, Cond.code yX0_faultOf cX0_faultOf 1 (some .int), Cond.fieldLink RX0 58 "CharDesk" "ALLOWED" "[I", Cond.methodLink RX0 61 yX0_isIn, Cond.static yX0_isIn]
def wsX0_readText_r2 : List Cond := [Cond.code yX0_isIn cX0_isIn 3 (some .boolean), Cond.methodLink RX0 93 yX0_isLeftOut, Cond.instanceMethod yX0_isLeftOut, Cond.selects RX0 yX0_isLeftOut yX0_isLeftOut, Cond.code yX0_isLeftOut cX0_isLeftOut 3 (some .boolean), Cond.constant RX0 100 (65279), Cond.methodLink RX0 96 yX0_keep, Cond.instanceMethod yX0_keep, Cond.selects RX0 yX0_keep yX0_keep, Cond.code yX0_keep cX0_keep 3 none, Cond.fieldLink RX0 23 "CharDesk" "count" "I", Cond.fieldLink RX0 13 "CharDesk" "characters" "[I", Cond.fieldLink RX0 16 "CharDesk" "places" "[I"]
def wsX0_readText : List Cond := .code yX0_readText cX0_readText 5 (some .int) :: ((wsX0_readText_r1 ++ wsX0_readText_r2) ++ wsX00)
def wsX0_read_r1 : List Cond := [Cond.fieldLink RX0 19 "CharDesk" "textLength" "I", Cond.fieldLink RX0 26 "CharDesk" "readLength" "I", Cond.fieldLink RX0 23 "CharDesk" "count" "I", Cond.methodLink RX0 48 yX0_forgetReading, Cond.instanceMethod yX0_forgetReading, Cond.selects RX0 yX0_forgetReading yX0_forgetReading, Cond.initialized RX0, Cond.code yX0_forgetReading cX0_forgetReading 1 none, Cond.fieldLink RX0 29 "CharDesk" "faultPlace" "I", Cond.methodLink RX0 51 yX0_readText, Cond.instanceMethod yX0_readText, Cond.selects RX0 yX0_readText yX0_readText, Cond.code yX0_readText cX0_readText 5 (some .int), Cond.methodLink RX0 87 yX0_decodedAt, Cond.instanceMethod yX0_decodedAt, Cond.selects RX0 yX0_decodedAt yX0_decodedAt, Cond.code yX0_decodedAt cX0_decodedAt 7 (some .int), Cond.fieldLink RX0 9 "CharDesk" "text" "[I", Cond.methodLink RX0 101 yX0_followersOf, Cond.static yX0_followersOf, Cond.code yX0_followersOf cX0_followersOf 1 (some .int), Cond.methodLink RX0 40 yX0_widthOf, Cond.static yX0_widthOf, Cond.code yX0_widthOf cX0_widthOf 1 (some .int)]
def wsX0_read_r2 : List Cond := [Cond.constant RX0 104 (1114111), Cond.constant RX0 105 (55296), Cond.constant RX0 106 (57343), Cond.constant RX0 107 (65535), Cond.methodLink RX0 90 yX0_faultOf, Cond.static yX0_faultOf, Cond.code yX0_faultOf cX0_faultOf 1 (some .int), Cond.fieldLink RX0 58 "CharDesk" "ALLOWED" "[I", Cond.methodLink RX0 61 yX0_isIn, Cond.static yX0_isIn, Cond.code yX0_isIn cX0_isIn 3 (some .boolean), Cond.methodLink RX0 93 yX0_isLeftOut, Cond.instanceMethod yX0_isLeftOut, Cond.selects RX0 yX0_isLeftOut yX0_isLeftOut, Cond.code yX0_isLeftOut cX0_isLeftOut 3 (some .boolean), Cond.constant RX0 100 (65279), Cond.methodLink RX0 96 yX0_keep, Cond.instanceMethod yX0_keep, Cond.selects RX0 yX0_keep yX0_keep, Cond.code yX0_keep cX0_keep 3 none, Cond.fieldLink RX0 13 "CharDesk" "characters" "[I", Cond.fieldLink RX0 16 "CharDesk" "places" "[I"]
def wsX0_read : List Cond := .code yX0_read cX0_read 2 (some .int) :: ((wsX0_read_r1 ++ wsX0_read_r2) ++ wsX00)
def wsX0_place : List Cond := .code yX0_place cX0_place 1 (some .int) :: ([.fieldLink RX0 29 "CharDesk" "faultPlace" "I"] ++ wsX00)
def wsX0_hasCharacter : List Cond := .code yX0_hasCharacter cX0_hasCharacter 2 (some .boolean) :: ([.fieldLink RX0 23 "CharDesk" "count" "I"] ++ wsX00)
def wsX0_at : List Cond := .code yX0_at cX0_at 2 (some .int) :: ([.fieldLink RX0 13 "CharDesk" "characters" "[I", .methodLink RX0 55 yX0_hasCharacter, .instanceMethod yX0_hasCharacter, .selects RX0 yX0_hasCharacter yX0_hasCharacter, .initialized RX0, .code yX0_hasCharacter cX0_hasCharacter 2 (some .boolean), .fieldLink RX0 23 "CharDesk" "count" "I"] ++ wsX00)
def wsX0_placeOf : List Cond := .code yX0_placeOf cX0_placeOf 2 (some .int) :: ([.fieldLink RX0 16 "CharDesk" "places" "[I", .fieldLink RX0 23 "CharDesk" "count" "I", .fieldLink RX0 26 "CharDesk" "readLength" "I", .methodLink RX0 55 yX0_hasCharacter, .instanceMethod yX0_hasCharacter, .selects RX0 yX0_hasCharacter yX0_hasCharacter, .initialized RX0, .code yX0_hasCharacter cX0_hasCharacter 2 (some .boolean)] ++ wsX00)
def wsX0_isNamePart : List Cond := .code yX0_isNamePart cX0_isNamePart 1 (some .boolean) :: ([.fieldLink RX0 68 "CharDesk" "NAME_BEGINS" "[I", .fieldLink RX0 111 "CharDesk" "FURTHER_NAME_PARTS" "[I", .methodLink RX0 61 yX0_isIn, .static yX0_isIn, .initialized RX0, .code yX0_isIn cX0_isIn 3 (some .boolean)])
def wsX0_kind : List Cond := .code yX0_kind cX0_kind 3 (some .int) :: ([.fieldLink RX0 58 "CharDesk" "ALLOWED" "[I", .fieldLink RX0 65 "CharDesk" "BLANKS" "[I", .fieldLink RX0 68 "CharDesk" "NAME_BEGINS" "[I", .methodLink RX0 61 yX0_isIn, .static yX0_isIn, .initialized RX0, .code yX0_isIn cX0_isIn 3 (some .boolean), .methodLink RX0 71 yX0_isNamePart, .static yX0_isNamePart, .code yX0_isNamePart cX0_isNamePart 1 (some .boolean), .fieldLink RX0 111 "CharDesk" "FURTHER_NAME_PARTS" "[I"])
def wsX0_belongsToRun : List Cond := .code yX0_belongsToRun cX0_belongsToRun 2 (some .boolean) :: ([.fieldLink RX0 65 "CharDesk" "BLANKS" "[I", .methodLink RX0 71 yX0_isNamePart, .static yX0_isNamePart, .initialized RX0, .code yX0_isNamePart cX0_isNamePart 1 (some .boolean), .fieldLink RX0 68 "CharDesk" "NAME_BEGINS" "[I", .fieldLink RX0 111 "CharDesk" "FURTHER_NAME_PARTS" "[I", .methodLink RX0 61 yX0_isIn, .static yX0_isIn, .code yX0_isIn cX0_isIn 3 (some .boolean)])
def wsX0_run : List Cond := .code yX0_run cX0_run 4 (some .int) :: ([.fieldLink RX0 68 "CharDesk" "NAME_BEGINS" "[I", .fieldLink RX0 13 "CharDesk" "characters" "[I", .fieldLink RX0 23 "CharDesk" "count" "I", .methodLink RX0 55 yX0_hasCharacter, .instanceMethod yX0_hasCharacter, .selects RX0 yX0_hasCharacter yX0_hasCharacter, .initialized RX0, .code yX0_hasCharacter cX0_hasCharacter 2 (some .boolean), .methodLink RX0 61 yX0_isIn, .static yX0_isIn, .code yX0_isIn cX0_isIn 3 (some .boolean), .methodLink RX0 74 yX0_belongsToRun, .static yX0_belongsToRun, .code yX0_belongsToRun cX0_belongsToRun 2 (some .boolean), .fieldLink RX0 65 "CharDesk" "BLANKS" "[I", .methodLink RX0 71 yX0_isNamePart, .static yX0_isNamePart, .code yX0_isNamePart cX0_isNamePart 1 (some .boolean), .fieldLink RX0 111 "CharDesk" "FURTHER_NAME_PARTS" "[I"] ++ wsX00)
def wsX0_hasStretch : List Cond := .code yX0_hasStretch cX0_hasStretch 3 (some .boolean) :: ([.fieldLink RX0 26 "CharDesk" "readLength" "I", .fieldLink RX0 23 "CharDesk" "count" "I"] ++ wsX00)
def wsJ6_compare_7cf53 : List Cond := .code yJ6_compare_7cf53 cJ6_compare_7cf53 2 (some .int) :: ([])
def wsX0_compare : List Cond := .code yX0_compare cX0_compare 6 (some .int) :: ([.fieldLink RX0 13 "CharDesk" "characters" "[I", .methodLink RX0 78 yX0_hasStretch, .instanceMethod yX0_hasStretch, .selects RX0 yX0_hasStretch yX0_hasStretch, .initialized RX0, .code yX0_hasStretch cX0_hasStretch 3 (some .boolean), .fieldLink RX0 26 "CharDesk" "readLength" "I", .fieldLink RX0 23 "CharDesk" "count" "I", .methodLink RX0 81 yJ6_compare_7cf53, .static yJ6_compare_7cf53, .initialized RJ6, .code yJ6_compare_7cf53 cJ6_compare_7cf53 2 (some .int)] ++ wsX00)
def wsX0_bytes : List Cond := .code yX0_bytes cX0_bytes 6 (some .long) :: ([.methodLink RX0 40 yX0_widthOf, .static yX0_widthOf, .initialized RX0, .code yX0_widthOf cX0_widthOf 1 (some .int), .constant RX0 104 (1114111), .constant RX0 105 (55296), .constant RX0 106 (57343), .constant RX0 107 (65535), .methodLink RX0 44 yX0_encodedByte, .static yX0_encodedByte, .code yX0_encodedByte cX0_encodedByte 4 (some .int), .methodLink RX0 108 yX0_firstByteMark, .static yX0_firstByteMark, .code yX0_firstByteMark cX0_firstByteMark 1 (some .int)])
def wsX1_init : List Cond := .code yX1_init cX1_init 1 none :: ([.methodLink RX1 1 objectInit, .instanceMethod objectInit, .code objectInit ⟨#[0xb1]⟩ 1 none, .arrayClass .int, .fieldLink RX1 7 "CharDeskModel" "text" "[I", .fieldLink RX1 13 "CharDeskModel" "kept" "[I", .fieldLink RX1 16 "CharDeskModel" "place" "I"] ++ wsX10)
def wsX1_put : List Cond := .code yX1_put cX1_put 5 (some .boolean) :: ([.fieldLink RX1 20 "CharDeskModel" "size" "I", .fieldLink RX1 7 "CharDeskModel" "text" "[I", .constantLong RX1 23 (255)] ++ wsX10)
def wsX1_has : List Cond := .code yX1_has cX1_has 1 (some .boolean) :: ([.constant RX1 25 (55296), .constant RX1 26 (57343), .constant RX1 27 (1114112)])
def wsX1_sizeOf : List Cond := .code yX1_sizeOf cX1_sizeOf 2 (some .int) :: ([.constant RX1 28 (65535)])
def wsX1_byteOf : List Cond := .code yX1_byteOf cX1_byteOf 5 (some .int) :: ([.methodLink RX1 29 yX1_sizeOf, .static yX1_sizeOf, .initialized RX1, .code yX1_sizeOf cX1_sizeOf 2 (some .int), .constant RX1 28 (65535)])
def wsX1_character : List Cond := .code yX1_character cX1_character 4 (some .boolean) :: ([.fieldLink RX1 20 "CharDeskModel" "size" "I", .fieldLink RX1 7 "CharDeskModel" "text" "[I", .methodLink RX1 33 yX1_has, .static yX1_has, .initialized RX1, .code yX1_has cX1_has 1 (some .boolean), .constant RX1 25 (55296), .constant RX1 26 (57343), .constant RX1 27 (1114112), .methodLink RX1 29 yX1_sizeOf, .static yX1_sizeOf, .code yX1_sizeOf cX1_sizeOf 2 (some .int), .constant RX1 28 (65535), .methodLink RX1 37 yX1_byteOf, .static yX1_byteOf, .code yX1_byteOf cX1_byteOf 5 (some .int)] ++ wsX10)
def wsX1_sequence : List Cond := .code yX1_sequence cX1_sequence 6 (some .int) :: ([.fieldLink RX1 13 "CharDeskModel" "kept" "[I", .fieldLink RX1 41 "CharDeskModel" "stand" "I", .fieldLink RX1 44 "CharDeskModel" "length" "I", .methodLink RX1 33 yX1_has, .static yX1_has, .initialized RX1, .code yX1_has cX1_has 1 (some .boolean), .constant RX1 25 (55296), .constant RX1 26 (57343), .constant RX1 27 (1114112), .methodLink RX1 29 yX1_sizeOf, .static yX1_sizeOf, .code yX1_sizeOf cX1_sizeOf 2 (some .int), .constant RX1 28 (65535)] ++ wsX10)
def wsX1_isAllowed : List Cond := .code yX1_isAllowed cX1_isAllowed 1 (some .boolean) :: ([.constant RX1 25 (55296), .constant RX1 47 (57344), .constant RX1 48 (65534), .constant RX1 49 (65536), .constant RX1 27 (1114112)])
def wsX1_next : List Cond := .code yX1_next cX1_next 1 (some .boolean) :: ([.fieldLink RX1 41 "CharDeskModel" "stand" "I", .fieldLink RX1 44 "CharDeskModel" "length" "I", .fieldLink RX1 13 "CharDeskModel" "kept" "[I", .fieldLink RX1 50 "CharDeskModel" "began" "I", .fieldLink RX1 57 "CharDeskModel" "met" "I", .methodLink RX1 53 yX1_sequence, .instanceMethod yX1_sequence, .selects RX1 yX1_sequence yX1_sequence, .initialized RX1, .code yX1_sequence cX1_sequence 6 (some .int), .methodLink RX1 33 yX1_has, .static yX1_has, .code yX1_has cX1_has 1 (some .boolean), .constant RX1 25 (55296), .constant RX1 26 (57343), .constant RX1 27 (1114112), .methodLink RX1 29 yX1_sizeOf, .static yX1_sizeOf, .code yX1_sizeOf cX1_sizeOf 2 (some .int), .constant RX1 28 (65535)] ++ wsX10)
def wsX1_read_r1 : List Cond := [Cond.fieldLink RX1 20 "CharDeskModel" "size" "I", Cond.fieldLink RX1 44 "CharDeskModel" "length" "I", Cond.fieldLink RX1 60 "CharDeskModel" "read" "Z", Cond.fieldLink RX1 13 "CharDeskModel" "kept" "[I", Cond.fieldLink RX1 7 "CharDeskModel" "text" "[I", Cond.fieldLink RX1 41 "CharDeskModel" "stand" "I", Cond.fieldLink RX1 16 "CharDeskModel" "place" "I", Cond.methodLink RX1 53 yX1_sequence, Cond.instanceMethod yX1_sequence, Cond.selects RX1 yX1_sequence yX1_sequence, Cond.initialized RX1, Cond.code yX1_sequence cX1_sequence 6 (some .int), Cond.methodLink RX1 33 yX1_has, Cond.static yX1_has, Cond.code yX1_has cX1_has 1 (some .boolean), Cond.constant RX1 25 (55296), Cond.constant RX1 26 (57343), Cond.constant RX1 27 (1114112), Cond.methodLink RX1 29 yX1_sizeOf, Cond.static yX1_sizeOf, Cond.code yX1_sizeOf cX1_sizeOf 2 (some .int), Cond.constant RX1 28 (65535), Cond.methodLink RX1 64 yX1_isAllowed, Cond.static yX1_isAllowed]
def wsX1_read_r2 : List Cond := [Cond.code yX1_isAllowed cX1_isAllowed 1 (some .boolean), Cond.constant RX1 47 (57344), Cond.constant RX1 48 (65534), Cond.constant RX1 49 (65536), Cond.methodLink RX1 67 yX1_next, Cond.instanceMethod yX1_next, Cond.selects RX1 yX1_next yX1_next, Cond.code yX1_next cX1_next 1 (some .boolean), Cond.fieldLink RX1 50 "CharDeskModel" "began" "I", Cond.fieldLink RX1 57 "CharDeskModel" "met" "I"]
def wsX1_read : List Cond := .code yX1_read cX1_read 2 (some .int) :: ((wsX1_read_r1 ++ wsX1_read_r2) ++ wsX10)
def wsX1_place : List Cond := .code yX1_place cX1_place 1 (some .int) :: ([.fieldLink RX1 16 "CharDeskModel" "place" "I"] ++ wsX10)
def wsX1_go_r1 : List Cond := [Cond.fieldLink RX1 41 "CharDeskModel" "stand" "I", Cond.fieldLink RX1 60 "CharDeskModel" "read" "Z", Cond.methodLink RX1 67 yX1_next, Cond.instanceMethod yX1_next, Cond.selects RX1 yX1_next yX1_next, Cond.initialized RX1, Cond.code yX1_next cX1_next 1 (some .boolean), Cond.fieldLink RX1 44 "CharDeskModel" "length" "I", Cond.fieldLink RX1 13 "CharDeskModel" "kept" "[I", Cond.fieldLink RX1 50 "CharDeskModel" "began" "I", Cond.fieldLink RX1 57 "CharDeskModel" "met" "I", Cond.methodLink RX1 53 yX1_sequence, Cond.instanceMethod yX1_sequence, Cond.selects RX1 yX1_sequence yX1_sequence, Cond.code yX1_sequence cX1_sequence 6 (some .int), Cond.methodLink RX1 33 yX1_has, Cond.static yX1_has, Cond.code yX1_has cX1_has 1 (some .boolean), Cond.constant RX1 25 (55296), Cond.constant RX1 26 (57343), Cond.constant RX1 27 (1114112), Cond.methodLink RX1 29 yX1_sizeOf, Cond.static yX1_sizeOf, Cond.code yX1_sizeOf cX1_sizeOf 2 (some .int)]
def wsX1_go_r2 : List Cond := [Cond.constant RX1 28 (65535)]
def wsX1_go : List Cond := .code yX1_go cX1_go 4 (some .boolean) :: ((wsX1_go_r1 ++ wsX1_go_r2) ++ wsX10)
def wsX1_at_r1 : List Cond := [Cond.fieldLink RX1 57 "CharDeskModel" "met" "I", Cond.methodLink RX1 71 yX1_go, Cond.instanceMethod yX1_go, Cond.selects RX1 yX1_go yX1_go, Cond.initialized RX1, Cond.code yX1_go cX1_go 4 (some .boolean), Cond.fieldLink RX1 41 "CharDeskModel" "stand" "I", Cond.fieldLink RX1 60 "CharDeskModel" "read" "Z", Cond.methodLink RX1 67 yX1_next, Cond.instanceMethod yX1_next, Cond.selects RX1 yX1_next yX1_next, Cond.code yX1_next cX1_next 1 (some .boolean), Cond.fieldLink RX1 44 "CharDeskModel" "length" "I", Cond.fieldLink RX1 13 "CharDeskModel" "kept" "[I", Cond.fieldLink RX1 50 "CharDeskModel" "began" "I", Cond.methodLink RX1 53 yX1_sequence, Cond.instanceMethod yX1_sequence, Cond.selects RX1 yX1_sequence yX1_sequence, Cond.code yX1_sequence cX1_sequence 6 (some .int), Cond.methodLink RX1 33 yX1_has, Cond.static yX1_has, Cond.code yX1_has cX1_has 1 (some .boolean), Cond.constant RX1 25 (55296), Cond.constant RX1 26 (57343)]
def wsX1_at_r2 : List Cond := [Cond.constant RX1 27 (1114112), Cond.methodLink RX1 29 yX1_sizeOf, Cond.static yX1_sizeOf, Cond.code yX1_sizeOf cX1_sizeOf 2 (some .int), Cond.constant RX1 28 (65535)]
def wsX1_at : List Cond := .code yX1_at cX1_at 2 (some .int) :: ((wsX1_at_r1 ++ wsX1_at_r2) ++ wsX10)
def wsL_law_r1 : List Cond := [Cond.classLink RL 7 RX0, Cond.instantiable RX0 7, Cond.initialized RX0, Cond.classLink RL 10 RX1, Cond.instantiable RX1 9, Cond.initialized RX1, Cond.methodLink RL 9 yX0_init, Cond.instanceMethod yX0_init, Cond.code yX0_init cX0_init 1 none, Cond.methodLink RX0 1 objectInit, Cond.instanceMethod objectInit, Cond.code objectInit ⟨#[0xb1]⟩ 1 none, Cond.arrayClass .int, Cond.fieldLink RX0 9 "CharDesk" "text" "[I", Cond.fieldLink RX0 13 "CharDesk" "characters" "[I", Cond.fieldLink RX0 16 "CharDesk" "places" "[I", Cond.fieldLink RX0 19 "CharDesk" "textLength" "I", Cond.fieldLink RX0 23 "CharDesk" "count" "I", Cond.fieldLink RX0 26 "CharDesk" "readLength" "I", Cond.fieldLink RX0 29 "CharDesk" "faultPlace" "I", Cond.methodLink RL 12 yX1_init, Cond.instanceMethod yX1_init, Cond.code yX1_init cX1_init 1 none, Cond.methodLink RX1 1 objectInit]
def wsL_law_r2 : List Cond := [Cond.fieldLink RX1 7 "CharDeskModel" "text" "[I", Cond.fieldLink RX1 13 "CharDeskModel" "kept" "[I", Cond.fieldLink RX1 16 "CharDeskModel" "place" "I", Cond.methodLink RL 15 yX0_put, Cond.instanceMethod yX0_put, Cond.selects RX0 yX0_put yX0_put, Cond.code yX0_put cX0_put 5 (some .boolean), Cond.methodLink RX0 32 yX0_hasRoomFor, Cond.instanceMethod yX0_hasRoomFor, Cond.selects RX0 yX0_hasRoomFor yX0_hasRoomFor, Cond.code yX0_hasRoomFor cX0_hasRoomFor 2 (some .boolean), Cond.methodLink RX0 36 yX0_append, Cond.instanceMethod yX0_append, Cond.selects RX0 yX0_append yX0_append, Cond.code yX0_append cX0_append 2 none, Cond.methodLink RL 19 yX1_put, Cond.instanceMethod yX1_put, Cond.selects RX1 yX1_put yX1_put, Cond.code yX1_put cX1_put 5 (some .boolean), Cond.fieldLink RX1 20 "CharDeskModel" "size" "I", Cond.constantLong RX1 23 (255), Cond.methodLink RL 20 yX0_character, Cond.instanceMethod yX0_character, Cond.selects RX0 yX0_character yX0_character]
def wsL_law_r3 : List Cond := [Cond.code yX0_character cX0_character 4 (some .boolean), Cond.methodLink RX0 40 yX0_widthOf, Cond.static yX0_widthOf, Cond.code yX0_widthOf cX0_widthOf 1 (some .int), Cond.constant RX0 104 (1114111), Cond.constant RX0 105 (55296), Cond.constant RX0 106 (57343), Cond.constant RX0 107 (65535), Cond.methodLink RX0 44 yX0_encodedByte, Cond.static yX0_encodedByte, Cond.code yX0_encodedByte cX0_encodedByte 4 (some .int), Cond.methodLink RX0 108 yX0_firstByteMark, Cond.static yX0_firstByteMark, Cond.code yX0_firstByteMark cX0_firstByteMark 1 (some .int), Cond.methodLink RL 24 yX1_character, Cond.instanceMethod yX1_character, Cond.selects RX1 yX1_character yX1_character, Cond.code yX1_character cX1_character 4 (some .boolean), Cond.methodLink RX1 33 yX1_has, Cond.static yX1_has, Cond.code yX1_has cX1_has 1 (some .boolean), Cond.constant RX1 25 (55296), Cond.constant RX1 26 (57343), Cond.constant RX1 27 (1114112)]
def wsL_law_r4 : List Cond := [Cond.methodLink RX1 29 yX1_sizeOf, Cond.static yX1_sizeOf, Cond.code yX1_sizeOf cX1_sizeOf 2 (some .int), Cond.constant RX1 28 (65535), Cond.methodLink RX1 37 yX1_byteOf, Cond.static yX1_byteOf, Cond.code yX1_byteOf cX1_byteOf 5 (some .int), Cond.methodLink RL 25 yX0_read, Cond.instanceMethod yX0_read, Cond.selects RX0 yX0_read yX0_read, Cond.code yX0_read cX0_read 2 (some .int), Cond.methodLink RX0 48 yX0_forgetReading, Cond.instanceMethod yX0_forgetReading, Cond.selects RX0 yX0_forgetReading yX0_forgetReading, Cond.code yX0_forgetReading cX0_forgetReading 1 none, Cond.methodLink RX0 51 yX0_readText, Cond.instanceMethod yX0_readText, Cond.selects RX0 yX0_readText yX0_readText, Cond.code yX0_readText cX0_readText 5 (some .int), Cond.methodLink RX0 87 yX0_decodedAt, Cond.instanceMethod yX0_decodedAt, Cond.selects RX0 yX0_decodedAt yX0_decodedAt, Cond.code yX0_decodedAt cX0_decodedAt 7 (some .int), Cond.methodLink RX0 101 yX0_followersOf]
def wsL_law_r5 : List Cond := [Cond.static yX0_followersOf, Cond.code yX0_followersOf cX0_followersOf 1 (some .int), Cond.methodLink RX0 90 yX0_faultOf, Cond.static yX0_faultOf, Cond.code yX0_faultOf cX0_faultOf 1 (some .int), Cond.fieldLink RX0 58 "CharDesk" "ALLOWED" "[I", Cond.methodLink RX0 61 yX0_isIn, Cond.static yX0_isIn, Cond.code yX0_isIn cX0_isIn 3 (some .boolean), Cond.methodLink RX0 93 yX0_isLeftOut, Cond.instanceMethod yX0_isLeftOut, Cond.selects RX0 yX0_isLeftOut yX0_isLeftOut, Cond.code yX0_isLeftOut cX0_isLeftOut 3 (some .boolean), Cond.constant RX0 100 (65279), Cond.methodLink RX0 96 yX0_keep, Cond.instanceMethod yX0_keep, Cond.selects RX0 yX0_keep yX0_keep, Cond.code yX0_keep cX0_keep 3 none, Cond.methodLink RL 29 yX1_read, Cond.instanceMethod yX1_read, Cond.selects RX1 yX1_read yX1_read, Cond.code yX1_read cX1_read 2 (some .int), Cond.fieldLink RX1 44 "CharDeskModel" "length" "I", Cond.fieldLink RX1 60 "CharDeskModel" "read" "Z"]
def wsL_law_r6 : List Cond := [Cond.fieldLink RX1 41 "CharDeskModel" "stand" "I", Cond.methodLink RX1 53 yX1_sequence, Cond.instanceMethod yX1_sequence, Cond.selects RX1 yX1_sequence yX1_sequence, Cond.code yX1_sequence cX1_sequence 6 (some .int), Cond.methodLink RX1 64 yX1_isAllowed, Cond.static yX1_isAllowed, Cond.code yX1_isAllowed cX1_isAllowed 1 (some .boolean), Cond.constant RX1 47 (57344), Cond.constant RX1 48 (65534), Cond.constant RX1 49 (65536), Cond.methodLink RX1 67 yX1_next, Cond.instanceMethod yX1_next, Cond.selects RX1 yX1_next yX1_next, Cond.code yX1_next cX1_next 1 (some .boolean), Cond.fieldLink RX1 50 "CharDeskModel" "began" "I", Cond.fieldLink RX1 57 "CharDeskModel" "met" "I", Cond.methodLink RL 30 yX0_place, Cond.instanceMethod yX0_place, Cond.selects RX0 yX0_place yX0_place, Cond.code yX0_place cX0_place 1 (some .int), Cond.methodLink RL 33 yX1_place, Cond.instanceMethod yX1_place, Cond.selects RX1 yX1_place yX1_place]
def wsL_law_r7 : List Cond := [Cond.code yX1_place cX1_place 1 (some .int), Cond.methodLink RL 34 yX0_at, Cond.instanceMethod yX0_at, Cond.selects RX0 yX0_at yX0_at, Cond.code yX0_at cX0_at 2 (some .int), Cond.methodLink RX0 55 yX0_hasCharacter, Cond.instanceMethod yX0_hasCharacter, Cond.selects RX0 yX0_hasCharacter yX0_hasCharacter, Cond.code yX0_hasCharacter cX0_hasCharacter 2 (some .boolean), Cond.methodLink RL 38 yX1_at, Cond.instanceMethod yX1_at, Cond.selects RX1 yX1_at yX1_at, Cond.code yX1_at cX1_at 2 (some .int), Cond.methodLink RX1 71 yX1_go, Cond.instanceMethod yX1_go, Cond.selects RX1 yX1_go yX1_go, Cond.code yX1_go cX1_go 4 (some .boolean), Cond.methodLink RL 39 yX0_placeOf, Cond.instanceMethod yX0_placeOf, Cond.selects RX0 yX0_placeOf yX0_placeOf, Cond.code yX0_placeOf cX0_placeOf 2 (some .int), Cond.methodLink RL 43 yX0_kind, Cond.instanceMethod yX0_kind, Cond.selects RX0 yX0_kind yX0_kind]
def wsL_law_r8 : List Cond := [Cond.code yX0_kind cX0_kind 3 (some .int), Cond.fieldLink RX0 65 "CharDesk" "BLANKS" "[I", Cond.fieldLink RX0 68 "CharDesk" "NAME_BEGINS" "[I", Cond.methodLink RX0 71 yX0_isNamePart, Cond.static yX0_isNamePart, Cond.code yX0_isNamePart cX0_isNamePart 1 (some .boolean), Cond.fieldLink RX0 111 "CharDesk" "FURTHER_NAME_PARTS" "[I", Cond.methodLink RL 47 yX0_run, Cond.instanceMethod yX0_run, Cond.selects RX0 yX0_run yX0_run, Cond.code yX0_run cX0_run 4 (some .int), Cond.methodLink RX0 74 yX0_belongsToRun, Cond.static yX0_belongsToRun, Cond.code yX0_belongsToRun cX0_belongsToRun 2 (some .boolean), Cond.methodLink RL 52 yX0_compare, Cond.instanceMethod yX0_compare, Cond.selects RX0 yX0_compare yX0_compare, Cond.code yX0_compare cX0_compare 6 (some .int), Cond.methodLink RX0 78 yX0_hasStretch, Cond.instanceMethod yX0_hasStretch, Cond.selects RX0 yX0_hasStretch yX0_hasStretch, Cond.code yX0_hasStretch cX0_hasStretch 3 (some .boolean), Cond.methodLink RX0 81 yJ6_compare_7cf53, Cond.static yJ6_compare_7cf53]
def wsL_law_r9 : List Cond := [Cond.initialized RJ6, Cond.code yJ6_compare_7cf53 cJ6_compare_7cf53 2 (some .int), Cond.methodLink RL 57 yX0_bytes, Cond.instanceMethod yX0_bytes, Cond.selects RX0 yX0_bytes yX0_bytes, Cond.code yX0_bytes cX0_bytes 6 (some .long)]
def wsL_law : List Cond := (wsL_law_r1 ++ (wsL_law_r2 ++ (wsL_law_r3 ++ (wsL_law_r4 ++ (wsL_law_r5 ++ (wsL_law_r6 ++ (wsL_law_r7 ++ (wsL_law_r8 ++ wsL_law_r9)))))))) ++ wsX00 ++ wsX10 ++ ([] : List Cond)
set_option maxRecDepth 20000 in
theorem wsL_law_in : ∀ w ∈ wsL_law, w ∈ lw_tbl := fun w h => (goodIn_p wsL_law [20, 23, 167, 50, 54, 58, 200, 62, 65, 72, 75, 205, 208, 214, 218, 79, 83, 87, 91, 94, 97, 102, 106, 111, 222, 226, 229, 236, 115, 240, 119, 123, 244, 248, 127, 131, 138, 144, 147, 151, 155, 158, 162] (by decide +kernel) (by decide +kernel) w h).1
theorem inlX0 : ∀ w ∈ wsX00, w ∈ wsL_law := fun _ h => List.mem_append_left _ (List.mem_append_left _ (List.mem_append_right _ h))
theorem inX0 : ∀ w ∈ wsX00, w ∈ lw_tbl := fun w h => wsL_law_in w (inlX0 w h)
theorem inlX1 : ∀ w ∈ wsX10, w ∈ wsL_law := fun _ h => List.mem_append_left _ (List.mem_append_right _ h)
theorem inX1 : ∀ w ∈ wsX10, w ∈ lw_tbl := fun w h => wsL_law_in w (inlX1 w h)
theorem inJ6 : ∀ w ∈ wsJ60, w ∈ lw_tbl := by decide +kernel
abbrev vwCl : List vw_C := [(RX0, TX0, 7), (RX1, TX1, 9)]
