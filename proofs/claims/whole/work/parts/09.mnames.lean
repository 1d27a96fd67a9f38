abbrev cX1_within : ByteArray := prog_3_method_16_code
def yX1_within : MethodName := ⟨RX1, "within", "(III)Z"⟩
abbrev cX1_isBlank : ByteArray := prog_3_method_15_code
def yX1_isBlank : MethodName := ⟨RX1, "isBlank", "(I)Z"⟩
abbrev cX1_isBegin : ByteArray := prog_3_method_17_code
def yX1_isBegin : MethodName := ⟨RX1, "isBegin", "(I)Z"⟩
abbrev cX1_isPart : ByteArray := prog_3_method_18_code
def yX1_isPart : MethodName := ⟨RX1, "isPart", "(I)Z"⟩
abbrev cX1_kind : ByteArray := prog_3_method_19_code
def yX1_kind : MethodName := ⟨RX1, "kind", "(I)I"⟩
abbrev cX1_placeOf : ByteArray := prog_3_method_14_code
def yX1_placeOf : MethodName := ⟨RX1, "placeOf", "(I)I"⟩
abbrev cX1_run : ByteArray := prog_3_method_20_code
def yX1_run : MethodName := ⟨RX1, "run", "(II)I"⟩
abbrev cX1_compare : ByteArray := prog_3_method_21_code
def yX1_compare : MethodName := ⟨RX1, "compare", "(III)I"⟩
abbrev cX1_bytes : ByteArray := prog_3_method_22_code
def yX1_bytes : MethodName := ⟨RX1, "bytes", "(I)J"⟩
def wsX1_within : List Cond := .code yX1_within cX1_within 3 (some .boolean) :: (([] : List Cond))
def wsX1_isBlank : List Cond := .code yX1_isBlank cX1_isBlank 1 (some .boolean) :: (([] : List Cond))
def wsX1_isBegin : List Cond := .code yX1_isBegin cX1_isBegin 3 (some .boolean) :: (([.methodLink RX1 74 yX1_within, .static yX1_within, .initialized RX1, .constant RX1 78 (55295), .constant RX1 79 (63744), .constant RX1 80 (64975), .constant RX1 81 (65008), .constant RX1 82 (65533), .constant RX1 49 (65536), .constant RX1 83 (983039)] : List Cond) ++ wsX1_within)
def wsX1_isPart : List Cond := .code yX1_isPart cX1_isPart 1 (some .boolean) :: (([.methodLink RX1 84 yX1_isBegin, .static yX1_isBegin, .initialized RX1, .methodLink RX1 74 yX1_within, .static yX1_within] : List Cond) ++ wsX1_isBegin ++ wsX1_within)
def wsX1_kind : List Cond := .code yX1_kind cX1_kind 3 (some .int) :: (([.methodLink RX1 64 yX1_isAllowed, .static yX1_isAllowed, .initialized RX1, .methodLink RX1 87 yX1_isBlank, .static yX1_isBlank, .methodLink RX1 84 yX1_isBegin, .static yX1_isBegin, .methodLink RX1 90 yX1_isPart, .static yX1_isPart] : List Cond) ++ wsX1_isAllowed ++ wsX1_isBlank ++ wsX1_isBegin ++ wsX1_isPart)
def wsX1_placeOf : List Cond := .code yX1_placeOf cX1_placeOf 2 (some .int) :: (([.methodLink RX1 71 yX1_go, .instanceMethod yX1_go, .selects RX1 yX1_go yX1_go, .initialized RX1, .fieldLink RX1 50 "CharDeskModel" "began" "I", .fieldLink RX1 60 "CharDeskModel" "read" "Z", .fieldLink RX1 44 "CharDeskModel" "length" "I"] : List Cond) ++ wsX1_go ++ wsX10)
def wsX1_run : List Cond := .code yX1_run cX1_run 6 (some .int) :: (([.methodLink RX1 71 yX1_go, .instanceMethod yX1_go, .selects RX1 yX1_go yX1_go, .initialized RX1, .fieldLink RX1 57 "CharDeskModel" "met" "I", .methodLink RX1 84 yX1_isBegin, .static yX1_isBegin, .methodLink RX1 90 yX1_isPart, .static yX1_isPart, .methodLink RX1 87 yX1_isBlank, .static yX1_isBlank, .methodLink RX1 67 yX1_next, .instanceMethod yX1_next, .selects RX1 yX1_next yX1_next] : List Cond) ++ wsX1_go ++ wsX1_isBegin ++ wsX1_isPart ++ wsX1_isBlank ++ wsX1_next ++ wsX10)
def wsX1_compare : List Cond := .code yX1_compare cX1_compare 7 (some .int) :: (([.fieldLink RX1 60 "CharDeskModel" "read" "Z", .fieldLink RX1 41 "CharDeskModel" "stand" "I", .methodLink RX1 67 yX1_next, .instanceMethod yX1_next, .selects RX1 yX1_next yX1_next, .initialized RX1, .methodLink RX1 71 yX1_go, .instanceMethod yX1_go, .selects RX1 yX1_go yX1_go, .fieldLink RX1 57 "CharDeskModel" "met" "I"] : List Cond) ++ wsX1_next ++ wsX1_go ++ wsX10)
def wsX1_bytes : List Cond := .code yX1_bytes cX1_bytes 5 (some .long) :: (([.methodLink RX1 33 yX1_has, .static yX1_has, .initialized RX1, .methodLink RX1 29 yX1_sizeOf, .static yX1_sizeOf, .constantLong RX1 93 (256), .methodLink RX1 37 yX1_byteOf, .static yX1_byteOf] : List Cond) ++ wsX1_has ++ wsX1_sizeOf ++ wsX1_byteOf)
set_option maxRecDepth 20000 in
theorem gX1_isBegin_X1_within : GoodIn wsX1_isBegin (va_wsS RX1 74 yX1_within wsX1_within) := goodIn_sub (by decide +kernel) (by decide +kernel)
set_option maxRecDepth 20000 in
theorem gX1_isPart_X1_isBegin : GoodIn wsX1_isPart (va_wsS RX1 84 yX1_isBegin wsX1_isBegin) := goodIn_sub (by decide +kernel) (by decide +kernel)
set_option maxRecDepth 20000 in
theorem gX1_isPart_X1_within : GoodIn wsX1_isPart (va_wsS RX1 74 yX1_within wsX1_within) := goodIn_sub (by decide +kernel) (by decide +kernel)
set_option maxRecDepth 20000 in
theorem gX1_kind_X1_isAllowed : GoodIn wsX1_kind (va_wsS RX1 64 yX1_isAllowed wsX1_isAllowed) := goodIn_sub (by decide +kernel) (by decide +kernel)
set_option maxRecDepth 20000 in
theorem gX1_kind_X1_isBlank : GoodIn wsX1_kind (va_wsS RX1 87 yX1_isBlank wsX1_isBlank) := goodIn_sub (by decide +kernel) (by decide +kernel)
set_option maxRecDepth 20000 in
theorem gX1_kind_X1_isBegin : GoodIn wsX1_kind (va_wsS RX1 84 yX1_isBegin wsX1_isBegin) := goodIn_sub (by decide +kernel) (by decide +kernel)
set_option maxRecDepth 20000 in
theorem gX1_kind_X1_isPart : GoodIn wsX1_kind (va_wsS RX1 90 yX1_isPart wsX1_isPart) := goodIn_sub (by decide +kernel) (by decide +kernel)
set_option maxRecDepth 20000 in
theorem gX1_placeOf_X1_go : GoodIn wsX1_placeOf (wsV RX1 71 RX1 yX1_go wsX1_go) := goodIn_sub (by decide +kernel) (by decide +kernel)
set_option maxRecDepth 20000 in
theorem gX1_run_X1_go : GoodIn wsX1_run (wsV RX1 71 RX1 yX1_go wsX1_go) := goodIn_sub (by decide +kernel) (by decide +kernel)
set_option maxRecDepth 20000 in
theorem gX1_run_X1_isBegin : GoodIn wsX1_run (va_wsS RX1 84 yX1_isBegin wsX1_isBegin) := goodIn_sub (by decide +kernel) (by decide +kernel)
set_option maxRecDepth 20000 in
theorem gX1_run_X1_isPart : GoodIn wsX1_run (va_wsS RX1 90 yX1_isPart wsX1_isPart) := goodIn_sub (by decide +kernel) (by decide +kernel)
set_option maxRecDepth 20000 in
theorem gX1_run_X1_isBlank : GoodIn wsX1_run (va_wsS RX1 87 yX1_isBlank wsX1_isBlank) := goodIn_sub (by decide +kernel) (by decide +kernel)
set_option maxRecDepth 20000 in
theorem gX1_run_X1_next : GoodIn wsX1_run (wsV RX1 67 RX1 yX1_next wsX1_next) := goodIn_sub (by decide +kernel) (by decide +kernel)
set_option maxRecDepth 20000 in
theorem gX1_compare_X1_next : GoodIn wsX1_compare (wsV RX1 67 RX1 yX1_next wsX1_next) := goodIn_sub (by decide +kernel) (by decide +kernel)
set_option maxRecDepth 20000 in
theorem gX1_compare_X1_go : GoodIn wsX1_compare (wsV RX1 71 RX1 yX1_go wsX1_go) := goodIn_sub (by decide +kernel) (by decide +kernel)
set_option maxRecDepth 20000 in
theorem gX1_bytes_X1_has : GoodIn wsX1_bytes (va_wsS RX1 33 yX1_has wsX1_has) := goodIn_sub (by decide +kernel) (by decide +kernel)
set_option maxRecDepth 20000 in
theorem gX1_bytes_X1_sizeOf : GoodIn wsX1_bytes (va_wsS RX1 29 yX1_sizeOf wsX1_sizeOf) := goodIn_sub (by decide +kernel) (by decide +kernel)
set_option maxRecDepth 20000 in
theorem gX1_bytes_X1_byteOf : GoodIn wsX1_bytes (va_wsS RX1 37 yX1_byteOf wsX1_byteOf) := goodIn_sub (by decide +kernel) (by decide +kernel)
theorem dX1_within_0 : decode cX1_within 0 = .ok (.iload_n 0, 1) := by decide +kernel
theorem dX1_within_1 : decode cX1_within 1 = .ok (.iload_n 1, 1) := by decide +kernel
theorem dX1_within_2 : decode cX1_within 2 = .ok (.if_icmp .lt 12, 3) := by decide +kernel
theorem dX1_within_5 : decode cX1_within 5 = .ok (.iload_n 0, 1) := by decide +kernel
theorem dX1_within_6 : decode cX1_within 6 = .ok (.iload_n 2, 1) := by decide +kernel
theorem dX1_within_7 : decode cX1_within 7 = .ok (.if_icmp .gt 7, 3) := by decide +kernel
theorem dX1_within_10 : decode cX1_within 10 = .ok (.iconst 1, 1) := by decide +kernel
theorem dX1_within_11 : decode cX1_within 11 = .ok (.goto 4, 3) := by decide +kernel
theorem dX1_within_14 : decode cX1_within 14 = .ok (.iconst 0, 1) := by decide +kernel
theorem dX1_within_15 : decode cX1_within 15 = .ok (.ireturn, 1) := by decide +kernel
theorem dX1_isBlank_0 : decode cX1_isBlank 0 = .ok (.iload_n 0, 1) := by decide +kernel
theorem dX1_isBlank_1 : decode cX1_isBlank 1 = .ok (.bipush 32, 2) := by decide +kernel
theorem dX1_isBlank_3 : decode cX1_isBlank 3 = .ok (.if_icmp .eq 21, 3) := by decide +kernel
theorem dX1_isBlank_6 : decode cX1_isBlank 6 = .ok (.iload_n 0, 1) := by decide +kernel
theorem dX1_isBlank_7 : decode cX1_isBlank 7 = .ok (.bipush 9, 2) := by decide +kernel
theorem dX1_isBlank_9 : decode cX1_isBlank 9 = .ok (.if_icmp .eq 15, 3) := by decide +kernel
theorem dX1_isBlank_12 : decode cX1_isBlank 12 = .ok (.iload_n 0, 1) := by decide +kernel
theorem dX1_isBlank_13 : decode cX1_isBlank 13 = .ok (.bipush 13, 2) := by decide +kernel
theorem dX1_isBlank_15 : decode cX1_isBlank 15 = .ok (.if_icmp .eq 9, 3) := by decide +kernel
theorem dX1_isBlank_18 : decode cX1_isBlank 18 = .ok (.iload_n 0, 1) := by decide +kernel
theorem dX1_isBlank_19 : decode cX1_isBlank 19 = .ok (.bipush 10, 2) := by decide +kernel
theorem dX1_isBlank_21 : decode cX1_isBlank 21 = .ok (.if_icmp .ne 7, 3) := by decide +kernel
theorem dX1_isBlank_24 : decode cX1_isBlank 24 = .ok (.iconst 1, 1) := by decide +kernel
theorem dX1_isBlank_25 : decode cX1_isBlank 25 = .ok (.goto 4, 3) := by decide +kernel
theorem dX1_isBlank_28 : decode cX1_isBlank 28 = .ok (.iconst 0, 1) := by decide +kernel
theorem dX1_isBlank_29 : decode cX1_isBlank 29 = .ok (.ireturn, 1) := by decide +kernel
theorem dX1_isBegin_0 : decode cX1_isBegin 0 = .ok (.iload_n 0, 1) := by decide +kernel
theorem dX1_isBegin_1 : decode cX1_isBegin 1 = .ok (.bipush 58, 2) := by decide +kernel
theorem dX1_isBegin_3 : decode cX1_isBegin 3 = .ok (.if_icmp .eq 70, 3) := by decide +kernel
theorem dX1_isBegin_6 : decode cX1_isBegin 6 = .ok (.iload_n 0, 1) := by decide +kernel
theorem dX1_isBegin_7 : decode cX1_isBegin 7 = .ok (.bipush 95, 2) := by decide +kernel
theorem dX1_isBegin_9 : decode cX1_isBegin 9 = .ok (.if_icmp .eq 64, 3) := by decide +kernel
theorem dX1_isBegin_12 : decode cX1_isBegin 12 = .ok (.iload_n 0, 1) := by decide +kernel
theorem dX1_isBegin_13 : decode cX1_isBegin 13 = .ok (.bipush 65, 2) := by decide +kernel
theorem dX1_isBegin_15 : decode cX1_isBegin 15 = .ok (.bipush 90, 2) := by decide +kernel
theorem dX1_isBegin_17 : decode cX1_isBegin 17 = .ok (.invokestatic 74, 3) := by decide +kernel
theorem dX1_isBegin_20 : decode cX1_isBegin 20 = .ok (.ifCond .ne 53, 3) := by decide +kernel
theorem dX1_isBegin_23 : decode cX1_isBegin 23 = .ok (.iload_n 0, 1) := by decide +kernel
theorem dX1_isBegin_24 : decode cX1_isBegin 24 = .ok (.bipush 97, 2) := by decide +kernel
theorem dX1_isBegin_26 : decode cX1_isBegin 26 = .ok (.bipush 122, 2) := by decide +kernel
theorem dX1_isBegin_28 : decode cX1_isBegin 28 = .ok (.invokestatic 74, 3) := by decide +kernel
theorem dX1_isBegin_31 : decode cX1_isBegin 31 = .ok (.ifCond .ne 42, 3) := by decide +kernel
theorem dX1_isBegin_34 : decode cX1_isBegin 34 = .ok (.iload_n 0, 1) := by decide +kernel
theorem dX1_isBegin_35 : decode cX1_isBegin 35 = .ok (.sipush 192, 3) := by decide +kernel
theorem dX1_isBegin_38 : decode cX1_isBegin 38 = .ok (.sipush 214, 3) := by decide +kernel
theorem dX1_isBegin_41 : decode cX1_isBegin 41 = .ok (.invokestatic 74, 3) := by decide +kernel
theorem dX1_isBegin_44 : decode cX1_isBegin 44 = .ok (.ifCond .ne 29, 3) := by decide +kernel
theorem dX1_isBegin_47 : decode cX1_isBegin 47 = .ok (.iload_n 0, 1) := by decide +kernel
theorem dX1_isBegin_48 : decode cX1_isBegin 48 = .ok (.sipush 216, 3) := by decide +kernel
theorem dX1_isBegin_51 : decode cX1_isBegin 51 = .ok (.sipush 246, 3) := by decide +kernel
theorem dX1_isBegin_54 : decode cX1_isBegin 54 = .ok (.invokestatic 74, 3) := by decide +kernel
theorem dX1_isBegin_57 : decode cX1_isBegin 57 = .ok (.ifCond .ne 16, 3) := by decide +kernel
theorem dX1_isBegin_60 : decode cX1_isBegin 60 = .ok (.iload_n 0, 1) := by decide +kernel
theorem dX1_isBegin_61 : decode cX1_isBegin 61 = .ok (.sipush 248, 3) := by decide +kernel
theorem dX1_isBegin_64 : decode cX1_isBegin 64 = .ok (.sipush 767, 3) := by decide +kernel
theorem dX1_isBegin_67 : decode cX1_isBegin 67 = .ok (.invokestatic 74, 3) := by decide +kernel
theorem dX1_isBegin_70 : decode cX1_isBegin 70 = .ok (.ifCond .eq 7, 3) := by decide +kernel
theorem dX1_isBegin_73 : decode cX1_isBegin 73 = .ok (.iconst 1, 1) := by decide +kernel
theorem dX1_isBegin_74 : decode cX1_isBegin 74 = .ok (.goto 4, 3) := by decide +kernel
theorem dX1_isBegin_77 : decode cX1_isBegin 77 = .ok (.iconst 0, 1) := by decide +kernel
theorem dX1_isBegin_78 : decode cX1_isBegin 78 = .ok (.istore_n 1, 1) := by decide +kernel
theorem dX1_isBegin_79 : decode cX1_isBegin 79 = .ok (.iload_n 0, 1) := by decide +kernel
theorem dX1_isBegin_80 : decode cX1_isBegin 80 = .ok (.sipush 880, 3) := by decide +kernel
theorem dX1_isBegin_83 : decode cX1_isBegin 83 = .ok (.sipush 893, 3) := by decide +kernel
theorem dX1_isBegin_86 : decode cX1_isBegin 86 = .ok (.invokestatic 74, 3) := by decide +kernel
theorem dX1_isBegin_89 : decode cX1_isBegin 89 = .ok (.ifCond .ne 55, 3) := by decide +kernel
theorem dX1_isBegin_92 : decode cX1_isBegin 92 = .ok (.iload_n 0, 1) := by decide +kernel
theorem dX1_isBegin_93 : decode cX1_isBegin 93 = .ok (.sipush 895, 3) := by decide +kernel
theorem dX1_isBegin_96 : decode cX1_isBegin 96 = .ok (.sipush 8191, 3) := by decide +kernel
theorem dX1_isBegin_99 : decode cX1_isBegin 99 = .ok (.invokestatic 74, 3) := by decide +kernel
theorem dX1_isBegin_102 : decode cX1_isBegin 102 = .ok (.ifCond .ne 42, 3) := by decide +kernel
theorem dX1_isBegin_105 : decode cX1_isBegin 105 = .ok (.iload_n 0, 1) := by decide +kernel
theorem dX1_isBegin_106 : decode cX1_isBegin 106 = .ok (.sipush 8204, 3) := by decide +kernel
theorem dX1_isBegin_109 : decode cX1_isBegin 109 = .ok (.sipush 8205, 3) := by decide +kernel
theorem dX1_isBegin_112 : decode cX1_isBegin 112 = .ok (.invokestatic 74, 3) := by decide +kernel
theorem dX1_isBegin_115 : decode cX1_isBegin 115 = .ok (.ifCond .ne 29, 3) := by decide +kernel
theorem dX1_isBegin_118 : decode cX1_isBegin 118 = .ok (.iload_n 0, 1) := by decide +kernel
theorem dX1_isBegin_119 : decode cX1_isBegin 119 = .ok (.sipush 8304, 3) := by decide +kernel
theorem dX1_isBegin_122 : decode cX1_isBegin 122 = .ok (.sipush 8591, 3) := by decide +kernel
theorem dX1_isBegin_125 : decode cX1_isBegin 125 = .ok (.invokestatic 74, 3) := by decide +kernel
theorem dX1_isBegin_128 : decode cX1_isBegin 128 = .ok (.ifCond .ne 16, 3) := by decide +kernel
theorem dX1_isBegin_131 : decode cX1_isBegin 131 = .ok (.iload_n 0, 1) := by decide +kernel
theorem dX1_isBegin_132 : decode cX1_isBegin 132 = .ok (.sipush 11264, 3) := by decide +kernel
theorem dX1_isBegin_135 : decode cX1_isBegin 135 = .ok (.sipush 12271, 3) := by decide +kernel
theorem dX1_isBegin_138 : decode cX1_isBegin 138 = .ok (.invokestatic 74, 3) := by decide +kernel
theorem dX1_isBegin_141 : decode cX1_isBegin 141 = .ok (.ifCond .eq 7, 3) := by decide +kernel
theorem dX1_isBegin_144 : decode cX1_isBegin 144 = .ok (.iconst 1, 1) := by decide +kernel
theorem dX1_isBegin_145 : decode cX1_isBegin 145 = .ok (.goto 4, 3) := by decide +kernel
theorem dX1_isBegin_148 : decode cX1_isBegin 148 = .ok (.iconst 0, 1) := by decide +kernel
theorem dX1_isBegin_149 : decode cX1_isBegin 149 = .ok (.istore_n 2, 1) := by decide +kernel
theorem dX1_isBegin_150 : decode cX1_isBegin 150 = .ok (.iload_n 1, 1) := by decide +kernel
theorem dX1_isBegin_151 : decode cX1_isBegin 151 = .ok (.ifCond .ne 52, 3) := by decide +kernel
theorem dX1_isBegin_154 : decode cX1_isBegin 154 = .ok (.iload_n 2, 1) := by decide +kernel
theorem dX1_isBegin_155 : decode cX1_isBegin 155 = .ok (.ifCond .ne 48, 3) := by decide +kernel
theorem dX1_isBegin_158 : decode cX1_isBegin 158 = .ok (.iload_n 0, 1) := by decide +kernel
theorem dX1_isBegin_159 : decode cX1_isBegin 159 = .ok (.sipush 12289, 3) := by decide +kernel
theorem dX1_isBegin_162 : decode cX1_isBegin 162 = .ok (.ldc 78, 2) := by decide +kernel
theorem dX1_isBegin_164 : decode cX1_isBegin 164 = .ok (.invokestatic 74, 3) := by decide +kernel
theorem dX1_isBegin_167 : decode cX1_isBegin 167 = .ok (.ifCond .ne 36, 3) := by decide +kernel
theorem dX1_isBegin_170 : decode cX1_isBegin 170 = .ok (.iload_n 0, 1) := by decide +kernel
theorem dX1_isBegin_171 : decode cX1_isBegin 171 = .ok (.ldc 79, 2) := by decide +kernel
theorem dX1_isBegin_173 : decode cX1_isBegin 173 = .ok (.ldc 80, 2) := by decide +kernel
theorem dX1_isBegin_175 : decode cX1_isBegin 175 = .ok (.invokestatic 74, 3) := by decide +kernel
theorem dX1_isBegin_178 : decode cX1_isBegin 178 = .ok (.ifCond .ne 25, 3) := by decide +kernel
theorem dX1_isBegin_181 : decode cX1_isBegin 181 = .ok (.iload_n 0, 1) := by decide +kernel
theorem dX1_isBegin_182 : decode cX1_isBegin 182 = .ok (.ldc 81, 2) := by decide +kernel
theorem dX1_isBegin_184 : decode cX1_isBegin 184 = .ok (.ldc 82, 2) := by decide +kernel
theorem dX1_isBegin_186 : decode cX1_isBegin 186 = .ok (.invokestatic 74, 3) := by decide +kernel
theorem dX1_isBegin_189 : decode cX1_isBegin 189 = .ok (.ifCond .ne 14, 3) := by decide +kernel
theorem dX1_isBegin_192 : decode cX1_isBegin 192 = .ok (.iload_n 0, 1) := by decide +kernel
theorem dX1_isBegin_193 : decode cX1_isBegin 193 = .ok (.ldc 49, 2) := by decide +kernel
theorem dX1_isBegin_195 : decode cX1_isBegin 195 = .ok (.ldc 83, 2) := by decide +kernel
theorem dX1_isBegin_197 : decode cX1_isBegin 197 = .ok (.invokestatic 74, 3) := by decide +kernel
theorem dX1_isBegin_200 : decode cX1_isBegin 200 = .ok (.ifCond .eq 7, 3) := by decide +kernel
theorem dX1_isBegin_203 : decode cX1_isBegin 203 = .ok (.iconst 1, 1) := by decide +kernel
theorem dX1_isBegin_204 : decode cX1_isBegin 204 = .ok (.goto 4, 3) := by decide +kernel
theorem dX1_isBegin_207 : decode cX1_isBegin 207 = .ok (.iconst 0, 1) := by decide +kernel
theorem dX1_isBegin_208 : decode cX1_isBegin 208 = .ok (.ireturn, 1) := by decide +kernel
theorem dX1_isPart_0 : decode cX1_isPart 0 = .ok (.iload_n 0, 1) := by decide +kernel
theorem dX1_isPart_1 : decode cX1_isPart 1 = .ok (.invokestatic 84, 3) := by decide +kernel
theorem dX1_isPart_4 : decode cX1_isPart 4 = .ok (.ifCond .ne 59, 3) := by decide +kernel
theorem dX1_isPart_7 : decode cX1_isPart 7 = .ok (.iload_n 0, 1) := by decide +kernel
theorem dX1_isPart_8 : decode cX1_isPart 8 = .ok (.bipush 45, 2) := by decide +kernel
theorem dX1_isPart_10 : decode cX1_isPart 10 = .ok (.if_icmp .eq 53, 3) := by decide +kernel
theorem dX1_isPart_13 : decode cX1_isPart 13 = .ok (.iload_n 0, 1) := by decide +kernel
theorem dX1_isPart_14 : decode cX1_isPart 14 = .ok (.bipush 46, 2) := by decide +kernel
theorem dX1_isPart_16 : decode cX1_isPart 16 = .ok (.if_icmp .eq 47, 3) := by decide +kernel
theorem dX1_isPart_19 : decode cX1_isPart 19 = .ok (.iload_n 0, 1) := by decide +kernel
theorem dX1_isPart_20 : decode cX1_isPart 20 = .ok (.bipush 48, 2) := by decide +kernel
theorem dX1_isPart_22 : decode cX1_isPart 22 = .ok (.bipush 57, 2) := by decide +kernel
theorem dX1_isPart_24 : decode cX1_isPart 24 = .ok (.invokestatic 74, 3) := by decide +kernel
theorem dX1_isPart_27 : decode cX1_isPart 27 = .ok (.ifCond .ne 36, 3) := by decide +kernel
theorem dX1_isPart_30 : decode cX1_isPart 30 = .ok (.iload_n 0, 1) := by decide +kernel
theorem dX1_isPart_31 : decode cX1_isPart 31 = .ok (.sipush 183, 3) := by decide +kernel
theorem dX1_isPart_34 : decode cX1_isPart 34 = .ok (.if_icmp .eq 29, 3) := by decide +kernel
theorem dX1_isPart_37 : decode cX1_isPart 37 = .ok (.iload_n 0, 1) := by decide +kernel
theorem dX1_isPart_38 : decode cX1_isPart 38 = .ok (.sipush 768, 3) := by decide +kernel
theorem dX1_isPart_41 : decode cX1_isPart 41 = .ok (.sipush 879, 3) := by decide +kernel
theorem dX1_isPart_44 : decode cX1_isPart 44 = .ok (.invokestatic 74, 3) := by decide +kernel
theorem dX1_isPart_47 : decode cX1_isPart 47 = .ok (.ifCond .ne 16, 3) := by decide +kernel
theorem dX1_isPart_50 : decode cX1_isPart 50 = .ok (.iload_n 0, 1) := by decide +kernel
theorem dX1_isPart_51 : decode cX1_isPart 51 = .ok (.sipush 8255, 3) := by decide +kernel
theorem dX1_isPart_54 : decode cX1_isPart 54 = .ok (.sipush 8256, 3) := by decide +kernel
theorem dX1_isPart_57 : decode cX1_isPart 57 = .ok (.invokestatic 74, 3) := by decide +kernel
theorem dX1_isPart_60 : decode cX1_isPart 60 = .ok (.ifCond .eq 7, 3) := by decide +kernel
theorem dX1_isPart_63 : decode cX1_isPart 63 = .ok (.iconst 1, 1) := by decide +kernel
theorem dX1_isPart_64 : decode cX1_isPart 64 = .ok (.goto 4, 3) := by decide +kernel
theorem dX1_isPart_67 : decode cX1_isPart 67 = .ok (.iconst 0, 1) := by decide +kernel
theorem dX1_isPart_68 : decode cX1_isPart 68 = .ok (.ireturn, 1) := by decide +kernel
theorem dX1_kind_0 : decode cX1_kind 0 = .ok (.iload_n 1, 1) := by decide +kernel
theorem dX1_kind_1 : decode cX1_kind 1 = .ok (.invokestatic 64, 3) := by decide +kernel
theorem dX1_kind_4 : decode cX1_kind 4 = .ok (.ifCond .eq 7, 3) := by decide +kernel
theorem dX1_kind_7 : decode cX1_kind 7 = .ok (.iconst 1, 1) := by decide +kernel
theorem dX1_kind_8 : decode cX1_kind 8 = .ok (.goto 4, 3) := by decide +kernel
theorem dX1_kind_11 : decode cX1_kind 11 = .ok (.iconst 0, 1) := by decide +kernel
theorem dX1_kind_12 : decode cX1_kind 12 = .ok (.istore_n 2, 1) := by decide +kernel
theorem dX1_kind_13 : decode cX1_kind 13 = .ok (.iload_n 1, 1) := by decide +kernel
theorem dX1_kind_14 : decode cX1_kind 14 = .ok (.invokestatic 87, 3) := by decide +kernel
theorem dX1_kind_17 : decode cX1_kind 17 = .ok (.ifCond .eq 9, 3) := by decide +kernel
theorem dX1_kind_20 : decode cX1_kind 20 = .ok (.iload_n 2, 1) := by decide +kernel
theorem dX1_kind_21 : decode cX1_kind 21 = .ok (.iconst 2, 1) := by decide +kernel
theorem dX1_kind_22 : decode cX1_kind 22 = .ok (.iadd, 1) := by decide +kernel
theorem dX1_kind_23 : decode cX1_kind 23 = .ok (.goto 4, 3) := by decide +kernel
theorem dX1_kind_26 : decode cX1_kind 26 = .ok (.iload_n 2, 1) := by decide +kernel
theorem dX1_kind_27 : decode cX1_kind 27 = .ok (.istore_n 2, 1) := by decide +kernel
theorem dX1_kind_28 : decode cX1_kind 28 = .ok (.iload_n 1, 1) := by decide +kernel
theorem dX1_kind_29 : decode cX1_kind 29 = .ok (.invokestatic 84, 3) := by decide +kernel
theorem dX1_kind_32 : decode cX1_kind 32 = .ok (.ifCond .eq 9, 3) := by decide +kernel
theorem dX1_kind_35 : decode cX1_kind 35 = .ok (.iload_n 2, 1) := by decide +kernel
theorem dX1_kind_36 : decode cX1_kind 36 = .ok (.iconst 4, 1) := by decide +kernel
theorem dX1_kind_37 : decode cX1_kind 37 = .ok (.iadd, 1) := by decide +kernel
theorem dX1_kind_38 : decode cX1_kind 38 = .ok (.goto 4, 3) := by decide +kernel
theorem dX1_kind_41 : decode cX1_kind 41 = .ok (.iload_n 2, 1) := by decide +kernel
theorem dX1_kind_42 : decode cX1_kind 42 = .ok (.istore_n 2, 1) := by decide +kernel
theorem dX1_kind_43 : decode cX1_kind 43 = .ok (.iload_n 1, 1) := by decide +kernel
theorem dX1_kind_44 : decode cX1_kind 44 = .ok (.invokestatic 90, 3) := by decide +kernel
theorem dX1_kind_47 : decode cX1_kind 47 = .ok (.ifCond .eq 10, 3) := by decide +kernel
theorem dX1_kind_50 : decode cX1_kind 50 = .ok (.iload_n 2, 1) := by decide +kernel
theorem dX1_kind_51 : decode cX1_kind 51 = .ok (.bipush 8, 2) := by decide +kernel
theorem dX1_kind_53 : decode cX1_kind 53 = .ok (.iadd, 1) := by decide +kernel
theorem dX1_kind_54 : decode cX1_kind 54 = .ok (.goto 4, 3) := by decide +kernel
theorem dX1_kind_57 : decode cX1_kind 57 = .ok (.iload_n 2, 1) := by decide +kernel
theorem dX1_kind_58 : decode cX1_kind 58 = .ok (.ireturn, 1) := by decide +kernel
theorem dX1_placeOf_0 : decode cX1_placeOf 0 = .ok (.aload_n 0, 1) := by decide +kernel
theorem dX1_placeOf_1 : decode cX1_placeOf 1 = .ok (.iload_n 1, 1) := by decide +kernel
theorem dX1_placeOf_2 : decode cX1_placeOf 2 = .ok (.invokevirtual 71, 3) := by decide +kernel
theorem dX1_placeOf_5 : decode cX1_placeOf 5 = .ok (.ifCond .eq 8, 3) := by decide +kernel
theorem dX1_placeOf_8 : decode cX1_placeOf 8 = .ok (.aload_n 0, 1) := by decide +kernel
theorem dX1_placeOf_9 : decode cX1_placeOf 9 = .ok (.getfield 50, 3) := by decide +kernel
theorem dX1_placeOf_12 : decode cX1_placeOf 12 = .ok (.ireturn, 1) := by decide +kernel
theorem dX1_placeOf_13 : decode cX1_placeOf 13 = .ok (.aload_n 0, 1) := by decide +kernel
theorem dX1_placeOf_14 : decode cX1_placeOf 14 = .ok (.getfield 60, 3) := by decide +kernel
theorem dX1_placeOf_17 : decode cX1_placeOf 17 = .ok (.ifCond .eq 36, 3) := by decide +kernel
theorem dX1_placeOf_20 : decode cX1_placeOf 20 = .ok (.iload_n 1, 1) := by decide +kernel
theorem dX1_placeOf_21 : decode cX1_placeOf 21 = .ok (.ifCond .eq 13, 3) := by decide +kernel
theorem dX1_placeOf_24 : decode cX1_placeOf 24 = .ok (.aload_n 0, 1) := by decide +kernel
theorem dX1_placeOf_25 : decode cX1_placeOf 25 = .ok (.iload_n 1, 1) := by decide +kernel
theorem dX1_placeOf_26 : decode cX1_placeOf 26 = .ok (.iconst 1, 1) := by decide +kernel
theorem dX1_placeOf_27 : decode cX1_placeOf 27 = .ok (.isub, 1) := by decide +kernel
theorem dX1_placeOf_28 : decode cX1_placeOf 28 = .ok (.invokevirtual 71, 3) := by decide +kernel
theorem dX1_placeOf_31 : decode cX1_placeOf 31 = .ok (.ifCond .eq 22, 3) := by decide +kernel
theorem dX1_placeOf_34 : decode cX1_placeOf 34 = .ok (.iload_n 1, 1) := by decide +kernel
theorem dX1_placeOf_35 : decode cX1_placeOf 35 = .ok (.ifCond .lt 18, 3) := by decide +kernel
theorem dX1_placeOf_38 : decode cX1_placeOf 38 = .ok (.aload_n 0, 1) := by decide +kernel
theorem dX1_placeOf_39 : decode cX1_placeOf 39 = .ok (.iload_n 1, 1) := by decide +kernel
theorem dX1_placeOf_40 : decode cX1_placeOf 40 = .ok (.invokevirtual 71, 3) := by decide +kernel
theorem dX1_placeOf_43 : decode cX1_placeOf 43 = .ok (.ifCond .ne 10, 3) := by decide +kernel
theorem dX1_placeOf_46 : decode cX1_placeOf 46 = .ok (.aload_n 0, 1) := by decide +kernel
theorem dX1_placeOf_47 : decode cX1_placeOf 47 = .ok (.getfield 44, 3) := by decide +kernel
theorem dX1_placeOf_50 : decode cX1_placeOf 50 = .ok (.goto 4, 3) := by decide +kernel
theorem dX1_placeOf_53 : decode cX1_placeOf 53 = .ok (.iconst (-1), 1) := by decide +kernel
theorem dX1_placeOf_54 : decode cX1_placeOf 54 = .ok (.ireturn, 1) := by decide +kernel
theorem dX1_run_0 : decode cX1_run 0 = .ok (.iload_n 1, 1) := by decide +kernel
theorem dX1_run_1 : decode cX1_run 1 = .ok (.ifCond .lt 16, 3) := by decide +kernel
theorem dX1_run_4 : decode cX1_run 4 = .ok (.iload_n 1, 1) := by decide +kernel
theorem dX1_run_5 : decode cX1_run 5 = .ok (.iconst 2, 1) := by decide +kernel
theorem dX1_run_6 : decode cX1_run 6 = .ok (.if_icmp .gt 11, 3) := by decide +kernel
theorem dX1_run_9 : decode cX1_run 9 = .ok (.aload_n 0, 1) := by decide +kernel
theorem dX1_run_10 : decode cX1_run 10 = .ok (.iload_n 2, 1) := by decide +kernel
theorem dX1_run_11 : decode cX1_run 11 = .ok (.invokevirtual 71, 3) := by decide +kernel
theorem dX1_run_14 : decode cX1_run 14 = .ok (.ifCond .ne 5, 3) := by decide +kernel
theorem dX1_run_17 : decode cX1_run 17 = .ok (.iconst 0, 1) := by decide +kernel
theorem dX1_run_18 : decode cX1_run 18 = .ok (.ireturn, 1) := by decide +kernel
theorem dX1_run_19 : decode cX1_run 19 = .ok (.iconst 0, 1) := by decide +kernel
theorem dX1_run_20 : decode cX1_run 20 = .ok (.istore_n 3, 1) := by decide +kernel
theorem dX1_run_21 : decode cX1_run 21 = .ok (.iconst 1, 1) := by decide +kernel
theorem dX1_run_22 : decode cX1_run 22 = .ok (.istore 4, 2) := by decide +kernel
theorem dX1_run_24 : decode cX1_run 24 = .ok (.iload 4, 2) := by decide +kernel
theorem dX1_run_26 : decode cX1_run 26 = .ok (.ifCond .eq 90, 3) := by decide +kernel
theorem dX1_run_29 : decode cX1_run 29 = .ok (.iload_n 1, 1) := by decide +kernel
theorem dX1_run_30 : decode cX1_run 30 = .ok (.ifCond .ne 27, 3) := by decide +kernel
theorem dX1_run_33 : decode cX1_run 33 = .ok (.iload_n 3, 1) := by decide +kernel
theorem dX1_run_34 : decode cX1_run 34 = .ok (.ifCond .ne 13, 3) := by decide +kernel
theorem dX1_run_37 : decode cX1_run 37 = .ok (.aload_n 0, 1) := by decide +kernel
theorem dX1_run_38 : decode cX1_run 38 = .ok (.getfield 57, 3) := by decide +kernel
theorem dX1_run_41 : decode cX1_run 41 = .ok (.invokestatic 84, 3) := by decide +kernel
theorem dX1_run_44 : decode cX1_run 44 = .ok (.goto 35, 3) := by decide +kernel
theorem dX1_run_47 : decode cX1_run 47 = .ok (.aload_n 0, 1) := by decide +kernel
theorem dX1_run_48 : decode cX1_run 48 = .ok (.getfield 57, 3) := by decide +kernel
theorem dX1_run_51 : decode cX1_run 51 = .ok (.invokestatic 90, 3) := by decide +kernel
theorem dX1_run_54 : decode cX1_run 54 = .ok (.goto 25, 3) := by decide +kernel
theorem dX1_run_57 : decode cX1_run 57 = .ok (.iload_n 1, 1) := by decide +kernel
theorem dX1_run_58 : decode cX1_run 58 = .ok (.iconst 1, 1) := by decide +kernel
theorem dX1_run_59 : decode cX1_run 59 = .ok (.if_icmp .ne 13, 3) := by decide +kernel
theorem dX1_run_62 : decode cX1_run 62 = .ok (.aload_n 0, 1) := by decide +kernel
theorem dX1_run_63 : decode cX1_run 63 = .ok (.getfield 57, 3) := by decide +kernel
theorem dX1_run_66 : decode cX1_run 66 = .ok (.invokestatic 90, 3) := by decide +kernel
theorem dX1_run_69 : decode cX1_run 69 = .ok (.goto 10, 3) := by decide +kernel
theorem dX1_run_72 : decode cX1_run 72 = .ok (.aload_n 0, 1) := by decide +kernel
theorem dX1_run_73 : decode cX1_run 73 = .ok (.getfield 57, 3) := by decide +kernel
theorem dX1_run_76 : decode cX1_run 76 = .ok (.invokestatic 87, 3) := by decide +kernel
theorem dX1_run_79 : decode cX1_run 79 = .ok (.istore 5, 2) := by decide +kernel
theorem dX1_run_81 : decode cX1_run 81 = .ok (.iload 5, 2) := by decide +kernel
theorem dX1_run_83 : decode cX1_run 83 = .ok (.ifCond .eq 9, 3) := by decide +kernel
theorem dX1_run_86 : decode cX1_run 86 = .ok (.iload_n 3, 1) := by decide +kernel
theorem dX1_run_87 : decode cX1_run 87 = .ok (.iconst 1, 1) := by decide +kernel
theorem dX1_run_88 : decode cX1_run 88 = .ok (.iadd, 1) := by decide +kernel
theorem dX1_run_89 : decode cX1_run 89 = .ok (.goto 4, 3) := by decide +kernel
theorem dX1_run_92 : decode cX1_run 92 = .ok (.iload_n 3, 1) := by decide +kernel
theorem dX1_run_93 : decode cX1_run 93 = .ok (.istore_n 3, 1) := by decide +kernel
theorem dX1_run_94 : decode cX1_run 94 = .ok (.iload 5, 2) := by decide +kernel
theorem dX1_run_96 : decode cX1_run 96 = .ok (.ifCond .eq 14, 3) := by decide +kernel
theorem dX1_run_99 : decode cX1_run 99 = .ok (.aload_n 0, 1) := by decide +kernel
theorem dX1_run_100 : decode cX1_run 100 = .ok (.invokevirtual 67, 3) := by decide +kernel
theorem dX1_run_103 : decode cX1_run 103 = .ok (.ifCond .eq 7, 3) := by decide +kernel
theorem dX1_run_106 : decode cX1_run 106 = .ok (.iconst 1, 1) := by decide +kernel
theorem dX1_run_107 : decode cX1_run 107 = .ok (.goto 4, 3) := by decide +kernel
theorem dX1_run_110 : decode cX1_run 110 = .ok (.iconst 0, 1) := by decide +kernel
theorem dX1_run_111 : decode cX1_run 111 = .ok (.istore 4, 2) := by decide +kernel
theorem dX1_run_113 : decode cX1_run 113 = .ok (.goto (-89), 3) := by decide +kernel
theorem dX1_run_116 : decode cX1_run 116 = .ok (.iload_n 3, 1) := by decide +kernel
theorem dX1_run_117 : decode cX1_run 117 = .ok (.ireturn, 1) := by decide +kernel
theorem dX1_compare_0 : decode cX1_compare 0 = .ok (.aload_n 0, 1) := by decide +kernel
theorem dX1_compare_1 : decode cX1_compare 1 = .ok (.getfield 60, 3) := by decide +kernel
theorem dX1_compare_4 : decode cX1_compare 4 = .ok (.ifCond .eq 15, 3) := by decide +kernel
theorem dX1_compare_7 : decode cX1_compare 7 = .ok (.iload_n 3, 1) := by decide +kernel
theorem dX1_compare_8 : decode cX1_compare 8 = .ok (.ifCond .lt 11, 3) := by decide +kernel
theorem dX1_compare_11 : decode cX1_compare 11 = .ok (.iload_n 1, 1) := by decide +kernel
theorem dX1_compare_12 : decode cX1_compare 12 = .ok (.ifCond .lt 7, 3) := by decide +kernel
theorem dX1_compare_15 : decode cX1_compare 15 = .ok (.iload_n 2, 1) := by decide +kernel
theorem dX1_compare_16 : decode cX1_compare 16 = .ok (.ifCond .ge 6, 3) := by decide +kernel
theorem dX1_compare_19 : decode cX1_compare 19 = .ok (.bipush (-2), 2) := by decide +kernel
theorem dX1_compare_21 : decode cX1_compare 21 = .ok (.ireturn, 1) := by decide +kernel
theorem dX1_compare_22 : decode cX1_compare 22 = .ok (.iconst 0, 1) := by decide +kernel
theorem dX1_compare_23 : decode cX1_compare 23 = .ok (.istore 4, 2) := by decide +kernel
theorem dX1_compare_25 : decode cX1_compare 25 = .ok (.aload_n 0, 1) := by decide +kernel
theorem dX1_compare_26 : decode cX1_compare 26 = .ok (.iconst 0, 1) := by decide +kernel
theorem dX1_compare_27 : decode cX1_compare 27 = .ok (.putfield 41, 3) := by decide +kernel
theorem dX1_compare_30 : decode cX1_compare 30 = .ok (.aload_n 0, 1) := by decide +kernel
theorem dX1_compare_31 : decode cX1_compare 31 = .ok (.invokevirtual 67, 3) := by decide +kernel
theorem dX1_compare_34 : decode cX1_compare 34 = .ok (.ifCond .eq 9, 3) := by decide +kernel
theorem dX1_compare_37 : decode cX1_compare 37 = .ok (.iinc 4 1, 3) := by decide +kernel
theorem dX1_compare_40 : decode cX1_compare 40 = .ok (.goto (-10), 3) := by decide +kernel
theorem dX1_compare_43 : decode cX1_compare 43 = .ok (.iload_n 3, 1) := by decide +kernel
theorem dX1_compare_44 : decode cX1_compare 44 = .ok (.iload 4, 2) := by decide +kernel
theorem dX1_compare_46 : decode cX1_compare 46 = .ok (.iload_n 1, 1) := by decide +kernel
theorem dX1_compare_47 : decode cX1_compare 47 = .ok (.isub, 1) := by decide +kernel
theorem dX1_compare_48 : decode cX1_compare 48 = .ok (.if_icmp .gt 11, 3) := by decide +kernel
theorem dX1_compare_51 : decode cX1_compare 51 = .ok (.iload_n 3, 1) := by decide +kernel
theorem dX1_compare_52 : decode cX1_compare 52 = .ok (.iload 4, 2) := by decide +kernel
theorem dX1_compare_54 : decode cX1_compare 54 = .ok (.iload_n 2, 1) := by decide +kernel
theorem dX1_compare_55 : decode cX1_compare 55 = .ok (.isub, 1) := by decide +kernel
theorem dX1_compare_56 : decode cX1_compare 56 = .ok (.if_icmp .le 6, 3) := by decide +kernel
theorem dX1_compare_59 : decode cX1_compare 59 = .ok (.bipush (-2), 2) := by decide +kernel
theorem dX1_compare_61 : decode cX1_compare 61 = .ok (.ireturn, 1) := by decide +kernel
theorem dX1_compare_62 : decode cX1_compare 62 = .ok (.iconst 0, 1) := by decide +kernel
theorem dX1_compare_63 : decode cX1_compare 63 = .ok (.istore 5, 2) := by decide +kernel
theorem dX1_compare_65 : decode cX1_compare 65 = .ok (.iload 5, 2) := by decide +kernel
theorem dX1_compare_67 : decode cX1_compare 67 = .ok (.iload_n 3, 1) := by decide +kernel
theorem dX1_compare_68 : decode cX1_compare 68 = .ok (.if_icmp .ge 57, 3) := by decide +kernel
theorem dX1_compare_71 : decode cX1_compare 71 = .ok (.aload_n 0, 1) := by decide +kernel
theorem dX1_compare_72 : decode cX1_compare 72 = .ok (.iload_n 1, 1) := by decide +kernel
theorem dX1_compare_73 : decode cX1_compare 73 = .ok (.iload 5, 2) := by decide +kernel
theorem dX1_compare_75 : decode cX1_compare 75 = .ok (.iadd, 1) := by decide +kernel
theorem dX1_compare_76 : decode cX1_compare 76 = .ok (.invokevirtual 71, 3) := by decide +kernel
theorem dX1_compare_79 : decode cX1_compare 79 = .ok (.pop, 1) := by decide +kernel
theorem dX1_compare_80 : decode cX1_compare 80 = .ok (.aload_n 0, 1) := by decide +kernel
theorem dX1_compare_81 : decode cX1_compare 81 = .ok (.getfield 57, 3) := by decide +kernel
theorem dX1_compare_84 : decode cX1_compare 84 = .ok (.istore 6, 2) := by decide +kernel
theorem dX1_compare_86 : decode cX1_compare 86 = .ok (.aload_n 0, 1) := by decide +kernel
theorem dX1_compare_87 : decode cX1_compare 87 = .ok (.iload_n 2, 1) := by decide +kernel
theorem dX1_compare_88 : decode cX1_compare 88 = .ok (.iload 5, 2) := by decide +kernel
theorem dX1_compare_90 : decode cX1_compare 90 = .ok (.iadd, 1) := by decide +kernel
theorem dX1_compare_91 : decode cX1_compare 91 = .ok (.invokevirtual 71, 3) := by decide +kernel
theorem dX1_compare_94 : decode cX1_compare 94 = .ok (.pop, 1) := by decide +kernel
theorem dX1_compare_95 : decode cX1_compare 95 = .ok (.iload 6, 2) := by decide +kernel
theorem dX1_compare_97 : decode cX1_compare 97 = .ok (.aload_n 0, 1) := by decide +kernel
theorem dX1_compare_98 : decode cX1_compare 98 = .ok (.getfield 57, 3) := by decide +kernel
theorem dX1_compare_101 : decode cX1_compare 101 = .ok (.if_icmp .eq 18, 3) := by decide +kernel
theorem dX1_compare_104 : decode cX1_compare 104 = .ok (.iload 6, 2) := by decide +kernel
theorem dX1_compare_106 : decode cX1_compare 106 = .ok (.aload_n 0, 1) := by decide +kernel
theorem dX1_compare_107 : decode cX1_compare 107 = .ok (.getfield 57, 3) := by decide +kernel
theorem dX1_compare_110 : decode cX1_compare 110 = .ok (.if_icmp .ge 7, 3) := by decide +kernel
theorem dX1_compare_113 : decode cX1_compare 113 = .ok (.iconst (-1), 1) := by decide +kernel
theorem dX1_compare_114 : decode cX1_compare 114 = .ok (.goto 4, 3) := by decide +kernel
theorem dX1_compare_117 : decode cX1_compare 117 = .ok (.iconst 1, 1) := by decide +kernel
theorem dX1_compare_118 : decode cX1_compare 118 = .ok (.ireturn, 1) := by decide +kernel
theorem dX1_compare_119 : decode cX1_compare 119 = .ok (.iinc 5 1, 3) := by decide +kernel
theorem dX1_compare_122 : decode cX1_compare 122 = .ok (.goto (-57), 3) := by decide +kernel
theorem dX1_compare_125 : decode cX1_compare 125 = .ok (.iconst 0, 1) := by decide +kernel
theorem dX1_compare_126 : decode cX1_compare 126 = .ok (.ireturn, 1) := by decide +kernel
theorem dX1_bytes_0 : decode cX1_bytes 0 = .ok (.iload_n 1, 1) := by decide +kernel
theorem dX1_bytes_1 : decode cX1_bytes 1 = .ok (.invokestatic 33, 3) := by decide +kernel
theorem dX1_bytes_4 : decode cX1_bytes 4 = .ok (.ifCond .ne 5, 3) := by decide +kernel
theorem dX1_bytes_7 : decode cX1_bytes 7 = .ok (.lconst 0, 1) := by decide +kernel
theorem dX1_bytes_8 : decode cX1_bytes 8 = .ok (.lreturn, 1) := by decide +kernel
theorem dX1_bytes_9 : decode cX1_bytes 9 = .ok (.iload_n 1, 1) := by decide +kernel
theorem dX1_bytes_10 : decode cX1_bytes 10 = .ok (.invokestatic 29, 3) := by decide +kernel
theorem dX1_bytes_13 : decode cX1_bytes 13 = .ok (.i2l, 1) := by decide +kernel
theorem dX1_bytes_14 : decode cX1_bytes 14 = .ok (.lstore_n 2, 1) := by decide +kernel
theorem dX1_bytes_15 : decode cX1_bytes 15 = .ok (.iconst 0, 1) := by decide +kernel
theorem dX1_bytes_16 : decode cX1_bytes 16 = .ok (.istore 4, 2) := by decide +kernel
theorem dX1_bytes_18 : decode cX1_bytes 18 = .ok (.iload 4, 2) := by decide +kernel
theorem dX1_bytes_20 : decode cX1_bytes 20 = .ok (.bipush 7, 2) := by decide +kernel
theorem dX1_bytes_22 : decode cX1_bytes 22 = .ok (.if_icmp .ge 36, 3) := by decide +kernel
theorem dX1_bytes_25 : decode cX1_bytes 25 = .ok (.lload_n 2, 1) := by decide +kernel
theorem dX1_bytes_26 : decode cX1_bytes 26 = .ok (.ldc2_w 93, 3) := by decide +kernel
theorem dX1_bytes_29 : decode cX1_bytes 29 = .ok (.lmul, 1) := by decide +kernel
theorem dX1_bytes_30 : decode cX1_bytes 30 = .ok (.iload 4, 2) := by decide +kernel
theorem dX1_bytes_32 : decode cX1_bytes 32 = .ok (.iload_n 1, 1) := by decide +kernel
theorem dX1_bytes_33 : decode cX1_bytes 33 = .ok (.invokestatic 29, 3) := by decide +kernel
theorem dX1_bytes_36 : decode cX1_bytes 36 = .ok (.if_icmp .ge 12, 3) := by decide +kernel
theorem dX1_bytes_39 : decode cX1_bytes 39 = .ok (.iload_n 1, 1) := by decide +kernel
theorem dX1_bytes_40 : decode cX1_bytes 40 = .ok (.iload 4, 2) := by decide +kernel
theorem dX1_bytes_42 : decode cX1_bytes 42 = .ok (.invokestatic 37, 3) := by decide +kernel
theorem dX1_bytes_45 : decode cX1_bytes 45 = .ok (.goto 4, 3) := by decide +kernel
theorem dX1_bytes_48 : decode cX1_bytes 48 = .ok (.iconst 0, 1) := by decide +kernel
theorem dX1_bytes_49 : decode cX1_bytes 49 = .ok (.i2l, 1) := by decide +kernel
theorem dX1_bytes_50 : decode cX1_bytes 50 = .ok (.ladd, 1) := by decide +kernel
theorem dX1_bytes_51 : decode cX1_bytes 51 = .ok (.lstore_n 2, 1) := by decide +kernel
theorem dX1_bytes_52 : decode cX1_bytes 52 = .ok (.iinc 4 1, 3) := by decide +kernel
theorem dX1_bytes_55 : decode cX1_bytes 55 = .ok (.goto (-37), 3) := by decide +kernel
theorem dX1_bytes_58 : decode cX1_bytes 58 = .ok (.lload_n 2, 1) := by decide +kernel
theorem dX1_bytes_59 : decode cX1_bytes 59 = .ok (.lreturn, 1) := by decide +kernel
