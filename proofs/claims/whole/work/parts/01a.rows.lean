theorem dX0_init_0 : decode cX0_init 0 = .ok (.aload_n 0, 1) := by decide +kernel
theorem dX0_init_1 : decode cX0_init 1 = .ok (.invokespecial 1, 3) := by decide +kernel
theorem dX0_init_4 : decode cX0_init 4 = .ok (.aload_n 0, 1) := by decide +kernel
theorem dX0_init_5 : decode cX0_init 5 = .ok (.sipush 1000, 3) := by decide +kernel
theorem dX0_init_8 : decode cX0_init 8 = .ok (.newarray .int, 2) := by decide +kernel
theorem dX0_init_10 : decode cX0_init 10 = .ok (.putfield 9, 3) := by decide +kernel
theorem dX0_init_13 : decode cX0_init 13 = .ok (.aload_n 0, 1) := by decide +kernel
theorem dX0_init_14 : decode cX0_init 14 = .ok (.sipush 1000, 3) := by decide +kernel
theorem dX0_init_17 : decode cX0_init 17 = .ok (.newarray .int, 2) := by decide +kernel
theorem dX0_init_19 : decode cX0_init 19 = .ok (.putfield 13, 3) := by decide +kernel
theorem dX0_init_22 : decode cX0_init 22 = .ok (.aload_n 0, 1) := by decide +kernel
theorem dX0_init_23 : decode cX0_init 23 = .ok (.sipush 1000, 3) := by decide +kernel
theorem dX0_init_26 : decode cX0_init 26 = .ok (.newarray .int, 2) := by decide +kernel
theorem dX0_init_28 : decode cX0_init 28 = .ok (.putfield 16, 3) := by decide +kernel
theorem dX0_init_31 : decode cX0_init 31 = .ok (.aload_n 0, 1) := by decide +kernel
theorem dX0_init_32 : decode cX0_init 32 = .ok (.iconst 0, 1) := by decide +kernel
theorem dX0_init_33 : decode cX0_init 33 = .ok (.putfield 19, 3) := by decide +kernel
theorem dX0_init_36 : decode cX0_init 36 = .ok (.aload_n 0, 1) := by decide +kernel
theorem dX0_init_37 : decode cX0_init 37 = .ok (.iconst 0, 1) := by decide +kernel
theorem dX0_init_38 : decode cX0_init 38 = .ok (.putfield 23, 3) := by decide +kernel
theorem dX0_init_41 : decode cX0_init 41 = .ok (.aload_n 0, 1) := by decide +kernel
theorem dX0_init_42 : decode cX0_init 42 = .ok (.iconst (-1), 1) := by decide +kernel
theorem dX0_init_43 : decode cX0_init 43 = .ok (.putfield 26, 3) := by decide +kernel
theorem dX0_init_46 : decode cX0_init 46 = .ok (.aload_n 0, 1) := by decide +kernel
theorem dX0_init_47 : decode cX0_init 47 = .ok (.iconst (-1), 1) := by decide +kernel
theorem dX0_init_48 : decode cX0_init 48 = .ok (.putfield 29, 3) := by decide +kernel
theorem dX0_init_51 : decode cX0_init 51 = .ok (.return_, 1) := by decide +kernel
set_option maxRecDepth 20000 in
theorem ggX0_put_X0_hasRoomFor : GoodIn wsX0_put wsX0_hasRoomFor := goodIn_r _ [5, 6, 12, 13, 14, 15, 16, 17, 18] (by decide +kernel) (by decide +kernel)
set_option maxRecDepth 20000 in
theorem gX0_put_X0_hasRoomFor : GoodIn wsX0_put (wsV RX0 32 RX0 yX0_hasRoomFor wsX0_hasRoomFor) := goodIn_app (goodIn_of _ (by decide +kernel)) ggX0_put_X0_hasRoomFor
set_option maxRecDepth 20000 in
theorem ggX0_put_X0_append : GoodIn wsX0_put wsX0_append := goodIn_r _ [10, 6, 11, 12, 13, 14, 15, 16, 17, 18] (by decide +kernel) (by decide +kernel)
set_option maxRecDepth 20000 in
theorem gX0_put_X0_append : GoodIn wsX0_put (wsV RX0 36 RX0 yX0_append wsX0_append) := goodIn_app (goodIn_of _ (by decide +kernel)) ggX0_put_X0_append
theorem dX0_put_0 : decode cX0_put 0 = .ok (.iload_n 3, 1) := by decide +kernel
theorem dX0_put_1 : decode cX0_put 1 = .ok (.iconst 1, 1) := by decide +kernel
theorem dX0_put_2 : decode cX0_put 2 = .ok (.if_icmp .lt 17, 3) := by decide +kernel
theorem dX0_put_5 : decode cX0_put 5 = .ok (.iload_n 3, 1) := by decide +kernel
theorem dX0_put_6 : decode cX0_put 6 = .ok (.bipush 8, 2) := by decide +kernel
theorem dX0_put_8 : decode cX0_put 8 = .ok (.if_icmp .gt 11, 3) := by decide +kernel
theorem dX0_put_11 : decode cX0_put 11 = .ok (.aload_n 0, 1) := by decide +kernel
theorem dX0_put_12 : decode cX0_put 12 = .ok (.iload_n 3, 1) := by decide +kernel
theorem dX0_put_13 : decode cX0_put 13 = .ok (.invokevirtual 32, 3) := by decide +kernel
theorem dX0_put_16 : decode cX0_put 16 = .ok (.ifCond .ne 5, 3) := by decide +kernel
theorem dX0_put_19 : decode cX0_put 19 = .ok (.iconst 0, 1) := by decide +kernel
theorem dX0_put_20 : decode cX0_put 20 = .ok (.ireturn, 1) := by decide +kernel
theorem dX0_put_21 : decode cX0_put 21 = .ok (.iload_n 3, 1) := by decide +kernel
theorem dX0_put_22 : decode cX0_put 22 = .ok (.iconst 1, 1) := by decide +kernel
theorem dX0_put_23 : decode cX0_put 23 = .ok (.isub, 1) := by decide +kernel
theorem dX0_put_24 : decode cX0_put 24 = .ok (.istore 4, 2) := by decide +kernel
theorem dX0_put_26 : decode cX0_put 26 = .ok (.iload 4, 2) := by decide +kernel
theorem dX0_put_28 : decode cX0_put 28 = .ok (.ifCond .lt 25, 3) := by decide +kernel
theorem dX0_put_31 : decode cX0_put 31 = .ok (.aload_n 0, 1) := by decide +kernel
theorem dX0_put_32 : decode cX0_put 32 = .ok (.lload_n 1, 1) := by decide +kernel
theorem dX0_put_33 : decode cX0_put 33 = .ok (.bipush 8, 2) := by decide +kernel
theorem dX0_put_35 : decode cX0_put 35 = .ok (.iload 4, 2) := by decide +kernel
theorem dX0_put_37 : decode cX0_put 37 = .ok (.imul, 1) := by decide +kernel
theorem dX0_put_38 : decode cX0_put 38 = .ok (.lushr, 1) := by decide +kernel
theorem dX0_put_39 : decode cX0_put 39 = .ok (.l2i, 1) := by decide +kernel
theorem dX0_put_40 : decode cX0_put 40 = .ok (.sipush 255, 3) := by decide +kernel
theorem dX0_put_43 : decode cX0_put 43 = .ok (.iand, 1) := by decide +kernel
theorem dX0_put_44 : decode cX0_put 44 = .ok (.invokevirtual 36, 3) := by decide +kernel
theorem dX0_put_47 : decode cX0_put 47 = .ok (.iinc 4 (-1), 3) := by decide +kernel
theorem dX0_put_50 : decode cX0_put 50 = .ok (.goto (-24), 3) := by decide +kernel
theorem dX0_put_53 : decode cX0_put 53 = .ok (.iconst 1, 1) := by decide +kernel
theorem dX0_put_54 : decode cX0_put 54 = .ok (.ireturn, 1) := by decide +kernel
set_option maxRecDepth 20000 in
theorem ggX0_character_X0_widthOf : GoodIn wsX0_character wsX0_widthOf := goodIn_r _ [4, 5, 6, 7, 8] (by decide +kernel) (by decide +kernel)
set_option maxRecDepth 20000 in
theorem gX0_character_X0_widthOf : GoodIn wsX0_character (va_wsS RX0 40 yX0_widthOf wsX0_widthOf) := goodIn_app (goodIn_of _ (by decide +kernel)) ggX0_character_X0_widthOf
set_option maxRecDepth 20000 in
theorem ggX0_character_X0_hasRoomFor : GoodIn wsX0_character wsX0_hasRoomFor := goodIn_r _ [12, 13, 25, 26, 27, 28, 29, 30, 31] (by decide +kernel) (by decide +kernel)
set_option maxRecDepth 20000 in
theorem gX0_character_X0_hasRoomFor : GoodIn wsX0_character (wsV RX0 32 RX0 yX0_hasRoomFor wsX0_hasRoomFor) := goodIn_app (goodIn_of _ (by decide +kernel)) ggX0_character_X0_hasRoomFor
set_option maxRecDepth 20000 in
theorem ggX0_character_X0_encodedByte : GoodIn wsX0_character wsX0_encodedByte := goodIn_r _ [16, 17, 18, 3, 19] (by decide +kernel) (by decide +kernel)
set_option maxRecDepth 20000 in
theorem gX0_character_X0_encodedByte : GoodIn wsX0_character (va_wsS RX0 44 yX0_encodedByte wsX0_encodedByte) := goodIn_app (goodIn_of _ (by decide +kernel)) ggX0_character_X0_encodedByte
set_option maxRecDepth 20000 in
theorem ggX0_character_X0_append : GoodIn wsX0_character wsX0_append := goodIn_r _ [23, 13, 24, 25, 26, 27, 28, 29, 30, 31] (by decide +kernel) (by decide +kernel)
set_option maxRecDepth 20000 in
theorem gX0_character_X0_append : GoodIn wsX0_character (wsV RX0 36 RX0 yX0_append wsX0_append) := goodIn_app (goodIn_of _ (by decide +kernel)) ggX0_character_X0_append
theorem dX0_character_0 : decode cX0_character 0 = .ok (.iload_n 1, 1) := by decide +kernel
theorem dX0_character_1 : decode cX0_character 1 = .ok (.invokestatic 40, 3) := by decide +kernel
theorem dX0_character_4 : decode cX0_character 4 = .ok (.istore_n 2, 1) := by decide +kernel
theorem dX0_character_5 : decode cX0_character 5 = .ok (.iload_n 2, 1) := by decide +kernel
theorem dX0_character_6 : decode cX0_character 6 = .ok (.ifCond .eq 11, 3) := by decide +kernel
theorem dX0_character_9 : decode cX0_character 9 = .ok (.aload_n 0, 1) := by decide +kernel
theorem dX0_character_10 : decode cX0_character 10 = .ok (.iload_n 2, 1) := by decide +kernel
theorem dX0_character_11 : decode cX0_character 11 = .ok (.invokevirtual 32, 3) := by decide +kernel
theorem dX0_character_14 : decode cX0_character 14 = .ok (.ifCond .ne 5, 3) := by decide +kernel
theorem dX0_character_17 : decode cX0_character 17 = .ok (.iconst 0, 1) := by decide +kernel
theorem dX0_character_18 : decode cX0_character 18 = .ok (.ireturn, 1) := by decide +kernel
theorem dX0_character_19 : decode cX0_character 19 = .ok (.iconst 0, 1) := by decide +kernel
theorem dX0_character_20 : decode cX0_character 20 = .ok (.istore_n 3, 1) := by decide +kernel
theorem dX0_character_21 : decode cX0_character 21 = .ok (.iload_n 3, 1) := by decide +kernel
theorem dX0_character_22 : decode cX0_character 22 = .ok (.iload_n 2, 1) := by decide +kernel
theorem dX0_character_23 : decode cX0_character 23 = .ok (.if_icmp .ge 19, 3) := by decide +kernel
theorem dX0_character_26 : decode cX0_character 26 = .ok (.aload_n 0, 1) := by decide +kernel
theorem dX0_character_27 : decode cX0_character 27 = .ok (.iload_n 1, 1) := by decide +kernel
theorem dX0_character_28 : decode cX0_character 28 = .ok (.iload_n 2, 1) := by decide +kernel
theorem dX0_character_29 : decode cX0_character 29 = .ok (.iload_n 3, 1) := by decide +kernel
theorem dX0_character_30 : decode cX0_character 30 = .ok (.invokestatic 44, 3) := by decide +kernel
theorem dX0_character_33 : decode cX0_character 33 = .ok (.invokevirtual 36, 3) := by decide +kernel
theorem dX0_character_36 : decode cX0_character 36 = .ok (.iinc 3 1, 3) := by decide +kernel
theorem dX0_character_39 : decode cX0_character 39 = .ok (.goto (-18), 3) := by decide +kernel
theorem dX0_character_42 : decode cX0_character 42 = .ok (.iconst 1, 1) := by decide +kernel
theorem dX0_character_43 : decode cX0_character 43 = .ok (.ireturn, 1) := by decide +kernel
set_option maxRecDepth 20000 in
theorem ggX0_read_X0_forgetReading : GoodIn wsX0_read wsX0_forgetReading := goodIn_r _ [8, 3, 2, 9, 47, 48, 49, 50, 51, 52, 53] (by decide +kernel) (by decide +kernel)
set_option maxRecDepth 20000 in
theorem gX0_read_X0_forgetReading : GoodIn wsX0_read (wsV RX0 48 RX0 yX0_forgetReading wsX0_forgetReading) := goodIn_app (goodIn_of _ (by decide +kernel)) ggX0_read_X0_forgetReading
set_option maxRecDepth 20000 in
theorem ggX0_read_X0_readText : GoodIn wsX0_read wsX0_readText := goodIn_r _ [13, 1, 9, 14, 15, 16, 7, 17, 18, 19, 20, 21, 22, 23, 24, 25, 26, 27, 28, 29, 30, 31, 32, 33, 34, 35, 36, 37, 38, 39, 40, 41, 42, 43, 44, 3, 45, 46, 47, 48, 49, 50, 51, 52, 53] (by decide +kernel) (by decide +kernel)
set_option maxRecDepth 20000 in
theorem gX0_read_X0_readText : GoodIn wsX0_read (wsV RX0 51 RX0 yX0_readText wsX0_readText) := goodIn_app (goodIn_of _ (by decide +kernel)) ggX0_read_X0_readText
theorem dX0_read_0 : decode cX0_read 0 = .ok (.aload_n 0, 1) := by decide +kernel
theorem dX0_read_1 : decode cX0_read 1 = .ok (.invokevirtual 48, 3) := by decide +kernel
theorem dX0_read_4 : decode cX0_read 4 = .ok (.aload_n 0, 1) := by decide +kernel
theorem dX0_read_5 : decode cX0_read 5 = .ok (.invokevirtual 51, 3) := by decide +kernel
theorem dX0_read_8 : decode cX0_read 8 = .ok (.istore_n 1, 1) := by decide +kernel
theorem dX0_read_9 : decode cX0_read 9 = .ok (.iload_n 1, 1) := by decide +kernel
theorem dX0_read_10 : decode cX0_read 10 = .ok (.ifCond .ne 14, 3) := by decide +kernel
theorem dX0_read_13 : decode cX0_read 13 = .ok (.aload_n 0, 1) := by decide +kernel
theorem dX0_read_14 : decode cX0_read 14 = .ok (.aload_n 0, 1) := by decide +kernel
theorem dX0_read_15 : decode cX0_read 15 = .ok (.getfield 19, 3) := by decide +kernel
theorem dX0_read_18 : decode cX0_read 18 = .ok (.putfield 26, 3) := by decide +kernel
theorem dX0_read_21 : decode cX0_read 21 = .ok (.goto 8, 3) := by decide +kernel
theorem dX0_read_24 : decode cX0_read 24 = .ok (.aload_n 0, 1) := by decide +kernel
theorem dX0_read_25 : decode cX0_read 25 = .ok (.iconst 0, 1) := by decide +kernel
theorem dX0_read_26 : decode cX0_read 26 = .ok (.putfield 23, 3) := by decide +kernel
theorem dX0_read_29 : decode cX0_read 29 = .ok (.aload_n 0, 1) := by decide +kernel
theorem dX0_read_30 : decode cX0_read 30 = .ok (.iconst 0, 1) := by decide +kernel
theorem dX0_read_31 : decode cX0_read 31 = .ok (.putfield 19, 3) := by decide +kernel
theorem dX0_read_34 : decode cX0_read 34 = .ok (.iload_n 1, 1) := by decide +kernel
theorem dX0_read_35 : decode cX0_read 35 = .ok (.ifCond .ne 10, 3) := by decide +kernel
theorem dX0_read_38 : decode cX0_read 38 = .ok (.aload_n 0, 1) := by decide +kernel
theorem dX0_read_39 : decode cX0_read 39 = .ok (.getfield 23, 3) := by decide +kernel
theorem dX0_read_42 : decode cX0_read 42 = .ok (.goto 6, 3) := by decide +kernel
theorem dX0_read_45 : decode cX0_read 45 = .ok (.iconst (-1), 1) := by decide +kernel
theorem dX0_read_46 : decode cX0_read 46 = .ok (.iload_n 1, 1) := by decide +kernel
theorem dX0_read_47 : decode cX0_read 47 = .ok (.isub, 1) := by decide +kernel
theorem dX0_read_48 : decode cX0_read 48 = .ok (.ireturn, 1) := by decide +kernel
theorem dX0_place_0 : decode cX0_place 0 = .ok (.aload_n 0, 1) := by decide +kernel
theorem dX0_place_1 : decode cX0_place 1 = .ok (.getfield 29, 3) := by decide +kernel
theorem dX0_place_4 : decode cX0_place 4 = .ok (.ireturn, 1) := by decide +kernel
set_option maxRecDepth 20000 in
theorem ggX0_at_X0_hasCharacter : GoodIn wsX0_at wsX0_hasCharacter := goodIn_r _ [6, 7, 8, 9, 10, 11, 12, 13, 14] (by decide +kernel) (by decide +kernel)
set_option maxRecDepth 20000 in
theorem gX0_at_X0_hasCharacter : GoodIn wsX0_at (wsV RX0 55 RX0 yX0_hasCharacter wsX0_hasCharacter) := goodIn_app (goodIn_of _ (by decide +kernel)) ggX0_at_X0_hasCharacter
theorem dX0_at_0 : decode cX0_at 0 = .ok (.aload_n 0, 1) := by decide +kernel
theorem dX0_at_1 : decode cX0_at 1 = .ok (.iload_n 1, 1) := by decide +kernel
theorem dX0_at_2 : decode cX0_at 2 = .ok (.invokevirtual 55, 3) := by decide +kernel
theorem dX0_at_5 : decode cX0_at 5 = .ok (.ifCond .eq 12, 3) := by decide +kernel
theorem dX0_at_8 : decode cX0_at 8 = .ok (.aload_n 0, 1) := by decide +kernel
theorem dX0_at_9 : decode cX0_at 9 = .ok (.getfield 13, 3) := by decide +kernel
theorem dX0_at_12 : decode cX0_at 12 = .ok (.iload_n 1, 1) := by decide +kernel
theorem dX0_at_13 : decode cX0_at 13 = .ok (.iaload, 1) := by decide +kernel
theorem dX0_at_14 : decode cX0_at 14 = .ok (.goto 4, 3) := by decide +kernel
theorem dX0_at_17 : decode cX0_at 17 = .ok (.iconst (-1), 1) := by decide +kernel
theorem dX0_at_18 : decode cX0_at 18 = .ok (.ireturn, 1) := by decide +kernel
set_option maxRecDepth 20000 in
theorem ggX0_placeOf_X0_hasCharacter : GoodIn wsX0_placeOf wsX0_hasCharacter := goodIn_r _ [8, 2, 9, 10, 11, 12, 13, 14, 15] (by decide +kernel) (by decide +kernel)
set_option maxRecDepth 20000 in
theorem gX0_placeOf_X0_hasCharacter : GoodIn wsX0_placeOf (wsV RX0 55 RX0 yX0_hasCharacter wsX0_hasCharacter) := goodIn_app (goodIn_of _ (by decide +kernel)) ggX0_placeOf_X0_hasCharacter
theorem dX0_placeOf_0 : decode cX0_placeOf 0 = .ok (.aload_n 0, 1) := by decide +kernel
theorem dX0_placeOf_1 : decode cX0_placeOf 1 = .ok (.iload_n 1, 1) := by decide +kernel
theorem dX0_placeOf_2 : decode cX0_placeOf 2 = .ok (.invokevirtual 55, 3) := by decide +kernel
theorem dX0_placeOf_5 : decode cX0_placeOf 5 = .ok (.ifCond .eq 10, 3) := by decide +kernel
theorem dX0_placeOf_8 : decode cX0_placeOf 8 = .ok (.aload_n 0, 1) := by decide +kernel
theorem dX0_placeOf_9 : decode cX0_placeOf 9 = .ok (.getfield 16, 3) := by decide +kernel
theorem dX0_placeOf_12 : decode cX0_placeOf 12 = .ok (.iload_n 1, 1) := by decide +kernel
theorem dX0_placeOf_13 : decode cX0_placeOf 13 = .ok (.iaload, 1) := by decide +kernel
theorem dX0_placeOf_14 : decode cX0_placeOf 14 = .ok (.ireturn, 1) := by decide +kernel
theorem dX0_placeOf_15 : decode cX0_placeOf 15 = .ok (.iload_n 1, 1) := by decide +kernel
theorem dX0_placeOf_16 : decode cX0_placeOf 16 = .ok (.aload_n 0, 1) := by decide +kernel
theorem dX0_placeOf_17 : decode cX0_placeOf 17 = .ok (.getfield 23, 3) := by decide +kernel
theorem dX0_placeOf_20 : decode cX0_placeOf 20 = .ok (.if_icmp .ne 10, 3) := by decide +kernel
theorem dX0_placeOf_23 : decode cX0_placeOf 23 = .ok (.aload_n 0, 1) := by decide +kernel
theorem dX0_placeOf_24 : decode cX0_placeOf 24 = .ok (.getfield 26, 3) := by decide +kernel
theorem dX0_placeOf_27 : decode cX0_placeOf 27 = .ok (.goto 4, 3) := by decide +kernel
theorem dX0_placeOf_30 : decode cX0_placeOf 30 = .ok (.iconst (-1), 1) := by decide +kernel
theorem dX0_placeOf_31 : decode cX0_placeOf 31 = .ok (.ireturn, 1) := by decide +kernel
set_option maxRecDepth 20000 in
theorem ggX0_kind_X0_isIn : GoodIn wsX0_kind wsX0_isIn := goodIn_r _ [7] (by decide +kernel) (by decide +kernel)
set_option maxRecDepth 20000 in
theorem gX0_kind_X0_isIn : GoodIn wsX0_kind (va_wsS RX0 61 yX0_isIn wsX0_isIn) := goodIn_app (goodIn_of _ (by decide +kernel)) ggX0_kind_X0_isIn
set_option maxRecDepth 20000 in
theorem ggX0_kind_X0_isNamePart : GoodIn wsX0_kind wsX0_isNamePart := goodIn_r _ [10, 3, 11, 4, 5, 6, 7] (by decide +kernel) (by decide +kernel)
set_option maxRecDepth 20000 in
theorem gX0_kind_X0_isNamePart : GoodIn wsX0_kind (va_wsS RX0 71 yX0_isNamePart wsX0_isNamePart) := goodIn_app (goodIn_of _ (by decide +kernel)) ggX0_kind_X0_isNamePart
theorem dX0_kind_0 : decode cX0_kind 0 = .ok (.iconst 0, 1) := by decide +kernel
theorem dX0_kind_1 : decode cX0_kind 1 = .ok (.istore_n 2, 1) := by decide +kernel
theorem dX0_kind_2 : decode cX0_kind 2 = .ok (.getstatic 58, 3) := by decide +kernel
theorem dX0_kind_5 : decode cX0_kind 5 = .ok (.iload_n 1, 1) := by decide +kernel
theorem dX0_kind_6 : decode cX0_kind 6 = .ok (.invokestatic 61, 3) := by decide +kernel
theorem dX0_kind_9 : decode cX0_kind 9 = .ok (.ifCond .eq 6, 3) := by decide +kernel
theorem dX0_kind_12 : decode cX0_kind 12 = .ok (.iinc 2 1, 3) := by decide +kernel
theorem dX0_kind_15 : decode cX0_kind 15 = .ok (.getstatic 65, 3) := by decide +kernel
theorem dX0_kind_18 : decode cX0_kind 18 = .ok (.iload_n 1, 1) := by decide +kernel
theorem dX0_kind_19 : decode cX0_kind 19 = .ok (.invokestatic 61, 3) := by decide +kernel
theorem dX0_kind_22 : decode cX0_kind 22 = .ok (.ifCond .eq 6, 3) := by decide +kernel
theorem dX0_kind_25 : decode cX0_kind 25 = .ok (.iinc 2 2, 3) := by decide +kernel
theorem dX0_kind_28 : decode cX0_kind 28 = .ok (.getstatic 68, 3) := by decide +kernel
theorem dX0_kind_31 : decode cX0_kind 31 = .ok (.iload_n 1, 1) := by decide +kernel
theorem dX0_kind_32 : decode cX0_kind 32 = .ok (.invokestatic 61, 3) := by decide +kernel
theorem dX0_kind_35 : decode cX0_kind 35 = .ok (.ifCond .eq 6, 3) := by decide +kernel
theorem dX0_kind_38 : decode cX0_kind 38 = .ok (.iinc 2 4, 3) := by decide +kernel
theorem dX0_kind_41 : decode cX0_kind 41 = .ok (.iload_n 1, 1) := by decide +kernel
theorem dX0_kind_42 : decode cX0_kind 42 = .ok (.invokestatic 71, 3) := by decide +kernel
theorem dX0_kind_45 : decode cX0_kind 45 = .ok (.ifCond .eq 6, 3) := by decide +kernel
theorem dX0_kind_48 : decode cX0_kind 48 = .ok (.iinc 2 8, 3) := by decide +kernel
theorem dX0_kind_51 : decode cX0_kind 51 = .ok (.iload_n 2, 1) := by decide +kernel
theorem dX0_kind_52 : decode cX0_kind 52 = .ok (.ireturn, 1) := by decide +kernel
set_option maxRecDepth 20000 in
theorem ggX0_run_X0_hasCharacter : GoodIn wsX0_run wsX0_hasCharacter := goodIn_r _ [8, 3, 20, 21, 22, 23, 24, 25, 26] (by decide +kernel) (by decide +kernel)
set_option maxRecDepth 20000 in
theorem gX0_run_X0_hasCharacter : GoodIn wsX0_run (wsV RX0 55 RX0 yX0_hasCharacter wsX0_hasCharacter) := goodIn_app (goodIn_of _ (by decide +kernel)) ggX0_run_X0_hasCharacter
set_option maxRecDepth 20000 in
theorem ggX0_run_X0_isIn : GoodIn wsX0_run wsX0_isIn := goodIn_r _ [11] (by decide +kernel) (by decide +kernel)
set_option maxRecDepth 20000 in
theorem gX0_run_X0_isIn : GoodIn wsX0_run (va_wsS RX0 61 yX0_isIn wsX0_isIn) := goodIn_app (goodIn_of _ (by decide +kernel)) ggX0_run_X0_isIn
set_option maxRecDepth 20000 in
theorem ggX0_run_X0_belongsToRun : GoodIn wsX0_run wsX0_belongsToRun := goodIn_r _ [14, 15, 16, 17, 7, 18, 1, 19, 9, 10, 11] (by decide +kernel) (by decide +kernel)
set_option maxRecDepth 20000 in
theorem gX0_run_X0_belongsToRun : GoodIn wsX0_run (va_wsS RX0 74 yX0_belongsToRun wsX0_belongsToRun) := goodIn_app (goodIn_of _ (by decide +kernel)) ggX0_run_X0_belongsToRun
theorem dX0_run_0 : decode cX0_run 0 = .ok (.aload_n 0, 1) := by decide +kernel
theorem dX0_run_1 : decode cX0_run 1 = .ok (.iload_n 2, 1) := by decide +kernel
theorem dX0_run_2 : decode cX0_run 2 = .ok (.invokevirtual 55, 3) := by decide +kernel
theorem dX0_run_5 : decode cX0_run 5 = .ok (.ifCond .ne 5, 3) := by decide +kernel
theorem dX0_run_8 : decode cX0_run 8 = .ok (.iconst 0, 1) := by decide +kernel
theorem dX0_run_9 : decode cX0_run 9 = .ok (.ireturn, 1) := by decide +kernel
theorem dX0_run_10 : decode cX0_run 10 = .ok (.iload_n 1, 1) := by decide +kernel
theorem dX0_run_11 : decode cX0_run 11 = .ok (.ifCond .ne 20, 3) := by decide +kernel
theorem dX0_run_14 : decode cX0_run 14 = .ok (.getstatic 68, 3) := by decide +kernel
theorem dX0_run_17 : decode cX0_run 17 = .ok (.aload_n 0, 1) := by decide +kernel
theorem dX0_run_18 : decode cX0_run 18 = .ok (.getfield 13, 3) := by decide +kernel
theorem dX0_run_21 : decode cX0_run 21 = .ok (.iload_n 2, 1) := by decide +kernel
theorem dX0_run_22 : decode cX0_run 22 = .ok (.iaload, 1) := by decide +kernel
theorem dX0_run_23 : decode cX0_run 23 = .ok (.invokestatic 61, 3) := by decide +kernel
theorem dX0_run_26 : decode cX0_run 26 = .ok (.ifCond .ne 5, 3) := by decide +kernel
theorem dX0_run_29 : decode cX0_run 29 = .ok (.iconst 0, 1) := by decide +kernel
theorem dX0_run_30 : decode cX0_run 30 = .ok (.ireturn, 1) := by decide +kernel
theorem dX0_run_31 : decode cX0_run 31 = .ok (.iload_n 2, 1) := by decide +kernel
theorem dX0_run_32 : decode cX0_run 32 = .ok (.istore_n 3, 1) := by decide +kernel
theorem dX0_run_33 : decode cX0_run 33 = .ok (.iload_n 3, 1) := by decide +kernel
theorem dX0_run_34 : decode cX0_run 34 = .ok (.aload_n 0, 1) := by decide +kernel
theorem dX0_run_35 : decode cX0_run 35 = .ok (.getfield 23, 3) := by decide +kernel
theorem dX0_run_38 : decode cX0_run 38 = .ok (.if_icmp .ge 22, 3) := by decide +kernel
theorem dX0_run_41 : decode cX0_run 41 = .ok (.iload_n 1, 1) := by decide +kernel
theorem dX0_run_42 : decode cX0_run 42 = .ok (.aload_n 0, 1) := by decide +kernel
theorem dX0_run_43 : decode cX0_run 43 = .ok (.getfield 13, 3) := by decide +kernel
theorem dX0_run_46 : decode cX0_run 46 = .ok (.iload_n 3, 1) := by decide +kernel
theorem dX0_run_47 : decode cX0_run 47 = .ok (.iaload, 1) := by decide +kernel
theorem dX0_run_48 : decode cX0_run 48 = .ok (.invokestatic 74, 3) := by decide +kernel
theorem dX0_run_51 : decode cX0_run 51 = .ok (.ifCond .eq 9, 3) := by decide +kernel
theorem dX0_run_54 : decode cX0_run 54 = .ok (.iinc 3 1, 3) := by decide +kernel
theorem dX0_run_57 : decode cX0_run 57 = .ok (.goto (-24), 3) := by decide +kernel
theorem dX0_run_60 : decode cX0_run 60 = .ok (.iload_n 3, 1) := by decide +kernel
theorem dX0_run_61 : decode cX0_run 61 = .ok (.iload_n 2, 1) := by decide +kernel
theorem dX0_run_62 : decode cX0_run 62 = .ok (.isub, 1) := by decide +kernel
theorem dX0_run_63 : decode cX0_run 63 = .ok (.ireturn, 1) := by decide +kernel
set_option maxRecDepth 20000 in
theorem ggX0_compare_X0_hasStretch : GoodIn wsX0_compare wsX0_hasStretch := goodIn_r _ [6, 7, 8, 13, 14, 15, 16, 17, 18, 19] (by decide +kernel) (by decide +kernel)
set_option maxRecDepth 20000 in
theorem gX0_compare_X0_hasStretch : GoodIn wsX0_compare (wsV RX0 78 RX0 yX0_hasStretch wsX0_hasStretch) := goodIn_app (goodIn_of _ (by decide +kernel)) ggX0_compare_X0_hasStretch
set_option maxRecDepth 20000 in
theorem ggX0_compare_J6_compare_7cf53 : GoodIn wsX0_compare wsJ6_compare_7cf53 := goodIn_r _ [12] (by decide +kernel) (by decide +kernel)
set_option maxRecDepth 20000 in
theorem gX0_compare_J6_compare_7cf53 : GoodIn wsX0_compare (va_wsS RX0 81 yJ6_compare_7cf53 wsJ6_compare_7cf53) := goodIn_app (goodIn_of _ (by decide +kernel)) ggX0_compare_J6_compare_7cf53
theorem dX0_compare_0 : decode cX0_compare 0 = .ok (.aload_n 0, 1) := by decide +kernel
theorem dX0_compare_1 : decode cX0_compare 1 = .ok (.iload_n 1, 1) := by decide +kernel
theorem dX0_compare_2 : decode cX0_compare 2 = .ok (.iload_n 3, 1) := by decide +kernel
theorem dX0_compare_3 : decode cX0_compare 3 = .ok (.invokevirtual 78, 3) := by decide +kernel
theorem dX0_compare_6 : decode cX0_compare 6 = .ok (.ifCond .eq 12, 3) := by decide +kernel
theorem dX0_compare_9 : decode cX0_compare 9 = .ok (.aload_n 0, 1) := by decide +kernel
theorem dX0_compare_10 : decode cX0_compare 10 = .ok (.iload_n 2, 1) := by decide +kernel
theorem dX0_compare_11 : decode cX0_compare 11 = .ok (.iload_n 3, 1) := by decide +kernel
theorem dX0_compare_12 : decode cX0_compare 12 = .ok (.invokevirtual 78, 3) := by decide +kernel
theorem dX0_compare_15 : decode cX0_compare 15 = .ok (.ifCond .ne 6, 3) := by decide +kernel
theorem dX0_compare_18 : decode cX0_compare 18 = .ok (.bipush (-2), 2) := by decide +kernel
theorem dX0_compare_20 : decode cX0_compare 20 = .ok (.ireturn, 1) := by decide +kernel
theorem dX0_compare_21 : decode cX0_compare 21 = .ok (.iconst 0, 1) := by decide +kernel
theorem dX0_compare_22 : decode cX0_compare 22 = .ok (.istore 4, 2) := by decide +kernel
theorem dX0_compare_24 : decode cX0_compare 24 = .ok (.iload 4, 2) := by decide +kernel
theorem dX0_compare_26 : decode cX0_compare 26 = .ok (.iload_n 3, 1) := by decide +kernel
theorem dX0_compare_27 : decode cX0_compare 27 = .ok (.if_icmp .ge 48, 3) := by decide +kernel
theorem dX0_compare_30 : decode cX0_compare 30 = .ok (.aload_n 0, 1) := by decide +kernel
theorem dX0_compare_31 : decode cX0_compare 31 = .ok (.getfield 13, 3) := by decide +kernel
theorem dX0_compare_34 : decode cX0_compare 34 = .ok (.iload_n 1, 1) := by decide +kernel
theorem dX0_compare_35 : decode cX0_compare 35 = .ok (.iload 4, 2) := by decide +kernel
theorem dX0_compare_37 : decode cX0_compare 37 = .ok (.iadd, 1) := by decide +kernel
theorem dX0_compare_38 : decode cX0_compare 38 = .ok (.iaload, 1) := by decide +kernel
theorem dX0_compare_39 : decode cX0_compare 39 = .ok (.aload_n 0, 1) := by decide +kernel
theorem dX0_compare_40 : decode cX0_compare 40 = .ok (.getfield 13, 3) := by decide +kernel
theorem dX0_compare_43 : decode cX0_compare 43 = .ok (.iload_n 2, 1) := by decide +kernel
theorem dX0_compare_44 : decode cX0_compare 44 = .ok (.iload 4, 2) := by decide +kernel
theorem dX0_compare_46 : decode cX0_compare 46 = .ok (.iadd, 1) := by decide +kernel
theorem dX0_compare_47 : decode cX0_compare 47 = .ok (.iaload, 1) := by decide +kernel
theorem dX0_compare_48 : decode cX0_compare 48 = .ok (.invokestatic 81, 3) := by decide +kernel
theorem dX0_compare_51 : decode cX0_compare 51 = .ok (.istore 5, 2) := by decide +kernel
theorem dX0_compare_53 : decode cX0_compare 53 = .ok (.iload 5, 2) := by decide +kernel
theorem dX0_compare_55 : decode cX0_compare 55 = .ok (.ifCond .eq 14, 3) := by decide +kernel
theorem dX0_compare_58 : decode cX0_compare 58 = .ok (.iload 5, 2) := by decide +kernel
theorem dX0_compare_60 : decode cX0_compare 60 = .ok (.ifCond .ge 7, 3) := by decide +kernel
theorem dX0_compare_63 : decode cX0_compare 63 = .ok (.iconst (-1), 1) := by decide +kernel
theorem dX0_compare_64 : decode cX0_compare 64 = .ok (.goto 4, 3) := by decide +kernel
theorem dX0_compare_67 : decode cX0_compare 67 = .ok (.iconst 1, 1) := by decide +kernel
theorem dX0_compare_68 : decode cX0_compare 68 = .ok (.ireturn, 1) := by decide +kernel
theorem dX0_compare_69 : decode cX0_compare 69 = .ok (.iinc 4 1, 3) := by decide +kernel
theorem dX0_compare_72 : decode cX0_compare 72 = .ok (.goto (-48), 3) := by decide +kernel
theorem dX0_compare_75 : decode cX0_compare 75 = .ok (.iconst 0, 1) := by decide +kernel
theorem dX0_compare_76 : decode cX0_compare 76 = .ok (.ireturn, 1) := by decide +kernel
set_option maxRecDepth 20000 in
theorem ggX0_bytes_X0_widthOf : GoodIn wsX0_bytes wsX0_widthOf := goodIn_r _ [4, 5, 6, 7, 8] (by decide +kernel) (by decide +kernel)
set_option maxRecDepth 20000 in
theorem gX0_bytes_X0_widthOf : GoodIn wsX0_bytes (va_wsS RX0 40 yX0_widthOf wsX0_widthOf) := goodIn_app (goodIn_of _ (by decide +kernel)) ggX0_bytes_X0_widthOf
set_option maxRecDepth 20000 in
theorem ggX0_bytes_X0_encodedByte : GoodIn wsX0_bytes wsX0_encodedByte := goodIn_r _ [11, 12, 13, 3, 14] (by decide +kernel) (by decide +kernel)
set_option maxRecDepth 20000 in
theorem gX0_bytes_X0_encodedByte : GoodIn wsX0_bytes (va_wsS RX0 44 yX0_encodedByte wsX0_encodedByte) := goodIn_app (goodIn_of _ (by decide +kernel)) ggX0_bytes_X0_encodedByte
theorem dX0_bytes_0 : decode cX0_bytes 0 = .ok (.iload_n 1, 1) := by decide +kernel
theorem dX0_bytes_1 : decode cX0_bytes 1 = .ok (.invokestatic 40, 3) := by decide +kernel
theorem dX0_bytes_4 : decode cX0_bytes 4 = .ok (.istore_n 2, 1) := by decide +kernel
theorem dX0_bytes_5 : decode cX0_bytes 5 = .ok (.iload_n 2, 1) := by decide +kernel
theorem dX0_bytes_6 : decode cX0_bytes 6 = .ok (.i2l, 1) := by decide +kernel
theorem dX0_bytes_7 : decode cX0_bytes 7 = .ok (.bipush 56, 2) := by decide +kernel
theorem dX0_bytes_9 : decode cX0_bytes 9 = .ok (.lshl, 1) := by decide +kernel
theorem dX0_bytes_10 : decode cX0_bytes 10 = .ok (.lstore_n 3, 1) := by decide +kernel
theorem dX0_bytes_11 : decode cX0_bytes 11 = .ok (.iconst 0, 1) := by decide +kernel
theorem dX0_bytes_12 : decode cX0_bytes 12 = .ok (.istore 5, 2) := by decide +kernel
theorem dX0_bytes_14 : decode cX0_bytes 14 = .ok (.iload 5, 2) := by decide +kernel
theorem dX0_bytes_16 : decode cX0_bytes 16 = .ok (.iload_n 2, 1) := by decide +kernel
theorem dX0_bytes_17 : decode cX0_bytes 17 = .ok (.if_icmp .ge 29, 3) := by decide +kernel
theorem dX0_bytes_20 : decode cX0_bytes 20 = .ok (.lload_n 3, 1) := by decide +kernel
theorem dX0_bytes_21 : decode cX0_bytes 21 = .ok (.iload_n 1, 1) := by decide +kernel
theorem dX0_bytes_22 : decode cX0_bytes 22 = .ok (.iload_n 2, 1) := by decide +kernel
theorem dX0_bytes_23 : decode cX0_bytes 23 = .ok (.iload 5, 2) := by decide +kernel
theorem dX0_bytes_25 : decode cX0_bytes 25 = .ok (.invokestatic 44, 3) := by decide +kernel
theorem dX0_bytes_28 : decode cX0_bytes 28 = .ok (.i2l, 1) := by decide +kernel
theorem dX0_bytes_29 : decode cX0_bytes 29 = .ok (.bipush 48, 2) := by decide +kernel
theorem dX0_bytes_31 : decode cX0_bytes 31 = .ok (.bipush 8, 2) := by decide +kernel
theorem dX0_bytes_33 : decode cX0_bytes 33 = .ok (.iload 5, 2) := by decide +kernel
theorem dX0_bytes_35 : decode cX0_bytes 35 = .ok (.imul, 1) := by decide +kernel
theorem dX0_bytes_36 : decode cX0_bytes 36 = .ok (.isub, 1) := by decide +kernel
theorem dX0_bytes_37 : decode cX0_bytes 37 = .ok (.lshl, 1) := by decide +kernel
theorem dX0_bytes_38 : decode cX0_bytes 38 = .ok (.lor, 1) := by decide +kernel
theorem dX0_bytes_39 : decode cX0_bytes 39 = .ok (.lstore_n 3, 1) := by decide +kernel
theorem dX0_bytes_40 : decode cX0_bytes 40 = .ok (.iinc 5 1, 3) := by decide +kernel
theorem dX0_bytes_43 : decode cX0_bytes 43 = .ok (.goto (-29), 3) := by decide +kernel
theorem dX0_bytes_46 : decode cX0_bytes 46 = .ok (.lload_n 3, 1) := by decide +kernel
theorem dX0_bytes_47 : decode cX0_bytes 47 = .ok (.lreturn, 1) := by decide +kernel
theorem dX0_hasRoomFor_0 : decode cX0_hasRoomFor 0 = .ok (.iload_n 1, 1) := by decide +kernel
theorem dX0_hasRoomFor_1 : decode cX0_hasRoomFor 1 = .ok (.sipush 1000, 3) := by decide +kernel
theorem dX0_hasRoomFor_4 : decode cX0_hasRoomFor 4 = .ok (.aload_n 0, 1) := by decide +kernel
theorem dX0_hasRoomFor_5 : decode cX0_hasRoomFor 5 = .ok (.getfield 19, 3) := by decide +kernel
theorem dX0_hasRoomFor_8 : decode cX0_hasRoomFor 8 = .ok (.isub, 1) := by decide +kernel
theorem dX0_hasRoomFor_9 : decode cX0_hasRoomFor 9 = .ok (.if_icmp .gt 7, 3) := by decide +kernel
theorem dX0_hasRoomFor_12 : decode cX0_hasRoomFor 12 = .ok (.iconst 1, 1) := by decide +kernel
theorem dX0_hasRoomFor_13 : decode cX0_hasRoomFor 13 = .ok (.goto 4, 3) := by decide +kernel
theorem dX0_hasRoomFor_16 : decode cX0_hasRoomFor 16 = .ok (.iconst 0, 1) := by decide +kernel
theorem dX0_hasRoomFor_17 : decode cX0_hasRoomFor 17 = .ok (.ireturn, 1) := by decide +kernel
theorem dX0_append_0 : decode cX0_append 0 = .ok (.aload_n 0, 1) := by decide +kernel
theorem dX0_append_1 : decode cX0_append 1 = .ok (.getfield 19, 3) := by decide +kernel
theorem dX0_append_4 : decode cX0_append 4 = .ok (.sipush 1000, 3) := by decide +kernel
theorem dX0_append_7 : decode cX0_append 7 = .ok (.if_icmp .ge 23, 3) := by decide +kernel
theorem dX0_append_10 : decode cX0_append 10 = .ok (.aload_n 0, 1) := by decide +kernel
theorem dX0_append_11 : decode cX0_append 11 = .ok (.getfield 9, 3) := by decide +kernel
theorem dX0_append_14 : decode cX0_append 14 = .ok (.aload_n 0, 1) := by decide +kernel
theorem dX0_append_15 : decode cX0_append 15 = .ok (.getfield 19, 3) := by decide +kernel
theorem dX0_append_18 : decode cX0_append 18 = .ok (.iload_n 1, 1) := by decide +kernel
theorem dX0_append_19 : decode cX0_append 19 = .ok (.iastore, 1) := by decide +kernel
theorem dX0_append_20 : decode cX0_append 20 = .ok (.aload_n 0, 1) := by decide +kernel
theorem dX0_append_21 : decode cX0_append 21 = .ok (.dup, 1) := by decide +kernel
theorem dX0_append_22 : decode cX0_append 22 = .ok (.getfield 19, 3) := by decide +kernel
theorem dX0_append_25 : decode cX0_append 25 = .ok (.iconst 1, 1) := by decide +kernel
theorem dX0_append_26 : decode cX0_append 26 = .ok (.iadd, 1) := by decide +kernel
theorem dX0_append_27 : decode cX0_append 27 = .ok (.putfield 19, 3) := by decide +kernel
theorem dX0_append_30 : decode cX0_append 30 = .ok (.return_, 1) := by decide +kernel
theorem dX0_forgetReading_0 : decode cX0_forgetReading 0 = .ok (.aload_n 0, 1) := by decide +kernel
theorem dX0_forgetReading_1 : decode cX0_forgetReading 1 = .ok (.iconst 0, 1) := by decide +kernel
theorem dX0_forgetReading_2 : decode cX0_forgetReading 2 = .ok (.putfield 23, 3) := by decide +kernel
theorem dX0_forgetReading_5 : decode cX0_forgetReading 5 = .ok (.aload_n 0, 1) := by decide +kernel
theorem dX0_forgetReading_6 : decode cX0_forgetReading 6 = .ok (.iconst (-1), 1) := by decide +kernel
theorem dX0_forgetReading_7 : decode cX0_forgetReading 7 = .ok (.putfield 26, 3) := by decide +kernel
theorem dX0_forgetReading_10 : decode cX0_forgetReading 10 = .ok (.aload_n 0, 1) := by decide +kernel
theorem dX0_forgetReading_11 : decode cX0_forgetReading 11 = .ok (.iconst (-1), 1) := by decide +kernel
theorem dX0_forgetReading_12 : decode cX0_forgetReading 12 = .ok (.putfield 29, 3) := by decide +kernel
theorem dX0_forgetReading_15 : decode cX0_forgetReading 15 = .ok (.return_, 1) := by decide +kernel
set_option maxRecDepth 20000 in
theorem ggX0_readText_X0_decodedAt : GoodIn wsX0_readText wsX0_decodedAt := goodIn_r _ [7, 8, 1, 9, 10, 6, 11, 12, 13, 14, 15, 16, 17, 18, 38, 39, 40, 41, 42, 43, 44] (by decide +kernel) (by decide +kernel)
set_option maxRecDepth 20000 in
theorem gX0_readText_X0_decodedAt : GoodIn wsX0_readText (wsV RX0 87 RX0 yX0_decodedAt wsX0_decodedAt) := goodIn_app (goodIn_of _ (by decide +kernel)) ggX0_readText_X0_decodedAt
set_option maxRecDepth 20000 in
theorem ggX0_readText_X0_faultOf : GoodIn wsX0_readText wsX0_faultOf := goodIn_r _ [21, 22, 23, 24, 6, 25] (by decide +kernel) (by decide +kernel)
set_option maxRecDepth 20000 in
theorem gX0_readText_X0_faultOf : GoodIn wsX0_readText (va_wsS RX0 90 yX0_faultOf wsX0_faultOf) := goodIn_app (goodIn_of _ (by decide +kernel)) ggX0_readText_X0_faultOf
set_option maxRecDepth 20000 in
theorem ggX0_readText_X0_isLeftOut : GoodIn wsX0_readText wsX0_isLeftOut := goodIn_r _ [29, 30, 8, 38, 39, 40, 41, 42, 43, 44] (by decide +kernel) (by decide +kernel)
set_option maxRecDepth 20000 in
theorem gX0_readText_X0_isLeftOut : GoodIn wsX0_readText (wsV RX0 93 RX0 yX0_isLeftOut wsX0_isLeftOut) := goodIn_app (goodIn_of _ (by decide +kernel)) ggX0_readText_X0_isLeftOut
set_option maxRecDepth 20000 in
theorem ggX0_readText_X0_keep : GoodIn wsX0_readText wsX0_keep := goodIn_r _ [34, 35, 36, 37, 38, 39, 40, 41, 42, 43, 44] (by decide +kernel) (by decide +kernel)
set_option maxRecDepth 20000 in
theorem gX0_readText_X0_keep : GoodIn wsX0_readText (wsV RX0 96 RX0 yX0_keep wsX0_keep) := goodIn_app (goodIn_of _ (by decide +kernel)) ggX0_readText_X0_keep
set_option maxRecDepth 20000 in
theorem ggX0_readText_X0_widthOf : GoodIn wsX0_readText wsX0_widthOf := goodIn_r _ [14, 15, 16, 17, 18] (by decide +kernel) (by decide +kernel)
set_option maxRecDepth 20000 in
theorem gX0_readText_X0_widthOf : GoodIn wsX0_readText (va_wsS RX0 40 yX0_widthOf wsX0_widthOf) := goodIn_app (goodIn_of _ (by decide +kernel)) ggX0_readText_X0_widthOf
theorem dX0_readText_0 : decode cX0_readText 0 = .ok (.iconst 0, 1) := by decide +kernel
theorem dX0_readText_1 : decode cX0_readText 1 = .ok (.istore_n 1, 1) := by decide +kernel
theorem dX0_readText_2 : decode cX0_readText 2 = .ok (.iconst 0, 1) := by decide +kernel
theorem dX0_readText_3 : decode cX0_readText 3 = .ok (.istore_n 2, 1) := by decide +kernel
theorem dX0_readText_4 : decode cX0_readText 4 = .ok (.iload_n 2, 1) := by decide +kernel
theorem dX0_readText_5 : decode cX0_readText 5 = .ok (.aload_n 0, 1) := by decide +kernel
theorem dX0_readText_6 : decode cX0_readText 6 = .ok (.getfield 19, 3) := by decide +kernel
theorem dX0_readText_9 : decode cX0_readText 9 = .ok (.if_icmp .ge 75, 3) := by decide +kernel
theorem dX0_readText_12 : decode cX0_readText 12 = .ok (.iload_n 2, 1) := by decide +kernel
theorem dX0_readText_13 : decode cX0_readText 13 = .ok (.iload_n 1, 1) := by decide +kernel
