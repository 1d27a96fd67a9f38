theorem dX1_has_1 : decode cX1_has 1 = .ok (.ifCond .lt 9, 3) := by decide +kernel
theorem dX1_has_4 : decode cX1_has 4 = .ok (.iload_n 0, 1) := by decide +kernel
theorem dX1_has_5 : decode cX1_has 5 = .ok (.ldc 25, 2) := by decide +kernel
theorem dX1_has_7 : decode cX1_has 7 = .ok (.if_icmp .lt 15, 3) := by decide +kernel
theorem dX1_has_10 : decode cX1_has 10 = .ok (.iload_n 0, 1) := by decide +kernel
theorem dX1_has_11 : decode cX1_has 11 = .ok (.ldc 26, 2) := by decide +kernel
theorem dX1_has_13 : decode cX1_has 13 = .ok (.if_icmp .le 13, 3) := by decide +kernel
theorem dX1_has_16 : decode cX1_has 16 = .ok (.iload_n 0, 1) := by decide +kernel
theorem dX1_has_17 : decode cX1_has 17 = .ok (.ldc 27, 2) := by decide +kernel
theorem dX1_has_19 : decode cX1_has 19 = .ok (.if_icmp .ge 7, 3) := by decide +kernel
theorem dX1_has_22 : decode cX1_has 22 = .ok (.iconst 1, 1) := by decide +kernel
theorem dX1_has_23 : decode cX1_has 23 = .ok (.goto 4, 3) := by decide +kernel
theorem dX1_has_26 : decode cX1_has 26 = .ok (.iconst 0, 1) := by decide +kernel
theorem dX1_has_27 : decode cX1_has 27 = .ok (.ireturn, 1) := by decide +kernel
theorem dX1_sizeOf_0 : decode cX1_sizeOf 0 = .ok (.iconst 1, 1) := by decide +kernel
theorem dX1_sizeOf_1 : decode cX1_sizeOf 1 = .ok (.istore_n 1, 1) := by decide +kernel
theorem dX1_sizeOf_2 : decode cX1_sizeOf 2 = .ok (.iload_n 0, 1) := by decide +kernel
theorem dX1_sizeOf_3 : decode cX1_sizeOf 3 = .ok (.bipush 127, 2) := by decide +kernel
theorem dX1_sizeOf_5 : decode cX1_sizeOf 5 = .ok (.if_icmp .le 7, 3) := by decide +kernel
theorem dX1_sizeOf_8 : decode cX1_sizeOf 8 = .ok (.iconst 2, 1) := by decide +kernel
theorem dX1_sizeOf_9 : decode cX1_sizeOf 9 = .ok (.goto 4, 3) := by decide +kernel
theorem dX1_sizeOf_12 : decode cX1_sizeOf 12 = .ok (.iload_n 1, 1) := by decide +kernel
theorem dX1_sizeOf_13 : decode cX1_sizeOf 13 = .ok (.istore_n 1, 1) := by decide +kernel
theorem dX1_sizeOf_14 : decode cX1_sizeOf 14 = .ok (.iload_n 0, 1) := by decide +kernel
theorem dX1_sizeOf_15 : decode cX1_sizeOf 15 = .ok (.sipush 2047, 3) := by decide +kernel
theorem dX1_sizeOf_18 : decode cX1_sizeOf 18 = .ok (.if_icmp .le 7, 3) := by decide +kernel
theorem dX1_sizeOf_21 : decode cX1_sizeOf 21 = .ok (.iconst 3, 1) := by decide +kernel
theorem dX1_sizeOf_22 : decode cX1_sizeOf 22 = .ok (.goto 4, 3) := by decide +kernel
theorem dX1_sizeOf_25 : decode cX1_sizeOf 25 = .ok (.iload_n 1, 1) := by decide +kernel
theorem dX1_sizeOf_26 : decode cX1_sizeOf 26 = .ok (.istore_n 1, 1) := by decide +kernel
theorem dX1_sizeOf_27 : decode cX1_sizeOf 27 = .ok (.iload_n 0, 1) := by decide +kernel
theorem dX1_sizeOf_28 : decode cX1_sizeOf 28 = .ok (.ldc 28, 2) := by decide +kernel
theorem dX1_sizeOf_30 : decode cX1_sizeOf 30 = .ok (.if_icmp .le 7, 3) := by decide +kernel
theorem dX1_sizeOf_33 : decode cX1_sizeOf 33 = .ok (.iconst 4, 1) := by decide +kernel
theorem dX1_sizeOf_34 : decode cX1_sizeOf 34 = .ok (.goto 4, 3) := by decide +kernel
theorem dX1_sizeOf_37 : decode cX1_sizeOf 37 = .ok (.iload_n 1, 1) := by decide +kernel
theorem dX1_sizeOf_38 : decode cX1_sizeOf 38 = .ok (.ireturn, 1) := by decide +kernel
set_option maxRecDepth 20000 in
theorem ggX1_byteOf_X1_sizeOf : GoodIn wsX1_byteOf wsX1_sizeOf := goodIn_r _ [4, 5] (by decide +kernel) (by decide +kernel)
set_option maxRecDepth 20000 in
theorem gX1_byteOf_X1_sizeOf : GoodIn wsX1_byteOf (va_wsS RX1 29 yX1_sizeOf wsX1_sizeOf) := goodIn_app (goodIn_of _ (by decide +kernel)) ggX1_byteOf_X1_sizeOf
theorem dX1_byteOf_0 : decode cX1_byteOf 0 = .ok (.iload_n 0, 1) := by decide +kernel
theorem dX1_byteOf_1 : decode cX1_byteOf 1 = .ok (.invokestatic 29, 3) := by decide +kernel
theorem dX1_byteOf_4 : decode cX1_byteOf 4 = .ok (.istore_n 2, 1) := by decide +kernel
theorem dX1_byteOf_5 : decode cX1_byteOf 5 = .ok (.iload_n 0, 1) := by decide +kernel
theorem dX1_byteOf_6 : decode cX1_byteOf 6 = .ok (.istore_n 3, 1) := by decide +kernel
theorem dX1_byteOf_7 : decode cX1_byteOf 7 = .ok (.iload_n 2, 1) := by decide +kernel
theorem dX1_byteOf_8 : decode cX1_byteOf 8 = .ok (.iconst 1, 1) := by decide +kernel
theorem dX1_byteOf_9 : decode cX1_byteOf 9 = .ok (.isub, 1) := by decide +kernel
theorem dX1_byteOf_10 : decode cX1_byteOf 10 = .ok (.istore 4, 2) := by decide +kernel
theorem dX1_byteOf_12 : decode cX1_byteOf 12 = .ok (.iload 4, 2) := by decide +kernel
theorem dX1_byteOf_14 : decode cX1_byteOf 14 = .ok (.iload_n 1, 1) := by decide +kernel
theorem dX1_byteOf_15 : decode cX1_byteOf 15 = .ok (.if_icmp .le 14, 3) := by decide +kernel
theorem dX1_byteOf_18 : decode cX1_byteOf 18 = .ok (.iload_n 3, 1) := by decide +kernel
theorem dX1_byteOf_19 : decode cX1_byteOf 19 = .ok (.bipush 64, 2) := by decide +kernel
theorem dX1_byteOf_21 : decode cX1_byteOf 21 = .ok (.idiv, 1) := by decide +kernel
theorem dX1_byteOf_22 : decode cX1_byteOf 22 = .ok (.istore_n 3, 1) := by decide +kernel
theorem dX1_byteOf_23 : decode cX1_byteOf 23 = .ok (.iinc 4 (-1), 3) := by decide +kernel
theorem dX1_byteOf_26 : decode cX1_byteOf 26 = .ok (.goto (-14), 3) := by decide +kernel
theorem dX1_byteOf_29 : decode cX1_byteOf 29 = .ok (.iload_n 1, 1) := by decide +kernel
theorem dX1_byteOf_30 : decode cX1_byteOf 30 = .ok (.ifCond .le 12, 3) := by decide +kernel
theorem dX1_byteOf_33 : decode cX1_byteOf 33 = .ok (.sipush 128, 3) := by decide +kernel
theorem dX1_byteOf_36 : decode cX1_byteOf 36 = .ok (.iload_n 3, 1) := by decide +kernel
theorem dX1_byteOf_37 : decode cX1_byteOf 37 = .ok (.bipush 64, 2) := by decide +kernel
theorem dX1_byteOf_39 : decode cX1_byteOf 39 = .ok (.irem, 1) := by decide +kernel
theorem dX1_byteOf_40 : decode cX1_byteOf 40 = .ok (.iadd, 1) := by decide +kernel
theorem dX1_byteOf_41 : decode cX1_byteOf 41 = .ok (.ireturn, 1) := by decide +kernel
theorem dX1_byteOf_42 : decode cX1_byteOf 42 = .ok (.iload_n 2, 1) := by decide +kernel
theorem dX1_byteOf_43 : decode cX1_byteOf 43 = .ok (.iconst 1, 1) := by decide +kernel
theorem dX1_byteOf_44 : decode cX1_byteOf 44 = .ok (.if_icmp .ne 7, 3) := by decide +kernel
theorem dX1_byteOf_47 : decode cX1_byteOf 47 = .ok (.iload_n 0, 1) := by decide +kernel
theorem dX1_byteOf_48 : decode cX1_byteOf 48 = .ok (.goto 34, 3) := by decide +kernel
theorem dX1_byteOf_51 : decode cX1_byteOf 51 = .ok (.iload_n 2, 1) := by decide +kernel
theorem dX1_byteOf_52 : decode cX1_byteOf 52 = .ok (.iconst 2, 1) := by decide +kernel
theorem dX1_byteOf_53 : decode cX1_byteOf 53 = .ok (.if_icmp .ne 11, 3) := by decide +kernel
theorem dX1_byteOf_56 : decode cX1_byteOf 56 = .ok (.sipush 192, 3) := by decide +kernel
theorem dX1_byteOf_59 : decode cX1_byteOf 59 = .ok (.iload_n 3, 1) := by decide +kernel
theorem dX1_byteOf_60 : decode cX1_byteOf 60 = .ok (.iadd, 1) := by decide +kernel
theorem dX1_byteOf_61 : decode cX1_byteOf 61 = .ok (.goto 21, 3) := by decide +kernel
theorem dX1_byteOf_64 : decode cX1_byteOf 64 = .ok (.iload_n 2, 1) := by decide +kernel
theorem dX1_byteOf_65 : decode cX1_byteOf 65 = .ok (.iconst 3, 1) := by decide +kernel
theorem dX1_byteOf_66 : decode cX1_byteOf 66 = .ok (.if_icmp .ne 11, 3) := by decide +kernel
theorem dX1_byteOf_69 : decode cX1_byteOf 69 = .ok (.sipush 224, 3) := by decide +kernel
theorem dX1_byteOf_72 : decode cX1_byteOf 72 = .ok (.iload_n 3, 1) := by decide +kernel
theorem dX1_byteOf_73 : decode cX1_byteOf 73 = .ok (.iadd, 1) := by decide +kernel
theorem dX1_byteOf_74 : decode cX1_byteOf 74 = .ok (.goto 8, 3) := by decide +kernel
theorem dX1_byteOf_77 : decode cX1_byteOf 77 = .ok (.sipush 240, 3) := by decide +kernel
theorem dX1_byteOf_80 : decode cX1_byteOf 80 = .ok (.iload_n 3, 1) := by decide +kernel
theorem dX1_byteOf_81 : decode cX1_byteOf 81 = .ok (.iadd, 1) := by decide +kernel
theorem dX1_byteOf_82 : decode cX1_byteOf 82 = .ok (.ireturn, 1) := by decide +kernel
set_option maxRecDepth 20000 in
theorem ggX1_character_X1_has : GoodIn wsX1_character wsX1_has := goodIn_r _ [6, 7, 8, 9] (by decide +kernel) (by decide +kernel)
set_option maxRecDepth 20000 in
theorem gX1_character_X1_has : GoodIn wsX1_character (va_wsS RX1 33 yX1_has wsX1_has) := goodIn_app (goodIn_of _ (by decide +kernel)) ggX1_character_X1_has
set_option maxRecDepth 20000 in
theorem ggX1_character_X1_sizeOf : GoodIn wsX1_character wsX1_sizeOf := goodIn_r _ [12, 13] (by decide +kernel) (by decide +kernel)
set_option maxRecDepth 20000 in
theorem gX1_character_X1_sizeOf : GoodIn wsX1_character (va_wsS RX1 29 yX1_sizeOf wsX1_sizeOf) := goodIn_app (goodIn_of _ (by decide +kernel)) ggX1_character_X1_sizeOf
set_option maxRecDepth 20000 in
theorem ggX1_character_X1_byteOf : GoodIn wsX1_character wsX1_byteOf := goodIn_r _ [16, 10, 11, 5, 12, 13] (by decide +kernel) (by decide +kernel)
set_option maxRecDepth 20000 in
theorem gX1_character_X1_byteOf : GoodIn wsX1_character (va_wsS RX1 37 yX1_byteOf wsX1_byteOf) := goodIn_app (goodIn_of _ (by decide +kernel)) ggX1_character_X1_byteOf
theorem dX1_character_0 : decode cX1_character 0 = .ok (.iload_n 1, 1) := by decide +kernel
theorem dX1_character_1 : decode cX1_character 1 = .ok (.invokestatic 33, 3) := by decide +kernel
theorem dX1_character_4 : decode cX1_character 4 = .ok (.ifCond .eq 18, 3) := by decide +kernel
theorem dX1_character_7 : decode cX1_character 7 = .ok (.aload_n 0, 1) := by decide +kernel
theorem dX1_character_8 : decode cX1_character 8 = .ok (.getfield 20, 3) := by decide +kernel
theorem dX1_character_11 : decode cX1_character 11 = .ok (.iload_n 1, 1) := by decide +kernel
theorem dX1_character_12 : decode cX1_character 12 = .ok (.invokestatic 29, 3) := by decide +kernel
theorem dX1_character_15 : decode cX1_character 15 = .ok (.iadd, 1) := by decide +kernel
theorem dX1_character_16 : decode cX1_character 16 = .ok (.sipush 1000, 3) := by decide +kernel
theorem dX1_character_19 : decode cX1_character 19 = .ok (.if_icmp .le 5, 3) := by decide +kernel
theorem dX1_character_22 : decode cX1_character 22 = .ok (.iconst 0, 1) := by decide +kernel
theorem dX1_character_23 : decode cX1_character 23 = .ok (.ireturn, 1) := by decide +kernel
theorem dX1_character_24 : decode cX1_character 24 = .ok (.iload_n 1, 1) := by decide +kernel
theorem dX1_character_25 : decode cX1_character 25 = .ok (.invokestatic 29, 3) := by decide +kernel
theorem dX1_character_28 : decode cX1_character 28 = .ok (.istore_n 2, 1) := by decide +kernel
theorem dX1_character_29 : decode cX1_character 29 = .ok (.iconst 0, 1) := by decide +kernel
theorem dX1_character_30 : decode cX1_character 30 = .ok (.istore_n 3, 1) := by decide +kernel
theorem dX1_character_31 : decode cX1_character 31 = .ok (.iload_n 3, 1) := by decide +kernel
theorem dX1_character_32 : decode cX1_character 32 = .ok (.iload_n 2, 1) := by decide +kernel
theorem dX1_character_33 : decode cX1_character 33 = .ok (.if_icmp .ge 33, 3) := by decide +kernel
theorem dX1_character_36 : decode cX1_character 36 = .ok (.aload_n 0, 1) := by decide +kernel
theorem dX1_character_37 : decode cX1_character 37 = .ok (.getfield 7, 3) := by decide +kernel
theorem dX1_character_40 : decode cX1_character 40 = .ok (.aload_n 0, 1) := by decide +kernel
theorem dX1_character_41 : decode cX1_character 41 = .ok (.getfield 20, 3) := by decide +kernel
theorem dX1_character_44 : decode cX1_character 44 = .ok (.iload_n 1, 1) := by decide +kernel
theorem dX1_character_45 : decode cX1_character 45 = .ok (.iload_n 3, 1) := by decide +kernel
theorem dX1_character_46 : decode cX1_character 46 = .ok (.invokestatic 37, 3) := by decide +kernel
theorem dX1_character_49 : decode cX1_character 49 = .ok (.iastore, 1) := by decide +kernel
theorem dX1_character_50 : decode cX1_character 50 = .ok (.aload_n 0, 1) := by decide +kernel
theorem dX1_character_51 : decode cX1_character 51 = .ok (.dup, 1) := by decide +kernel
theorem dX1_character_52 : decode cX1_character 52 = .ok (.getfield 20, 3) := by decide +kernel
theorem dX1_character_55 : decode cX1_character 55 = .ok (.iconst 1, 1) := by decide +kernel
theorem dX1_character_56 : decode cX1_character 56 = .ok (.iadd, 1) := by decide +kernel
theorem dX1_character_57 : decode cX1_character 57 = .ok (.putfield 20, 3) := by decide +kernel
theorem dX1_character_60 : decode cX1_character 60 = .ok (.iinc 3 1, 3) := by decide +kernel
theorem dX1_character_63 : decode cX1_character 63 = .ok (.goto (-32), 3) := by decide +kernel
theorem dX1_character_66 : decode cX1_character 66 = .ok (.iconst 1, 1) := by decide +kernel
theorem dX1_character_67 : decode cX1_character 67 = .ok (.ireturn, 1) := by decide +kernel
set_option maxRecDepth 20000 in
theorem ggX1_sequence_X1_has : GoodIn wsX1_sequence wsX1_has := goodIn_r _ [7, 8, 9, 10] (by decide +kernel) (by decide +kernel)
set_option maxRecDepth 20000 in
theorem gX1_sequence_X1_has : GoodIn wsX1_sequence (va_wsS RX1 33 yX1_has wsX1_has) := goodIn_app (goodIn_of _ (by decide +kernel)) ggX1_sequence_X1_has
set_option maxRecDepth 20000 in
theorem ggX1_sequence_X1_sizeOf : GoodIn wsX1_sequence wsX1_sizeOf := goodIn_r _ [13, 14] (by decide +kernel) (by decide +kernel)
set_option maxRecDepth 20000 in
theorem gX1_sequence_X1_sizeOf : GoodIn wsX1_sequence (va_wsS RX1 29 yX1_sizeOf wsX1_sizeOf) := goodIn_app (goodIn_of _ (by decide +kernel)) ggX1_sequence_X1_sizeOf
theorem dX1_sequence_0 : decode cX1_sequence 0 = .ok (.aload_n 0, 1) := by decide +kernel
theorem dX1_sequence_1 : decode cX1_sequence 1 = .ok (.getfield 13, 3) := by decide +kernel
theorem dX1_sequence_4 : decode cX1_sequence 4 = .ok (.aload_n 0, 1) := by decide +kernel
theorem dX1_sequence_5 : decode cX1_sequence 5 = .ok (.getfield 41, 3) := by decide +kernel
theorem dX1_sequence_8 : decode cX1_sequence 8 = .ok (.iaload, 1) := by decide +kernel
theorem dX1_sequence_9 : decode cX1_sequence 9 = .ok (.istore_n 1, 1) := by decide +kernel
theorem dX1_sequence_10 : decode cX1_sequence 10 = .ok (.iload_n 1, 1) := by decide +kernel
theorem dX1_sequence_11 : decode cX1_sequence 11 = .ok (.sipush 128, 3) := by decide +kernel
theorem dX1_sequence_14 : decode cX1_sequence 14 = .ok (.if_icmp .ge 7, 3) := by decide +kernel
theorem dX1_sequence_17 : decode cX1_sequence 17 = .ok (.iconst 1, 1) := by decide +kernel
theorem dX1_sequence_18 : decode cX1_sequence 18 = .ok (.goto 48, 3) := by decide +kernel
theorem dX1_sequence_21 : decode cX1_sequence 21 = .ok (.iload_n 1, 1) := by decide +kernel
theorem dX1_sequence_22 : decode cX1_sequence 22 = .ok (.sipush 192, 3) := by decide +kernel
theorem dX1_sequence_25 : decode cX1_sequence 25 = .ok (.if_icmp .ge 7, 3) := by decide +kernel
theorem dX1_sequence_28 : decode cX1_sequence 28 = .ok (.iconst 0, 1) := by decide +kernel
theorem dX1_sequence_29 : decode cX1_sequence 29 = .ok (.goto 37, 3) := by decide +kernel
theorem dX1_sequence_32 : decode cX1_sequence 32 = .ok (.iload_n 1, 1) := by decide +kernel
theorem dX1_sequence_33 : decode cX1_sequence 33 = .ok (.sipush 224, 3) := by decide +kernel
theorem dX1_sequence_36 : decode cX1_sequence 36 = .ok (.if_icmp .ge 7, 3) := by decide +kernel
theorem dX1_sequence_39 : decode cX1_sequence 39 = .ok (.iconst 2, 1) := by decide +kernel
theorem dX1_sequence_40 : decode cX1_sequence 40 = .ok (.goto 26, 3) := by decide +kernel
theorem dX1_sequence_43 : decode cX1_sequence 43 = .ok (.iload_n 1, 1) := by decide +kernel
theorem dX1_sequence_44 : decode cX1_sequence 44 = .ok (.sipush 240, 3) := by decide +kernel
theorem dX1_sequence_47 : decode cX1_sequence 47 = .ok (.if_icmp .ge 7, 3) := by decide +kernel
theorem dX1_sequence_50 : decode cX1_sequence 50 = .ok (.iconst 3, 1) := by decide +kernel
theorem dX1_sequence_51 : decode cX1_sequence 51 = .ok (.goto 15, 3) := by decide +kernel
theorem dX1_sequence_54 : decode cX1_sequence 54 = .ok (.iload_n 1, 1) := by decide +kernel
theorem dX1_sequence_55 : decode cX1_sequence 55 = .ok (.sipush 248, 3) := by decide +kernel
theorem dX1_sequence_58 : decode cX1_sequence 58 = .ok (.if_icmp .ge 7, 3) := by decide +kernel
theorem dX1_sequence_61 : decode cX1_sequence 61 = .ok (.iconst 4, 1) := by decide +kernel
theorem dX1_sequence_62 : decode cX1_sequence 62 = .ok (.goto 4, 3) := by decide +kernel
theorem dX1_sequence_65 : decode cX1_sequence 65 = .ok (.iconst 0, 1) := by decide +kernel
theorem dX1_sequence_66 : decode cX1_sequence 66 = .ok (.istore_n 2, 1) := by decide +kernel
theorem dX1_sequence_67 : decode cX1_sequence 67 = .ok (.iload_n 2, 1) := by decide +kernel
theorem dX1_sequence_68 : decode cX1_sequence 68 = .ok (.ifCond .eq 16, 3) := by decide +kernel
theorem dX1_sequence_71 : decode cX1_sequence 71 = .ok (.aload_n 0, 1) := by decide +kernel
theorem dX1_sequence_72 : decode cX1_sequence 72 = .ok (.getfield 41, 3) := by decide +kernel
theorem dX1_sequence_75 : decode cX1_sequence 75 = .ok (.iload_n 2, 1) := by decide +kernel
theorem dX1_sequence_76 : decode cX1_sequence 76 = .ok (.iadd, 1) := by decide +kernel
theorem dX1_sequence_77 : decode cX1_sequence 77 = .ok (.aload_n 0, 1) := by decide +kernel
theorem dX1_sequence_78 : decode cX1_sequence 78 = .ok (.getfield 44, 3) := by decide +kernel
theorem dX1_sequence_81 : decode cX1_sequence 81 = .ok (.if_icmp .le 5, 3) := by decide +kernel
theorem dX1_sequence_84 : decode cX1_sequence 84 = .ok (.iconst (-1), 1) := by decide +kernel
theorem dX1_sequence_85 : decode cX1_sequence 85 = .ok (.ireturn, 1) := by decide +kernel
theorem dX1_sequence_86 : decode cX1_sequence 86 = .ok (.iload_n 2, 1) := by decide +kernel
theorem dX1_sequence_87 : decode cX1_sequence 87 = .ok (.iconst 1, 1) := by decide +kernel
theorem dX1_sequence_88 : decode cX1_sequence 88 = .ok (.if_icmp .ne 7, 3) := by decide +kernel
theorem dX1_sequence_91 : decode cX1_sequence 91 = .ok (.iload_n 1, 1) := by decide +kernel
theorem dX1_sequence_92 : decode cX1_sequence 92 = .ok (.goto 34, 3) := by decide +kernel
theorem dX1_sequence_95 : decode cX1_sequence 95 = .ok (.iload_n 2, 1) := by decide +kernel
theorem dX1_sequence_96 : decode cX1_sequence 96 = .ok (.iconst 2, 1) := by decide +kernel
theorem dX1_sequence_97 : decode cX1_sequence 97 = .ok (.if_icmp .ne 11, 3) := by decide +kernel
theorem dX1_sequence_100 : decode cX1_sequence 100 = .ok (.iload_n 1, 1) := by decide +kernel
theorem dX1_sequence_101 : decode cX1_sequence 101 = .ok (.sipush 192, 3) := by decide +kernel
theorem dX1_sequence_104 : decode cX1_sequence 104 = .ok (.isub, 1) := by decide +kernel
theorem dX1_sequence_105 : decode cX1_sequence 105 = .ok (.goto 21, 3) := by decide +kernel
theorem dX1_sequence_108 : decode cX1_sequence 108 = .ok (.iload_n 2, 1) := by decide +kernel
theorem dX1_sequence_109 : decode cX1_sequence 109 = .ok (.iconst 3, 1) := by decide +kernel
theorem dX1_sequence_110 : decode cX1_sequence 110 = .ok (.if_icmp .ne 11, 3) := by decide +kernel
theorem dX1_sequence_113 : decode cX1_sequence 113 = .ok (.iload_n 1, 1) := by decide +kernel
theorem dX1_sequence_114 : decode cX1_sequence 114 = .ok (.sipush 224, 3) := by decide +kernel
theorem dX1_sequence_117 : decode cX1_sequence 117 = .ok (.isub, 1) := by decide +kernel
theorem dX1_sequence_118 : decode cX1_sequence 118 = .ok (.goto 8, 3) := by decide +kernel
theorem dX1_sequence_121 : decode cX1_sequence 121 = .ok (.iload_n 1, 1) := by decide +kernel
theorem dX1_sequence_122 : decode cX1_sequence 122 = .ok (.sipush 240, 3) := by decide +kernel
theorem dX1_sequence_125 : decode cX1_sequence 125 = .ok (.isub, 1) := by decide +kernel
theorem dX1_sequence_126 : decode cX1_sequence 126 = .ok (.istore_n 3, 1) := by decide +kernel
theorem dX1_sequence_127 : decode cX1_sequence 127 = .ok (.iconst 1, 1) := by decide +kernel
theorem dX1_sequence_128 : decode cX1_sequence 128 = .ok (.istore 4, 2) := by decide +kernel
theorem dX1_sequence_130 : decode cX1_sequence 130 = .ok (.iload 4, 2) := by decide +kernel
theorem dX1_sequence_132 : decode cX1_sequence 132 = .ok (.iload_n 2, 1) := by decide +kernel
theorem dX1_sequence_133 : decode cX1_sequence 133 = .ok (.if_icmp .ge 53, 3) := by decide +kernel
theorem dX1_sequence_136 : decode cX1_sequence 136 = .ok (.aload_n 0, 1) := by decide +kernel
theorem dX1_sequence_137 : decode cX1_sequence 137 = .ok (.getfield 13, 3) := by decide +kernel
theorem dX1_sequence_140 : decode cX1_sequence 140 = .ok (.aload_n 0, 1) := by decide +kernel
theorem dX1_sequence_141 : decode cX1_sequence 141 = .ok (.getfield 41, 3) := by decide +kernel
theorem dX1_sequence_144 : decode cX1_sequence 144 = .ok (.iload 4, 2) := by decide +kernel
theorem dX1_sequence_146 : decode cX1_sequence 146 = .ok (.iadd, 1) := by decide +kernel
theorem dX1_sequence_147 : decode cX1_sequence 147 = .ok (.iaload, 1) := by decide +kernel
theorem dX1_sequence_148 : decode cX1_sequence 148 = .ok (.istore 5, 2) := by decide +kernel
theorem dX1_sequence_150 : decode cX1_sequence 150 = .ok (.iload 5, 2) := by decide +kernel
theorem dX1_sequence_152 : decode cX1_sequence 152 = .ok (.sipush 128, 3) := by decide +kernel
theorem dX1_sequence_155 : decode cX1_sequence 155 = .ok (.if_icmp .lt 11, 3) := by decide +kernel
theorem dX1_sequence_158 : decode cX1_sequence 158 = .ok (.iload 5, 2) := by decide +kernel
theorem dX1_sequence_160 : decode cX1_sequence 160 = .ok (.sipush 191, 3) := by decide +kernel
theorem dX1_sequence_163 : decode cX1_sequence 163 = .ok (.if_icmp .le 5, 3) := by decide +kernel
theorem dX1_sequence_166 : decode cX1_sequence 166 = .ok (.iconst (-1), 1) := by decide +kernel
theorem dX1_sequence_167 : decode cX1_sequence 167 = .ok (.ireturn, 1) := by decide +kernel
theorem dX1_sequence_168 : decode cX1_sequence 168 = .ok (.bipush 64, 2) := by decide +kernel
theorem dX1_sequence_170 : decode cX1_sequence 170 = .ok (.iload_n 3, 1) := by decide +kernel
theorem dX1_sequence_171 : decode cX1_sequence 171 = .ok (.imul, 1) := by decide +kernel
theorem dX1_sequence_172 : decode cX1_sequence 172 = .ok (.iload 5, 2) := by decide +kernel
theorem dX1_sequence_174 : decode cX1_sequence 174 = .ok (.iadd, 1) := by decide +kernel
theorem dX1_sequence_175 : decode cX1_sequence 175 = .ok (.sipush 128, 3) := by decide +kernel
theorem dX1_sequence_178 : decode cX1_sequence 178 = .ok (.isub, 1) := by decide +kernel
theorem dX1_sequence_179 : decode cX1_sequence 179 = .ok (.istore_n 3, 1) := by decide +kernel
theorem dX1_sequence_180 : decode cX1_sequence 180 = .ok (.iinc 4 1, 3) := by decide +kernel
theorem dX1_sequence_183 : decode cX1_sequence 183 = .ok (.goto (-53), 3) := by decide +kernel
theorem dX1_sequence_186 : decode cX1_sequence 186 = .ok (.iload_n 3, 1) := by decide +kernel
theorem dX1_sequence_187 : decode cX1_sequence 187 = .ok (.invokestatic 33, 3) := by decide +kernel
theorem dX1_sequence_190 : decode cX1_sequence 190 = .ok (.ifCond .eq 11, 3) := by decide +kernel
theorem dX1_sequence_193 : decode cX1_sequence 193 = .ok (.iload_n 3, 1) := by decide +kernel
theorem dX1_sequence_194 : decode cX1_sequence 194 = .ok (.invokestatic 29, 3) := by decide +kernel
theorem dX1_sequence_197 : decode cX1_sequence 197 = .ok (.iload_n 2, 1) := by decide +kernel
theorem dX1_sequence_198 : decode cX1_sequence 198 = .ok (.if_icmp .eq 5, 3) := by decide +kernel
theorem dX1_sequence_201 : decode cX1_sequence 201 = .ok (.iconst (-1), 1) := by decide +kernel
theorem dX1_sequence_202 : decode cX1_sequence 202 = .ok (.ireturn, 1) := by decide +kernel
theorem dX1_sequence_203 : decode cX1_sequence 203 = .ok (.aload_n 0, 1) := by decide +kernel
theorem dX1_sequence_204 : decode cX1_sequence 204 = .ok (.aload_n 0, 1) := by decide +kernel
theorem dX1_sequence_205 : decode cX1_sequence 205 = .ok (.getfield 41, 3) := by decide +kernel
theorem dX1_sequence_208 : decode cX1_sequence 208 = .ok (.iload_n 2, 1) := by decide +kernel
theorem dX1_sequence_209 : decode cX1_sequence 209 = .ok (.iadd, 1) := by decide +kernel
theorem dX1_sequence_210 : decode cX1_sequence 210 = .ok (.putfield 41, 3) := by decide +kernel
theorem dX1_sequence_213 : decode cX1_sequence 213 = .ok (.iload_n 3, 1) := by decide +kernel
theorem dX1_sequence_214 : decode cX1_sequence 214 = .ok (.ireturn, 1) := by decide +kernel
theorem dX1_isAllowed_0 : decode cX1_isAllowed 0 = .ok (.iload_n 0, 1) := by decide +kernel
theorem dX1_isAllowed_1 : decode cX1_isAllowed 1 = .ok (.bipush 9, 2) := by decide +kernel
theorem dX1_isAllowed_3 : decode cX1_isAllowed 3 = .ok (.if_icmp .eq 51, 3) := by decide +kernel
theorem dX1_isAllowed_6 : decode cX1_isAllowed 6 = .ok (.iload_n 0, 1) := by decide +kernel
theorem dX1_isAllowed_7 : decode cX1_isAllowed 7 = .ok (.bipush 10, 2) := by decide +kernel
theorem dX1_isAllowed_9 : decode cX1_isAllowed 9 = .ok (.if_icmp .eq 45, 3) := by decide +kernel
theorem dX1_isAllowed_12 : decode cX1_isAllowed 12 = .ok (.iload_n 0, 1) := by decide +kernel
theorem dX1_isAllowed_13 : decode cX1_isAllowed 13 = .ok (.bipush 13, 2) := by decide +kernel
theorem dX1_isAllowed_15 : decode cX1_isAllowed 15 = .ok (.if_icmp .eq 39, 3) := by decide +kernel
theorem dX1_isAllowed_18 : decode cX1_isAllowed 18 = .ok (.iload_n 0, 1) := by decide +kernel
theorem dX1_isAllowed_19 : decode cX1_isAllowed 19 = .ok (.bipush 32, 2) := by decide +kernel
theorem dX1_isAllowed_21 : decode cX1_isAllowed 21 = .ok (.if_icmp .lt 9, 3) := by decide +kernel
theorem dX1_isAllowed_24 : decode cX1_isAllowed 24 = .ok (.iload_n 0, 1) := by decide +kernel
theorem dX1_isAllowed_25 : decode cX1_isAllowed 25 = .ok (.ldc 25, 2) := by decide +kernel
theorem dX1_isAllowed_27 : decode cX1_isAllowed 27 = .ok (.if_icmp .lt 27, 3) := by decide +kernel
theorem dX1_isAllowed_30 : decode cX1_isAllowed 30 = .ok (.iload_n 0, 1) := by decide +kernel
theorem dX1_isAllowed_31 : decode cX1_isAllowed 31 = .ok (.ldc 47, 2) := by decide +kernel
theorem dX1_isAllowed_33 : decode cX1_isAllowed 33 = .ok (.if_icmp .lt 9, 3) := by decide +kernel
theorem dX1_isAllowed_36 : decode cX1_isAllowed 36 = .ok (.iload_n 0, 1) := by decide +kernel
theorem dX1_isAllowed_37 : decode cX1_isAllowed 37 = .ok (.ldc 48, 2) := by decide +kernel
theorem dX1_isAllowed_39 : decode cX1_isAllowed 39 = .ok (.if_icmp .lt 15, 3) := by decide +kernel
theorem dX1_isAllowed_42 : decode cX1_isAllowed 42 = .ok (.iload_n 0, 1) := by decide +kernel
theorem dX1_isAllowed_43 : decode cX1_isAllowed 43 = .ok (.ldc 49, 2) := by decide +kernel
theorem dX1_isAllowed_45 : decode cX1_isAllowed 45 = .ok (.if_icmp .lt 13, 3) := by decide +kernel
theorem dX1_isAllowed_48 : decode cX1_isAllowed 48 = .ok (.iload_n 0, 1) := by decide +kernel
theorem dX1_isAllowed_49 : decode cX1_isAllowed 49 = .ok (.ldc 27, 2) := by decide +kernel
theorem dX1_isAllowed_51 : decode cX1_isAllowed 51 = .ok (.if_icmp .ge 7, 3) := by decide +kernel
theorem dX1_isAllowed_54 : decode cX1_isAllowed 54 = .ok (.iconst 1, 1) := by decide +kernel
theorem dX1_isAllowed_55 : decode cX1_isAllowed 55 = .ok (.goto 4, 3) := by decide +kernel
theorem dX1_isAllowed_58 : decode cX1_isAllowed 58 = .ok (.iconst 0, 1) := by decide +kernel
theorem dX1_isAllowed_59 : decode cX1_isAllowed 59 = .ok (.ireturn, 1) := by decide +kernel
set_option maxRecDepth 20000 in
theorem ggX1_next_X1_sequence : GoodIn wsX1_next wsX1_sequence := goodIn_r _ [10, 3, 1, 2, 11, 12, 9, 13, 14, 15, 16, 17, 18, 19, 20, 21, 22, 23, 24, 25, 26, 27, 28, 29] (by decide +kernel) (by decide +kernel)
set_option maxRecDepth 20000 in
theorem gX1_next_X1_sequence : GoodIn wsX1_next (wsV RX1 53 RX1 yX1_sequence wsX1_sequence) := goodIn_app (goodIn_of _ (by decide +kernel)) ggX1_next_X1_sequence
theorem dX1_next_0 : decode cX1_next 0 = .ok (.aload_n 0, 1) := by decide +kernel
theorem dX1_next_1 : decode cX1_next 1 = .ok (.getfield 41, 3) := by decide +kernel
theorem dX1_next_4 : decode cX1_next 4 = .ok (.ifCond .ne 52, 3) := by decide +kernel
theorem dX1_next_7 : decode cX1_next 7 = .ok (.aload_n 0, 1) := by decide +kernel
theorem dX1_next_8 : decode cX1_next 8 = .ok (.getfield 44, 3) := by decide +kernel
theorem dX1_next_11 : decode cX1_next 11 = .ok (.iconst 2, 1) := by decide +kernel
theorem dX1_next_12 : decode cX1_next 12 = .ok (.if_icmp .le 44, 3) := by decide +kernel
theorem dX1_next_15 : decode cX1_next 15 = .ok (.aload_n 0, 1) := by decide +kernel
theorem dX1_next_16 : decode cX1_next 16 = .ok (.getfield 13, 3) := by decide +kernel
theorem dX1_next_19 : decode cX1_next 19 = .ok (.iconst 0, 1) := by decide +kernel
theorem dX1_next_20 : decode cX1_next 20 = .ok (.iaload, 1) := by decide +kernel
theorem dX1_next_21 : decode cX1_next 21 = .ok (.sipush 239, 3) := by decide +kernel
theorem dX1_next_24 : decode cX1_next 24 = .ok (.if_icmp .ne 32, 3) := by decide +kernel
theorem dX1_next_27 : decode cX1_next 27 = .ok (.aload_n 0, 1) := by decide +kernel
theorem dX1_next_28 : decode cX1_next 28 = .ok (.getfield 13, 3) := by decide +kernel
theorem dX1_next_31 : decode cX1_next 31 = .ok (.iconst 1, 1) := by decide +kernel
theorem dX1_next_32 : decode cX1_next 32 = .ok (.iaload, 1) := by decide +kernel
theorem dX1_next_33 : decode cX1_next 33 = .ok (.sipush 187, 3) := by decide +kernel
theorem dX1_next_36 : decode cX1_next 36 = .ok (.if_icmp .ne 20, 3) := by decide +kernel
theorem dX1_next_39 : decode cX1_next 39 = .ok (.aload_n 0, 1) := by decide +kernel
theorem dX1_next_40 : decode cX1_next 40 = .ok (.getfield 13, 3) := by decide +kernel
theorem dX1_next_43 : decode cX1_next 43 = .ok (.iconst 2, 1) := by decide +kernel
theorem dX1_next_44 : decode cX1_next 44 = .ok (.iaload, 1) := by decide +kernel
theorem dX1_next_45 : decode cX1_next 45 = .ok (.sipush 191, 3) := by decide +kernel
theorem dX1_next_48 : decode cX1_next 48 = .ok (.if_icmp .ne 8, 3) := by decide +kernel
theorem dX1_next_51 : decode cX1_next 51 = .ok (.aload_n 0, 1) := by decide +kernel
theorem dX1_next_52 : decode cX1_next 52 = .ok (.iconst 3, 1) := by decide +kernel
theorem dX1_next_53 : decode cX1_next 53 = .ok (.putfield 41, 3) := by decide +kernel
theorem dX1_next_56 : decode cX1_next 56 = .ok (.aload_n 0, 1) := by decide +kernel
theorem dX1_next_57 : decode cX1_next 57 = .ok (.getfield 41, 3) := by decide +kernel
theorem dX1_next_60 : decode cX1_next 60 = .ok (.aload_n 0, 1) := by decide +kernel
theorem dX1_next_61 : decode cX1_next 61 = .ok (.getfield 44, 3) := by decide +kernel
theorem dX1_next_64 : decode cX1_next 64 = .ok (.if_icmp .lt 5, 3) := by decide +kernel
theorem dX1_next_67 : decode cX1_next 67 = .ok (.iconst 0, 1) := by decide +kernel
theorem dX1_next_68 : decode cX1_next 68 = .ok (.ireturn, 1) := by decide +kernel
theorem dX1_next_69 : decode cX1_next 69 = .ok (.aload_n 0, 1) := by decide +kernel
theorem dX1_next_70 : decode cX1_next 70 = .ok (.aload_n 0, 1) := by decide +kernel
theorem dX1_next_71 : decode cX1_next 71 = .ok (.getfield 41, 3) := by decide +kernel
theorem dX1_next_74 : decode cX1_next 74 = .ok (.putfield 50, 3) := by decide +kernel
theorem dX1_next_77 : decode cX1_next 77 = .ok (.aload_n 0, 1) := by decide +kernel
theorem dX1_next_78 : decode cX1_next 78 = .ok (.aload_n 0, 1) := by decide +kernel
theorem dX1_next_79 : decode cX1_next 79 = .ok (.invokevirtual 53, 3) := by decide +kernel
theorem dX1_next_82 : decode cX1_next 82 = .ok (.putfield 57, 3) := by decide +kernel
theorem dX1_next_85 : decode cX1_next 85 = .ok (.aload_n 0, 1) := by decide +kernel
theorem dX1_next_86 : decode cX1_next 86 = .ok (.getfield 57, 3) := by decide +kernel
theorem dX1_next_89 : decode cX1_next 89 = .ok (.bipush 13, 2) := by decide +kernel
theorem dX1_next_91 : decode cX1_next 91 = .ok (.if_icmp .ne 51, 3) := by decide +kernel
theorem dX1_next_94 : decode cX1_next 94 = .ok (.aload_n 0, 1) := by decide +kernel
theorem dX1_next_95 : decode cX1_next 95 = .ok (.bipush 10, 2) := by decide +kernel
theorem dX1_next_97 : decode cX1_next 97 = .ok (.putfield 57, 3) := by decide +kernel
theorem dX1_next_100 : decode cX1_next 100 = .ok (.aload_n 0, 1) := by decide +kernel
theorem dX1_next_101 : decode cX1_next 101 = .ok (.aload_n 0, 1) := by decide +kernel
theorem dX1_next_102 : decode cX1_next 102 = .ok (.getfield 41, 3) := by decide +kernel
theorem dX1_next_105 : decode cX1_next 105 = .ok (.aload_n 0, 1) := by decide +kernel
theorem dX1_next_106 : decode cX1_next 106 = .ok (.getfield 44, 3) := by decide +kernel
theorem dX1_next_109 : decode cX1_next 109 = .ok (.if_icmp .ge 26, 3) := by decide +kernel
theorem dX1_next_112 : decode cX1_next 112 = .ok (.aload_n 0, 1) := by decide +kernel
theorem dX1_next_113 : decode cX1_next 113 = .ok (.getfield 13, 3) := by decide +kernel
theorem dX1_next_116 : decode cX1_next 116 = .ok (.aload_n 0, 1) := by decide +kernel
theorem dX1_next_117 : decode cX1_next 117 = .ok (.getfield 41, 3) := by decide +kernel
theorem dX1_next_120 : decode cX1_next 120 = .ok (.iaload, 1) := by decide +kernel
theorem dX1_next_121 : decode cX1_next 121 = .ok (.bipush 10, 2) := by decide +kernel
theorem dX1_next_123 : decode cX1_next 123 = .ok (.if_icmp .ne 12, 3) := by decide +kernel
theorem dX1_next_126 : decode cX1_next 126 = .ok (.aload_n 0, 1) := by decide +kernel
theorem dX1_next_127 : decode cX1_next 127 = .ok (.getfield 41, 3) := by decide +kernel
theorem dX1_next_130 : decode cX1_next 130 = .ok (.iconst 1, 1) := by decide +kernel
theorem dX1_next_131 : decode cX1_next 131 = .ok (.iadd, 1) := by decide +kernel
theorem dX1_next_132 : decode cX1_next 132 = .ok (.goto 7, 3) := by decide +kernel
theorem dX1_next_135 : decode cX1_next 135 = .ok (.aload_n 0, 1) := by decide +kernel
theorem dX1_next_136 : decode cX1_next 136 = .ok (.getfield 41, 3) := by decide +kernel
theorem dX1_next_139 : decode cX1_next 139 = .ok (.putfield 41, 3) := by decide +kernel
theorem dX1_next_142 : decode cX1_next 142 = .ok (.iconst 1, 1) := by decide +kernel
theorem dX1_next_143 : decode cX1_next 143 = .ok (.ireturn, 1) := by decide +kernel
set_option maxRecDepth 20000 in
theorem ggX1_read_X1_sequence : GoodIn wsX1_read wsX1_sequence := goodIn_r _ [12, 4, 6, 2, 13, 14, 11, 15, 16, 17, 18, 19, 20, 21, 22, 35, 36, 37, 38, 39, 40, 41, 42, 43] (by decide +kernel) (by decide +kernel)
set_option maxRecDepth 20000 in
theorem gX1_read_X1_sequence : GoodIn wsX1_read (wsV RX1 53 RX1 yX1_sequence wsX1_sequence) := goodIn_app (goodIn_of _ (by decide +kernel)) ggX1_read_X1_sequence
set_option maxRecDepth 20000 in
theorem ggX1_read_X1_isAllowed : GoodIn wsX1_read wsX1_isAllowed := goodIn_r _ [25, 16, 26, 27, 28, 18] (by decide +kernel) (by decide +kernel)
set_option maxRecDepth 20000 in
theorem gX1_read_X1_isAllowed : GoodIn wsX1_read (va_wsS RX1 64 yX1_isAllowed wsX1_isAllowed) := goodIn_app (goodIn_of _ (by decide +kernel)) ggX1_read_X1_isAllowed
set_option maxRecDepth 20000 in
theorem ggX1_read_X1_next : GoodIn wsX1_read wsX1_next := goodIn_r _ [32, 6, 2, 4, 33, 34, 8, 9, 10, 11, 12, 13, 14, 15, 16, 17, 18, 19, 20, 21, 22, 35, 36, 37, 38, 39, 40, 41, 42, 43] (by decide +kernel) (by decide +kernel)
set_option maxRecDepth 20000 in
theorem gX1_read_X1_next : GoodIn wsX1_read (wsV RX1 67 RX1 yX1_next wsX1_next) := goodIn_app (goodIn_of _ (by decide +kernel)) ggX1_read_X1_next
theorem dX1_read_0 : decode cX1_read 0 = .ok (.aload_n 0, 1) := by decide +kernel
theorem dX1_read_1 : decode cX1_read 1 = .ok (.aload_n 0, 1) := by decide +kernel
theorem dX1_read_2 : decode cX1_read 2 = .ok (.getfield 20, 3) := by decide +kernel
theorem dX1_read_5 : decode cX1_read 5 = .ok (.putfield 44, 3) := by decide +kernel
theorem dX1_read_8 : decode cX1_read 8 = .ok (.aload_n 0, 1) := by decide +kernel
theorem dX1_read_9 : decode cX1_read 9 = .ok (.iconst 0, 1) := by decide +kernel
theorem dX1_read_10 : decode cX1_read 10 = .ok (.putfield 20, 3) := by decide +kernel
theorem dX1_read_13 : decode cX1_read 13 = .ok (.aload_n 0, 1) := by decide +kernel
theorem dX1_read_14 : decode cX1_read 14 = .ok (.iconst 0, 1) := by decide +kernel
theorem dX1_read_15 : decode cX1_read 15 = .ok (.putfield 60, 3) := by decide +kernel
theorem dX1_read_18 : decode cX1_read 18 = .ok (.iconst 0, 1) := by decide +kernel
theorem dX1_read_19 : decode cX1_read 19 = .ok (.istore_n 1, 1) := by decide +kernel
theorem dX1_read_20 : decode cX1_read 20 = .ok (.iload_n 1, 1) := by decide +kernel
theorem dX1_read_21 : decode cX1_read 21 = .ok (.aload_n 0, 1) := by decide +kernel
theorem dX1_read_22 : decode cX1_read 22 = .ok (.getfield 44, 3) := by decide +kernel
theorem dX1_read_25 : decode cX1_read 25 = .ok (.if_icmp .ge 21, 3) := by decide +kernel
theorem dX1_read_28 : decode cX1_read 28 = .ok (.aload_n 0, 1) := by decide +kernel
theorem dX1_read_29 : decode cX1_read 29 = .ok (.getfield 13, 3) := by decide +kernel
theorem dX1_read_32 : decode cX1_read 32 = .ok (.iload_n 1, 1) := by decide +kernel
theorem dX1_read_33 : decode cX1_read 33 = .ok (.aload_n 0, 1) := by decide +kernel
theorem dX1_read_34 : decode cX1_read 34 = .ok (.getfield 7, 3) := by decide +kernel
theorem dX1_read_37 : decode cX1_read 37 = .ok (.iload_n 1, 1) := by decide +kernel
theorem dX1_read_38 : decode cX1_read 38 = .ok (.iaload, 1) := by decide +kernel
theorem dX1_read_39 : decode cX1_read 39 = .ok (.iastore, 1) := by decide +kernel
theorem dX1_read_40 : decode cX1_read 40 = .ok (.iinc 1 1, 3) := by decide +kernel
theorem dX1_read_43 : decode cX1_read 43 = .ok (.goto (-23), 3) := by decide +kernel
theorem dX1_read_46 : decode cX1_read 46 = .ok (.aload_n 0, 1) := by decide +kernel
theorem dX1_read_47 : decode cX1_read 47 = .ok (.iconst 0, 1) := by decide +kernel
theorem dX1_read_48 : decode cX1_read 48 = .ok (.putfield 41, 3) := by decide +kernel
theorem dX1_read_51 : decode cX1_read 51 = .ok (.aload_n 0, 1) := by decide +kernel
theorem dX1_read_52 : decode cX1_read 52 = .ok (.getfield 41, 3) := by decide +kernel
theorem dX1_read_55 : decode cX1_read 55 = .ok (.aload_n 0, 1) := by decide +kernel
theorem dX1_read_56 : decode cX1_read 56 = .ok (.getfield 44, 3) := by decide +kernel
theorem dX1_read_59 : decode cX1_read 59 = .ok (.if_icmp .ge 36, 3) := by decide +kernel
theorem dX1_read_62 : decode cX1_read 62 = .ok (.aload_n 0, 1) := by decide +kernel
theorem dX1_read_63 : decode cX1_read 63 = .ok (.aload_n 0, 1) := by decide +kernel
theorem dX1_read_64 : decode cX1_read 64 = .ok (.getfield 41, 3) := by decide +kernel
