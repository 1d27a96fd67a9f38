theorem dX0_readText_14 : decode cX0_readText 14 = .ok (.if_icmp .ge 6, 3) := by decide +kernel
theorem dX0_readText_17 : decode cX0_readText 17 = .ok (.goto 61, 3) := by decide +kernel
theorem dX0_readText_20 : decode cX0_readText 20 = .ok (.aload_n 0, 1) := by decide +kernel
theorem dX0_readText_21 : decode cX0_readText 21 = .ok (.iload_n 2, 1) := by decide +kernel
theorem dX0_readText_22 : decode cX0_readText 22 = .ok (.invokevirtual 87, 3) := by decide +kernel
theorem dX0_readText_25 : decode cX0_readText 25 = .ok (.istore_n 3, 1) := by decide +kernel
theorem dX0_readText_26 : decode cX0_readText 26 = .ok (.iload_n 3, 1) := by decide +kernel
theorem dX0_readText_27 : decode cX0_readText 27 = .ok (.invokestatic 90, 3) := by decide +kernel
theorem dX0_readText_30 : decode cX0_readText 30 = .ok (.istore 4, 2) := by decide +kernel
theorem dX0_readText_32 : decode cX0_readText 32 = .ok (.iload 4, 2) := by decide +kernel
theorem dX0_readText_34 : decode cX0_readText 34 = .ok (.ifCond .eq 11, 3) := by decide +kernel
theorem dX0_readText_37 : decode cX0_readText 37 = .ok (.aload_n 0, 1) := by decide +kernel
theorem dX0_readText_38 : decode cX0_readText 38 = .ok (.iload_n 2, 1) := by decide +kernel
theorem dX0_readText_39 : decode cX0_readText 39 = .ok (.putfield 29, 3) := by decide +kernel
theorem dX0_readText_42 : decode cX0_readText 42 = .ok (.iload 4, 2) := by decide +kernel
theorem dX0_readText_44 : decode cX0_readText 44 = .ok (.ireturn, 1) := by decide +kernel
theorem dX0_readText_45 : decode cX0_readText 45 = .ok (.aload_n 0, 1) := by decide +kernel
theorem dX0_readText_46 : decode cX0_readText 46 = .ok (.iload_n 3, 1) := by decide +kernel
theorem dX0_readText_47 : decode cX0_readText 47 = .ok (.iload_n 2, 1) := by decide +kernel
theorem dX0_readText_48 : decode cX0_readText 48 = .ok (.invokevirtual 93, 3) := by decide +kernel
theorem dX0_readText_51 : decode cX0_readText 51 = .ok (.ifCond .ne 20, 3) := by decide +kernel
theorem dX0_readText_54 : decode cX0_readText 54 = .ok (.aload_n 0, 1) := by decide +kernel
theorem dX0_readText_55 : decode cX0_readText 55 = .ok (.iload_n 3, 1) := by decide +kernel
theorem dX0_readText_56 : decode cX0_readText 56 = .ok (.bipush 13, 2) := by decide +kernel
theorem dX0_readText_58 : decode cX0_readText 58 = .ok (.if_icmp .ne 8, 3) := by decide +kernel
theorem dX0_readText_61 : decode cX0_readText 61 = .ok (.bipush 10, 2) := by decide +kernel
theorem dX0_readText_63 : decode cX0_readText 63 = .ok (.goto 4, 3) := by decide +kernel
theorem dX0_readText_66 : decode cX0_readText 66 = .ok (.iload_n 3, 1) := by decide +kernel
theorem dX0_readText_67 : decode cX0_readText 67 = .ok (.iload_n 2, 1) := by decide +kernel
theorem dX0_readText_68 : decode cX0_readText 68 = .ok (.invokevirtual 96, 3) := by decide +kernel
theorem dX0_readText_71 : decode cX0_readText 71 = .ok (.iload_n 2, 1) := by decide +kernel
theorem dX0_readText_72 : decode cX0_readText 72 = .ok (.iload_n 3, 1) := by decide +kernel
theorem dX0_readText_73 : decode cX0_readText 73 = .ok (.invokestatic 40, 3) := by decide +kernel
theorem dX0_readText_76 : decode cX0_readText 76 = .ok (.iadd, 1) := by decide +kernel
theorem dX0_readText_77 : decode cX0_readText 77 = .ok (.istore_n 1, 1) := by decide +kernel
theorem dX0_readText_78 : decode cX0_readText 78 = .ok (.iinc 2 1, 3) := by decide +kernel
theorem dX0_readText_81 : decode cX0_readText 81 = .ok (.goto (-77), 3) := by decide +kernel
theorem dX0_readText_84 : decode cX0_readText 84 = .ok (.iconst 0, 1) := by decide +kernel
theorem dX0_readText_85 : decode cX0_readText 85 = .ok (.ireturn, 1) := by decide +kernel
set_option maxRecDepth 20000 in
theorem ggX0_faultOf_X0_isIn : GoodIn wsX0_faultOf wsX0_isIn := goodIn_r _ [5] (by decide +kernel) (by decide +kernel)
set_option maxRecDepth 20000 in
theorem gX0_faultOf_X0_isIn : GoodIn wsX0_faultOf (va_wsS RX0 61 yX0_isIn wsX0_isIn) := goodIn_app (goodIn_of _ (by decide +kernel)) ggX0_faultOf_X0_isIn
theorem dX0_faultOf_0 : decode cX0_faultOf 0 = .ok (.iload_n 0, 1) := by decide +kernel
theorem dX0_faultOf_1 : decode cX0_faultOf 1 = .ok (.iconst (-1), 1) := by decide +kernel
theorem dX0_faultOf_2 : decode cX0_faultOf 2 = .ok (.if_icmp .ne 5, 3) := by decide +kernel
theorem dX0_faultOf_5 : decode cX0_faultOf 5 = .ok (.iconst 1, 1) := by decide +kernel
theorem dX0_faultOf_6 : decode cX0_faultOf 6 = .ok (.ireturn, 1) := by decide +kernel
theorem dX0_faultOf_7 : decode cX0_faultOf 7 = .ok (.getstatic 58, 3) := by decide +kernel
theorem dX0_faultOf_10 : decode cX0_faultOf 10 = .ok (.iload_n 0, 1) := by decide +kernel
theorem dX0_faultOf_11 : decode cX0_faultOf 11 = .ok (.invokestatic 61, 3) := by decide +kernel
theorem dX0_faultOf_14 : decode cX0_faultOf 14 = .ok (.ifCond .eq 7, 3) := by decide +kernel
theorem dX0_faultOf_17 : decode cX0_faultOf 17 = .ok (.iconst 0, 1) := by decide +kernel
theorem dX0_faultOf_18 : decode cX0_faultOf 18 = .ok (.goto 4, 3) := by decide +kernel
theorem dX0_faultOf_21 : decode cX0_faultOf 21 = .ok (.iconst 2, 1) := by decide +kernel
theorem dX0_faultOf_22 : decode cX0_faultOf 22 = .ok (.ireturn, 1) := by decide +kernel
theorem dX0_isLeftOut_0 : decode cX0_isLeftOut 0 = .ok (.iload_n 2, 1) := by decide +kernel
theorem dX0_isLeftOut_1 : decode cX0_isLeftOut 1 = .ok (.ifCond .ne 15, 3) := by decide +kernel
theorem dX0_isLeftOut_4 : decode cX0_isLeftOut 4 = .ok (.iload_n 1, 1) := by decide +kernel
theorem dX0_isLeftOut_5 : decode cX0_isLeftOut 5 = .ok (.ldc 100, 2) := by decide +kernel
theorem dX0_isLeftOut_7 : decode cX0_isLeftOut 7 = .ok (.if_icmp .ne 7, 3) := by decide +kernel
theorem dX0_isLeftOut_10 : decode cX0_isLeftOut 10 = .ok (.iconst 1, 1) := by decide +kernel
theorem dX0_isLeftOut_11 : decode cX0_isLeftOut 11 = .ok (.goto 4, 3) := by decide +kernel
theorem dX0_isLeftOut_14 : decode cX0_isLeftOut 14 = .ok (.iconst 0, 1) := by decide +kernel
theorem dX0_isLeftOut_15 : decode cX0_isLeftOut 15 = .ok (.ireturn, 1) := by decide +kernel
theorem dX0_isLeftOut_16 : decode cX0_isLeftOut 16 = .ok (.iload_n 1, 1) := by decide +kernel
theorem dX0_isLeftOut_17 : decode cX0_isLeftOut 17 = .ok (.bipush 10, 2) := by decide +kernel
theorem dX0_isLeftOut_19 : decode cX0_isLeftOut 19 = .ok (.if_icmp .ne 20, 3) := by decide +kernel
theorem dX0_isLeftOut_22 : decode cX0_isLeftOut 22 = .ok (.aload_n 0, 1) := by decide +kernel
theorem dX0_isLeftOut_23 : decode cX0_isLeftOut 23 = .ok (.getfield 9, 3) := by decide +kernel
theorem dX0_isLeftOut_26 : decode cX0_isLeftOut 26 = .ok (.iload_n 2, 1) := by decide +kernel
theorem dX0_isLeftOut_27 : decode cX0_isLeftOut 27 = .ok (.iconst 1, 1) := by decide +kernel
theorem dX0_isLeftOut_28 : decode cX0_isLeftOut 28 = .ok (.isub, 1) := by decide +kernel
theorem dX0_isLeftOut_29 : decode cX0_isLeftOut 29 = .ok (.iaload, 1) := by decide +kernel
theorem dX0_isLeftOut_30 : decode cX0_isLeftOut 30 = .ok (.bipush 13, 2) := by decide +kernel
theorem dX0_isLeftOut_32 : decode cX0_isLeftOut 32 = .ok (.if_icmp .ne 7, 3) := by decide +kernel
theorem dX0_isLeftOut_35 : decode cX0_isLeftOut 35 = .ok (.iconst 1, 1) := by decide +kernel
theorem dX0_isLeftOut_36 : decode cX0_isLeftOut 36 = .ok (.goto 4, 3) := by decide +kernel
theorem dX0_isLeftOut_39 : decode cX0_isLeftOut 39 = .ok (.iconst 0, 1) := by decide +kernel
theorem dX0_isLeftOut_40 : decode cX0_isLeftOut 40 = .ok (.ireturn, 1) := by decide +kernel
theorem dX0_keep_0 : decode cX0_keep 0 = .ok (.aload_n 0, 1) := by decide +kernel
theorem dX0_keep_1 : decode cX0_keep 1 = .ok (.getfield 23, 3) := by decide +kernel
theorem dX0_keep_4 : decode cX0_keep 4 = .ok (.sipush 1000, 3) := by decide +kernel
theorem dX0_keep_7 : decode cX0_keep 7 = .ok (.if_icmp .ge 33, 3) := by decide +kernel
theorem dX0_keep_10 : decode cX0_keep 10 = .ok (.aload_n 0, 1) := by decide +kernel
theorem dX0_keep_11 : decode cX0_keep 11 = .ok (.getfield 13, 3) := by decide +kernel
theorem dX0_keep_14 : decode cX0_keep 14 = .ok (.aload_n 0, 1) := by decide +kernel
theorem dX0_keep_15 : decode cX0_keep 15 = .ok (.getfield 23, 3) := by decide +kernel
theorem dX0_keep_18 : decode cX0_keep 18 = .ok (.iload_n 1, 1) := by decide +kernel
theorem dX0_keep_19 : decode cX0_keep 19 = .ok (.iastore, 1) := by decide +kernel
theorem dX0_keep_20 : decode cX0_keep 20 = .ok (.aload_n 0, 1) := by decide +kernel
theorem dX0_keep_21 : decode cX0_keep 21 = .ok (.getfield 16, 3) := by decide +kernel
theorem dX0_keep_24 : decode cX0_keep 24 = .ok (.aload_n 0, 1) := by decide +kernel
theorem dX0_keep_25 : decode cX0_keep 25 = .ok (.getfield 23, 3) := by decide +kernel
theorem dX0_keep_28 : decode cX0_keep 28 = .ok (.iload_n 2, 1) := by decide +kernel
theorem dX0_keep_29 : decode cX0_keep 29 = .ok (.iastore, 1) := by decide +kernel
theorem dX0_keep_30 : decode cX0_keep 30 = .ok (.aload_n 0, 1) := by decide +kernel
theorem dX0_keep_31 : decode cX0_keep 31 = .ok (.dup, 1) := by decide +kernel
theorem dX0_keep_32 : decode cX0_keep 32 = .ok (.getfield 23, 3) := by decide +kernel
theorem dX0_keep_35 : decode cX0_keep 35 = .ok (.iconst 1, 1) := by decide +kernel
theorem dX0_keep_36 : decode cX0_keep 36 = .ok (.iadd, 1) := by decide +kernel
theorem dX0_keep_37 : decode cX0_keep 37 = .ok (.putfield 23, 3) := by decide +kernel
theorem dX0_keep_40 : decode cX0_keep 40 = .ok (.return_, 1) := by decide +kernel
set_option maxRecDepth 20000 in
theorem ggX0_decodedAt_X0_followersOf : GoodIn wsX0_decodedAt wsX0_followersOf := goodIn_r _ [6] (by decide +kernel) (by decide +kernel)
set_option maxRecDepth 20000 in
theorem gX0_decodedAt_X0_followersOf : GoodIn wsX0_decodedAt (va_wsS RX0 101 yX0_followersOf wsX0_followersOf) := goodIn_app (goodIn_of _ (by decide +kernel)) ggX0_decodedAt_X0_followersOf
set_option maxRecDepth 20000 in
theorem ggX0_decodedAt_X0_widthOf : GoodIn wsX0_decodedAt wsX0_widthOf := goodIn_r _ [9, 10, 11, 12, 13] (by decide +kernel) (by decide +kernel)
set_option maxRecDepth 20000 in
theorem gX0_decodedAt_X0_widthOf : GoodIn wsX0_decodedAt (va_wsS RX0 40 yX0_widthOf wsX0_widthOf) := goodIn_app (goodIn_of _ (by decide +kernel)) ggX0_decodedAt_X0_widthOf
theorem dX0_decodedAt_0 : decode cX0_decodedAt 0 = .ok (.aload_n 0, 1) := by decide +kernel
theorem dX0_decodedAt_1 : decode cX0_decodedAt 1 = .ok (.getfield 9, 3) := by decide +kernel
theorem dX0_decodedAt_4 : decode cX0_decodedAt 4 = .ok (.iload_n 1, 1) := by decide +kernel
theorem dX0_decodedAt_5 : decode cX0_decodedAt 5 = .ok (.iaload, 1) := by decide +kernel
theorem dX0_decodedAt_6 : decode cX0_decodedAt 6 = .ok (.istore_n 2, 1) := by decide +kernel
theorem dX0_decodedAt_7 : decode cX0_decodedAt 7 = .ok (.iload_n 2, 1) := by decide +kernel
theorem dX0_decodedAt_8 : decode cX0_decodedAt 8 = .ok (.invokestatic 101, 3) := by decide +kernel
theorem dX0_decodedAt_11 : decode cX0_decodedAt 11 = .ok (.istore_n 3, 1) := by decide +kernel
theorem dX0_decodedAt_12 : decode cX0_decodedAt 12 = .ok (.iload_n 3, 1) := by decide +kernel
theorem dX0_decodedAt_13 : decode cX0_decodedAt 13 = .ok (.ifCond .lt 13, 3) := by decide +kernel
theorem dX0_decodedAt_16 : decode cX0_decodedAt 16 = .ok (.iload_n 1, 1) := by decide +kernel
theorem dX0_decodedAt_17 : decode cX0_decodedAt 17 = .ok (.iload_n 3, 1) := by decide +kernel
theorem dX0_decodedAt_18 : decode cX0_decodedAt 18 = .ok (.iadd, 1) := by decide +kernel
theorem dX0_decodedAt_19 : decode cX0_decodedAt 19 = .ok (.aload_n 0, 1) := by decide +kernel
theorem dX0_decodedAt_20 : decode cX0_decodedAt 20 = .ok (.getfield 19, 3) := by decide +kernel
theorem dX0_decodedAt_23 : decode cX0_decodedAt 23 = .ok (.if_icmp .lt 5, 3) := by decide +kernel
theorem dX0_decodedAt_26 : decode cX0_decodedAt 26 = .ok (.iconst (-1), 1) := by decide +kernel
theorem dX0_decodedAt_27 : decode cX0_decodedAt 27 = .ok (.ireturn, 1) := by decide +kernel
theorem dX0_decodedAt_28 : decode cX0_decodedAt 28 = .ok (.iload_n 3, 1) := by decide +kernel
theorem dX0_decodedAt_29 : decode cX0_decodedAt 29 = .ok (.ifCond .ne 7, 3) := by decide +kernel
theorem dX0_decodedAt_32 : decode cX0_decodedAt 32 = .ok (.iload_n 2, 1) := by decide +kernel
theorem dX0_decodedAt_33 : decode cX0_decodedAt 33 = .ok (.goto 9, 3) := by decide +kernel
theorem dX0_decodedAt_36 : decode cX0_decodedAt 36 = .ok (.iload_n 2, 1) := by decide +kernel
theorem dX0_decodedAt_37 : decode cX0_decodedAt 37 = .ok (.bipush 63, 2) := by decide +kernel
theorem dX0_decodedAt_39 : decode cX0_decodedAt 39 = .ok (.iload_n 3, 1) := by decide +kernel
theorem dX0_decodedAt_40 : decode cX0_decodedAt 40 = .ok (.ishr, 1) := by decide +kernel
theorem dX0_decodedAt_41 : decode cX0_decodedAt 41 = .ok (.iand, 1) := by decide +kernel
theorem dX0_decodedAt_42 : decode cX0_decodedAt 42 = .ok (.istore 4, 2) := by decide +kernel
theorem dX0_decodedAt_44 : decode cX0_decodedAt 44 = .ok (.iconst 1, 1) := by decide +kernel
theorem dX0_decodedAt_45 : decode cX0_decodedAt 45 = .ok (.istore 5, 2) := by decide +kernel
theorem dX0_decodedAt_47 : decode cX0_decodedAt 47 = .ok (.iload 5, 2) := by decide +kernel
theorem dX0_decodedAt_49 : decode cX0_decodedAt 49 = .ok (.iload_n 3, 1) := by decide +kernel
theorem dX0_decodedAt_50 : decode cX0_decodedAt 50 = .ok (.if_icmp .gt 47, 3) := by decide +kernel
theorem dX0_decodedAt_53 : decode cX0_decodedAt 53 = .ok (.aload_n 0, 1) := by decide +kernel
theorem dX0_decodedAt_54 : decode cX0_decodedAt 54 = .ok (.getfield 9, 3) := by decide +kernel
theorem dX0_decodedAt_57 : decode cX0_decodedAt 57 = .ok (.iload_n 1, 1) := by decide +kernel
theorem dX0_decodedAt_58 : decode cX0_decodedAt 58 = .ok (.iload 5, 2) := by decide +kernel
theorem dX0_decodedAt_60 : decode cX0_decodedAt 60 = .ok (.iadd, 1) := by decide +kernel
theorem dX0_decodedAt_61 : decode cX0_decodedAt 61 = .ok (.iaload, 1) := by decide +kernel
theorem dX0_decodedAt_62 : decode cX0_decodedAt 62 = .ok (.istore 6, 2) := by decide +kernel
theorem dX0_decodedAt_64 : decode cX0_decodedAt 64 = .ok (.iload 6, 2) := by decide +kernel
theorem dX0_decodedAt_66 : decode cX0_decodedAt 66 = .ok (.sipush 192, 3) := by decide +kernel
theorem dX0_decodedAt_69 : decode cX0_decodedAt 69 = .ok (.iand, 1) := by decide +kernel
theorem dX0_decodedAt_70 : decode cX0_decodedAt 70 = .ok (.sipush 128, 3) := by decide +kernel
theorem dX0_decodedAt_73 : decode cX0_decodedAt 73 = .ok (.if_icmp .eq 5, 3) := by decide +kernel
theorem dX0_decodedAt_76 : decode cX0_decodedAt 76 = .ok (.iconst (-1), 1) := by decide +kernel
theorem dX0_decodedAt_77 : decode cX0_decodedAt 77 = .ok (.ireturn, 1) := by decide +kernel
theorem dX0_decodedAt_78 : decode cX0_decodedAt 78 = .ok (.iload 4, 2) := by decide +kernel
theorem dX0_decodedAt_80 : decode cX0_decodedAt 80 = .ok (.bipush 6, 2) := by decide +kernel
theorem dX0_decodedAt_82 : decode cX0_decodedAt 82 = .ok (.ishl, 1) := by decide +kernel
theorem dX0_decodedAt_83 : decode cX0_decodedAt 83 = .ok (.iload 6, 2) := by decide +kernel
theorem dX0_decodedAt_85 : decode cX0_decodedAt 85 = .ok (.bipush 63, 2) := by decide +kernel
theorem dX0_decodedAt_87 : decode cX0_decodedAt 87 = .ok (.iand, 1) := by decide +kernel
theorem dX0_decodedAt_88 : decode cX0_decodedAt 88 = .ok (.ior, 1) := by decide +kernel
theorem dX0_decodedAt_89 : decode cX0_decodedAt 89 = .ok (.istore 4, 2) := by decide +kernel
theorem dX0_decodedAt_91 : decode cX0_decodedAt 91 = .ok (.iinc 5 1, 3) := by decide +kernel
theorem dX0_decodedAt_94 : decode cX0_decodedAt 94 = .ok (.goto (-47), 3) := by decide +kernel
theorem dX0_decodedAt_97 : decode cX0_decodedAt 97 = .ok (.iload 4, 2) := by decide +kernel
theorem dX0_decodedAt_99 : decode cX0_decodedAt 99 = .ok (.invokestatic 40, 3) := by decide +kernel
theorem dX0_decodedAt_102 : decode cX0_decodedAt 102 = .ok (.iload_n 3, 1) := by decide +kernel
theorem dX0_decodedAt_103 : decode cX0_decodedAt 103 = .ok (.iconst 1, 1) := by decide +kernel
theorem dX0_decodedAt_104 : decode cX0_decodedAt 104 = .ok (.iadd, 1) := by decide +kernel
theorem dX0_decodedAt_105 : decode cX0_decodedAt 105 = .ok (.if_icmp .ne 8, 3) := by decide +kernel
theorem dX0_decodedAt_108 : decode cX0_decodedAt 108 = .ok (.iload 4, 2) := by decide +kernel
theorem dX0_decodedAt_110 : decode cX0_decodedAt 110 = .ok (.goto 4, 3) := by decide +kernel
theorem dX0_decodedAt_113 : decode cX0_decodedAt 113 = .ok (.iconst (-1), 1) := by decide +kernel
theorem dX0_decodedAt_114 : decode cX0_decodedAt 114 = .ok (.ireturn, 1) := by decide +kernel
theorem dX0_followersOf_0 : decode cX0_followersOf 0 = .ok (.iload_n 0, 1) := by decide +kernel
theorem dX0_followersOf_1 : decode cX0_followersOf 1 = .ok (.sipush 128, 3) := by decide +kernel
theorem dX0_followersOf_4 : decode cX0_followersOf 4 = .ok (.if_icmp .ge 5, 3) := by decide +kernel
theorem dX0_followersOf_7 : decode cX0_followersOf 7 = .ok (.iconst 0, 1) := by decide +kernel
theorem dX0_followersOf_8 : decode cX0_followersOf 8 = .ok (.ireturn, 1) := by decide +kernel
theorem dX0_followersOf_9 : decode cX0_followersOf 9 = .ok (.iload_n 0, 1) := by decide +kernel
theorem dX0_followersOf_10 : decode cX0_followersOf 10 = .ok (.sipush 224, 3) := by decide +kernel
theorem dX0_followersOf_13 : decode cX0_followersOf 13 = .ok (.iand, 1) := by decide +kernel
theorem dX0_followersOf_14 : decode cX0_followersOf 14 = .ok (.sipush 192, 3) := by decide +kernel
theorem dX0_followersOf_17 : decode cX0_followersOf 17 = .ok (.if_icmp .ne 5, 3) := by decide +kernel
theorem dX0_followersOf_20 : decode cX0_followersOf 20 = .ok (.iconst 1, 1) := by decide +kernel
theorem dX0_followersOf_21 : decode cX0_followersOf 21 = .ok (.ireturn, 1) := by decide +kernel
theorem dX0_followersOf_22 : decode cX0_followersOf 22 = .ok (.iload_n 0, 1) := by decide +kernel
theorem dX0_followersOf_23 : decode cX0_followersOf 23 = .ok (.sipush 240, 3) := by decide +kernel
theorem dX0_followersOf_26 : decode cX0_followersOf 26 = .ok (.iand, 1) := by decide +kernel
theorem dX0_followersOf_27 : decode cX0_followersOf 27 = .ok (.sipush 224, 3) := by decide +kernel
theorem dX0_followersOf_30 : decode cX0_followersOf 30 = .ok (.if_icmp .ne 5, 3) := by decide +kernel
theorem dX0_followersOf_33 : decode cX0_followersOf 33 = .ok (.iconst 2, 1) := by decide +kernel
theorem dX0_followersOf_34 : decode cX0_followersOf 34 = .ok (.ireturn, 1) := by decide +kernel
theorem dX0_followersOf_35 : decode cX0_followersOf 35 = .ok (.iload_n 0, 1) := by decide +kernel
theorem dX0_followersOf_36 : decode cX0_followersOf 36 = .ok (.sipush 248, 3) := by decide +kernel
theorem dX0_followersOf_39 : decode cX0_followersOf 39 = .ok (.iand, 1) := by decide +kernel
theorem dX0_followersOf_40 : decode cX0_followersOf 40 = .ok (.sipush 240, 3) := by decide +kernel
theorem dX0_followersOf_43 : decode cX0_followersOf 43 = .ok (.if_icmp .ne 7, 3) := by decide +kernel
theorem dX0_followersOf_46 : decode cX0_followersOf 46 = .ok (.iconst 3, 1) := by decide +kernel
theorem dX0_followersOf_47 : decode cX0_followersOf 47 = .ok (.goto 4, 3) := by decide +kernel
theorem dX0_followersOf_50 : decode cX0_followersOf 50 = .ok (.iconst (-1), 1) := by decide +kernel
theorem dX0_followersOf_51 : decode cX0_followersOf 51 = .ok (.ireturn, 1) := by decide +kernel
theorem dX0_widthOf_0 : decode cX0_widthOf 0 = .ok (.iload_n 0, 1) := by decide +kernel
theorem dX0_widthOf_1 : decode cX0_widthOf 1 = .ok (.ifCond .lt 21, 3) := by decide +kernel
theorem dX0_widthOf_4 : decode cX0_widthOf 4 = .ok (.iload_n 0, 1) := by decide +kernel
theorem dX0_widthOf_5 : decode cX0_widthOf 5 = .ok (.ldc 104, 2) := by decide +kernel
theorem dX0_widthOf_7 : decode cX0_widthOf 7 = .ok (.if_icmp .gt 15, 3) := by decide +kernel
theorem dX0_widthOf_10 : decode cX0_widthOf 10 = .ok (.iload_n 0, 1) := by decide +kernel
theorem dX0_widthOf_11 : decode cX0_widthOf 11 = .ok (.ldc 105, 2) := by decide +kernel
theorem dX0_widthOf_13 : decode cX0_widthOf 13 = .ok (.if_icmp .lt 11, 3) := by decide +kernel
theorem dX0_widthOf_16 : decode cX0_widthOf 16 = .ok (.iload_n 0, 1) := by decide +kernel
theorem dX0_widthOf_17 : decode cX0_widthOf 17 = .ok (.ldc 106, 2) := by decide +kernel
theorem dX0_widthOf_19 : decode cX0_widthOf 19 = .ok (.if_icmp .gt 5, 3) := by decide +kernel
theorem dX0_widthOf_22 : decode cX0_widthOf 22 = .ok (.iconst 0, 1) := by decide +kernel
theorem dX0_widthOf_23 : decode cX0_widthOf 23 = .ok (.ireturn, 1) := by decide +kernel
theorem dX0_widthOf_24 : decode cX0_widthOf 24 = .ok (.iload_n 0, 1) := by decide +kernel
theorem dX0_widthOf_25 : decode cX0_widthOf 25 = .ok (.bipush 127, 2) := by decide +kernel
theorem dX0_widthOf_27 : decode cX0_widthOf 27 = .ok (.if_icmp .gt 5, 3) := by decide +kernel
theorem dX0_widthOf_30 : decode cX0_widthOf 30 = .ok (.iconst 1, 1) := by decide +kernel
theorem dX0_widthOf_31 : decode cX0_widthOf 31 = .ok (.ireturn, 1) := by decide +kernel
theorem dX0_widthOf_32 : decode cX0_widthOf 32 = .ok (.iload_n 0, 1) := by decide +kernel
theorem dX0_widthOf_33 : decode cX0_widthOf 33 = .ok (.sipush 2047, 3) := by decide +kernel
theorem dX0_widthOf_36 : decode cX0_widthOf 36 = .ok (.if_icmp .gt 5, 3) := by decide +kernel
theorem dX0_widthOf_39 : decode cX0_widthOf 39 = .ok (.iconst 2, 1) := by decide +kernel
theorem dX0_widthOf_40 : decode cX0_widthOf 40 = .ok (.ireturn, 1) := by decide +kernel
theorem dX0_widthOf_41 : decode cX0_widthOf 41 = .ok (.iload_n 0, 1) := by decide +kernel
theorem dX0_widthOf_42 : decode cX0_widthOf 42 = .ok (.ldc 107, 2) := by decide +kernel
theorem dX0_widthOf_44 : decode cX0_widthOf 44 = .ok (.if_icmp .gt 7, 3) := by decide +kernel
theorem dX0_widthOf_47 : decode cX0_widthOf 47 = .ok (.iconst 3, 1) := by decide +kernel
theorem dX0_widthOf_48 : decode cX0_widthOf 48 = .ok (.goto 4, 3) := by decide +kernel
theorem dX0_widthOf_51 : decode cX0_widthOf 51 = .ok (.iconst 4, 1) := by decide +kernel
theorem dX0_widthOf_52 : decode cX0_widthOf 52 = .ok (.ireturn, 1) := by decide +kernel
set_option maxRecDepth 20000 in
theorem ggX0_encodedByte_X0_firstByteMark : GoodIn wsX0_encodedByte wsX0_firstByteMark := goodIn_r _ [4] (by decide +kernel) (by decide +kernel)
set_option maxRecDepth 20000 in
theorem gX0_encodedByte_X0_firstByteMark : GoodIn wsX0_encodedByte (va_wsS RX0 108 yX0_firstByteMark wsX0_firstByteMark) := goodIn_app (goodIn_of _ (by decide +kernel)) ggX0_encodedByte_X0_firstByteMark
theorem dX0_encodedByte_0 : decode cX0_encodedByte 0 = .ok (.iload_n 0, 1) := by decide +kernel
theorem dX0_encodedByte_1 : decode cX0_encodedByte 1 = .ok (.bipush 6, 2) := by decide +kernel
theorem dX0_encodedByte_3 : decode cX0_encodedByte 3 = .ok (.iload_n 1, 1) := by decide +kernel
theorem dX0_encodedByte_4 : decode cX0_encodedByte 4 = .ok (.iconst 1, 1) := by decide +kernel
theorem dX0_encodedByte_5 : decode cX0_encodedByte 5 = .ok (.isub, 1) := by decide +kernel
theorem dX0_encodedByte_6 : decode cX0_encodedByte 6 = .ok (.iload_n 2, 1) := by decide +kernel
theorem dX0_encodedByte_7 : decode cX0_encodedByte 7 = .ok (.isub, 1) := by decide +kernel
theorem dX0_encodedByte_8 : decode cX0_encodedByte 8 = .ok (.imul, 1) := by decide +kernel
theorem dX0_encodedByte_9 : decode cX0_encodedByte 9 = .ok (.ishr, 1) := by decide +kernel
theorem dX0_encodedByte_10 : decode cX0_encodedByte 10 = .ok (.istore_n 3, 1) := by decide +kernel
theorem dX0_encodedByte_11 : decode cX0_encodedByte 11 = .ok (.iload_n 2, 1) := by decide +kernel
theorem dX0_encodedByte_12 : decode cX0_encodedByte 12 = .ok (.ifCond .le 12, 3) := by decide +kernel
theorem dX0_encodedByte_15 : decode cX0_encodedByte 15 = .ok (.sipush 128, 3) := by decide +kernel
theorem dX0_encodedByte_18 : decode cX0_encodedByte 18 = .ok (.iload_n 3, 1) := by decide +kernel
theorem dX0_encodedByte_19 : decode cX0_encodedByte 19 = .ok (.bipush 63, 2) := by decide +kernel
theorem dX0_encodedByte_21 : decode cX0_encodedByte 21 = .ok (.iand, 1) := by decide +kernel
theorem dX0_encodedByte_22 : decode cX0_encodedByte 22 = .ok (.ior, 1) := by decide +kernel
theorem dX0_encodedByte_23 : decode cX0_encodedByte 23 = .ok (.ireturn, 1) := by decide +kernel
theorem dX0_encodedByte_24 : decode cX0_encodedByte 24 = .ok (.iload_n 1, 1) := by decide +kernel
theorem dX0_encodedByte_25 : decode cX0_encodedByte 25 = .ok (.invokestatic 108, 3) := by decide +kernel
theorem dX0_encodedByte_28 : decode cX0_encodedByte 28 = .ok (.iload_n 3, 1) := by decide +kernel
theorem dX0_encodedByte_29 : decode cX0_encodedByte 29 = .ok (.ior, 1) := by decide +kernel
theorem dX0_encodedByte_30 : decode cX0_encodedByte 30 = .ok (.ireturn, 1) := by decide +kernel
theorem dX0_firstByteMark_0 : decode cX0_firstByteMark 0 = .ok (.iload_n 0, 1) := by decide +kernel
theorem dX0_firstByteMark_1 : decode cX0_firstByteMark 1 = .ok (.tableswitch 39 2 4 #[27, 31, 35], 27) := by decide +kernel
theorem dX0_firstByteMark_28 : decode cX0_firstByteMark 28 = .ok (.sipush 192, 3) := by decide +kernel
theorem dX0_firstByteMark_31 : decode cX0_firstByteMark 31 = .ok (.ireturn, 1) := by decide +kernel
theorem dX0_firstByteMark_32 : decode cX0_firstByteMark 32 = .ok (.sipush 224, 3) := by decide +kernel
theorem dX0_firstByteMark_35 : decode cX0_firstByteMark 35 = .ok (.ireturn, 1) := by decide +kernel
theorem dX0_firstByteMark_36 : decode cX0_firstByteMark 36 = .ok (.sipush 240, 3) := by decide +kernel
theorem dX0_firstByteMark_39 : decode cX0_firstByteMark 39 = .ok (.ireturn, 1) := by decide +kernel
theorem dX0_firstByteMark_40 : decode cX0_firstByteMark 40 = .ok (.iconst 0, 1) := by decide +kernel
theorem dX0_firstByteMark_41 : decode cX0_firstByteMark 41 = .ok (.ireturn, 1) := by decide +kernel
theorem dX0_hasCharacter_0 : decode cX0_hasCharacter 0 = .ok (.iload_n 1, 1) := by decide +kernel
theorem dX0_hasCharacter_1 : decode cX0_hasCharacter 1 = .ok (.ifCond .lt 15, 3) := by decide +kernel
theorem dX0_hasCharacter_4 : decode cX0_hasCharacter 4 = .ok (.iload_n 1, 1) := by decide +kernel
theorem dX0_hasCharacter_5 : decode cX0_hasCharacter 5 = .ok (.aload_n 0, 1) := by decide +kernel
theorem dX0_hasCharacter_6 : decode cX0_hasCharacter 6 = .ok (.getfield 23, 3) := by decide +kernel
theorem dX0_hasCharacter_9 : decode cX0_hasCharacter 9 = .ok (.if_icmp .ge 7, 3) := by decide +kernel
theorem dX0_hasCharacter_12 : decode cX0_hasCharacter 12 = .ok (.iconst 1, 1) := by decide +kernel
theorem dX0_hasCharacter_13 : decode cX0_hasCharacter 13 = .ok (.goto 4, 3) := by decide +kernel
theorem dX0_hasCharacter_16 : decode cX0_hasCharacter 16 = .ok (.iconst 0, 1) := by decide +kernel
theorem dX0_hasCharacter_17 : decode cX0_hasCharacter 17 = .ok (.ireturn, 1) := by decide +kernel
theorem dX0_hasStretch_0 : decode cX0_hasStretch 0 = .ok (.aload_n 0, 1) := by decide +kernel
theorem dX0_hasStretch_1 : decode cX0_hasStretch 1 = .ok (.getfield 26, 3) := by decide +kernel
theorem dX0_hasStretch_4 : decode cX0_hasStretch 4 = .ok (.iconst (-1), 1) := by decide +kernel
theorem dX0_hasStretch_5 : decode cX0_hasStretch 5 = .ok (.if_icmp .eq 25, 3) := by decide +kernel
theorem dX0_hasStretch_8 : decode cX0_hasStretch 8 = .ok (.iload_n 2, 1) := by decide +kernel
theorem dX0_hasStretch_9 : decode cX0_hasStretch 9 = .ok (.ifCond .lt 21, 3) := by decide +kernel
theorem dX0_hasStretch_12 : decode cX0_hasStretch 12 = .ok (.iload_n 1, 1) := by decide +kernel
theorem dX0_hasStretch_13 : decode cX0_hasStretch 13 = .ok (.ifCond .lt 17, 3) := by decide +kernel
theorem dX0_hasStretch_16 : decode cX0_hasStretch 16 = .ok (.iload_n 1, 1) := by decide +kernel
theorem dX0_hasStretch_17 : decode cX0_hasStretch 17 = .ok (.aload_n 0, 1) := by decide +kernel
theorem dX0_hasStretch_18 : decode cX0_hasStretch 18 = .ok (.getfield 23, 3) := by decide +kernel
theorem dX0_hasStretch_21 : decode cX0_hasStretch 21 = .ok (.iload_n 2, 1) := by decide +kernel
theorem dX0_hasStretch_22 : decode cX0_hasStretch 22 = .ok (.isub, 1) := by decide +kernel
theorem dX0_hasStretch_23 : decode cX0_hasStretch 23 = .ok (.if_icmp .gt 7, 3) := by decide +kernel
theorem dX0_hasStretch_26 : decode cX0_hasStretch 26 = .ok (.iconst 1, 1) := by decide +kernel
theorem dX0_hasStretch_27 : decode cX0_hasStretch 27 = .ok (.goto 4, 3) := by decide +kernel
theorem dX0_hasStretch_30 : decode cX0_hasStretch 30 = .ok (.iconst 0, 1) := by decide +kernel
theorem dX0_hasStretch_31 : decode cX0_hasStretch 31 = .ok (.ireturn, 1) := by decide +kernel
set_option maxRecDepth 20000 in
theorem ggX0_belongsToRun_X0_isNamePart : GoodIn wsX0_belongsToRun wsX0_isNamePart := goodIn_r _ [5, 6, 7, 8, 9, 4, 10] (by decide +kernel) (by decide +kernel)
set_option maxRecDepth 20000 in
theorem gX0_belongsToRun_X0_isNamePart : GoodIn wsX0_belongsToRun (va_wsS RX0 71 yX0_isNamePart wsX0_isNamePart) := goodIn_app (goodIn_of _ (by decide +kernel)) ggX0_belongsToRun_X0_isNamePart
set_option maxRecDepth 20000 in
theorem ggX0_belongsToRun_X0_isIn : GoodIn wsX0_belongsToRun wsX0_isIn := goodIn_r _ [10] (by decide +kernel) (by decide +kernel)
set_option maxRecDepth 20000 in
theorem gX0_belongsToRun_X0_isIn : GoodIn wsX0_belongsToRun (va_wsS RX0 61 yX0_isIn wsX0_isIn) := goodIn_app (goodIn_of _ (by decide +kernel)) ggX0_belongsToRun_X0_isIn
theorem dX0_belongsToRun_0 : decode cX0_belongsToRun 0 = .ok (.iload_n 0, 1) := by decide +kernel
theorem dX0_belongsToRun_1 : decode cX0_belongsToRun 1 = .ok (.tableswitch 40 0 2 #[27, 27, 32], 27) := by decide +kernel
theorem dX0_belongsToRun_28 : decode cX0_belongsToRun 28 = .ok (.iload_n 1, 1) := by decide +kernel
theorem dX0_belongsToRun_29 : decode cX0_belongsToRun 29 = .ok (.invokestatic 71, 3) := by decide +kernel
theorem dX0_belongsToRun_32 : decode cX0_belongsToRun 32 = .ok (.ireturn, 1) := by decide +kernel
theorem dX0_belongsToRun_33 : decode cX0_belongsToRun 33 = .ok (.getstatic 65, 3) := by decide +kernel
theorem dX0_belongsToRun_36 : decode cX0_belongsToRun 36 = .ok (.iload_n 1, 1) := by decide +kernel
theorem dX0_belongsToRun_37 : decode cX0_belongsToRun 37 = .ok (.invokestatic 61, 3) := by decide +kernel
theorem dX0_belongsToRun_40 : decode cX0_belongsToRun 40 = .ok (.ireturn, 1) := by decide +kernel
theorem dX0_belongsToRun_41 : decode cX0_belongsToRun 41 = .ok (.iconst 0, 1) := by decide +kernel
theorem dX0_belongsToRun_42 : decode cX0_belongsToRun 42 = .ok (.ireturn, 1) := by decide +kernel
set_option maxRecDepth 20000 in
theorem ggX0_isNamePart_X0_isIn : GoodIn wsX0_isNamePart wsX0_isIn := goodIn_r _ [6] (by decide +kernel) (by decide +kernel)
set_option maxRecDepth 20000 in
theorem gX0_isNamePart_X0_isIn : GoodIn wsX0_isNamePart (va_wsS RX0 61 yX0_isIn wsX0_isIn) := goodIn_app (goodIn_of _ (by decide +kernel)) ggX0_isNamePart_X0_isIn
theorem dX0_isNamePart_0 : decode cX0_isNamePart 0 = .ok (.getstatic 68, 3) := by decide +kernel
theorem dX0_isNamePart_3 : decode cX0_isNamePart 3 = .ok (.iload_n 0, 1) := by decide +kernel
theorem dX0_isNamePart_4 : decode cX0_isNamePart 4 = .ok (.invokestatic 61, 3) := by decide +kernel
theorem dX0_isNamePart_7 : decode cX0_isNamePart 7 = .ok (.ifCond .ne 13, 3) := by decide +kernel
theorem dX0_isNamePart_10 : decode cX0_isNamePart 10 = .ok (.getstatic 111, 3) := by decide +kernel
theorem dX0_isNamePart_13 : decode cX0_isNamePart 13 = .ok (.iload_n 0, 1) := by decide +kernel
theorem dX0_isNamePart_14 : decode cX0_isNamePart 14 = .ok (.invokestatic 61, 3) := by decide +kernel
theorem dX0_isNamePart_17 : decode cX0_isNamePart 17 = .ok (.ifCond .eq 7, 3) := by decide +kernel
theorem dX0_isNamePart_20 : decode cX0_isNamePart 20 = .ok (.iconst 1, 1) := by decide +kernel
theorem dX0_isNamePart_21 : decode cX0_isNamePart 21 = .ok (.goto 4, 3) := by decide +kernel
theorem dX0_isNamePart_24 : decode cX0_isNamePart 24 = .ok (.iconst 0, 1) := by decide +kernel
theorem dX0_isNamePart_25 : decode cX0_isNamePart 25 = .ok (.ireturn, 1) := by decide +kernel
theorem dX0_isIn_0 : decode cX0_isIn 0 = .ok (.iconst 0, 1) := by decide +kernel
theorem dX0_isIn_1 : decode cX0_isIn 1 = .ok (.istore_n 2, 1) := by decide +kernel
theorem dX0_isIn_2 : decode cX0_isIn 2 = .ok (.iload_n 2, 1) := by decide +kernel
theorem dX0_isIn_3 : decode cX0_isIn 3 = .ok (.iconst 1, 1) := by decide +kernel
theorem dX0_isIn_4 : decode cX0_isIn 4 = .ok (.iadd, 1) := by decide +kernel
theorem dX0_isIn_5 : decode cX0_isIn 5 = .ok (.aload_n 0, 1) := by decide +kernel
theorem dX0_isIn_6 : decode cX0_isIn 6 = .ok (.arraylength, 1) := by decide +kernel
theorem dX0_isIn_7 : decode cX0_isIn 7 = .ok (.if_icmp .ge 27, 3) := by decide +kernel
theorem dX0_isIn_10 : decode cX0_isIn 10 = .ok (.iload_n 1, 1) := by decide +kernel
theorem dX0_isIn_11 : decode cX0_isIn 11 = .ok (.aload_n 0, 1) := by decide +kernel
theorem dX0_isIn_12 : decode cX0_isIn 12 = .ok (.iload_n 2, 1) := by decide +kernel
theorem dX0_isIn_13 : decode cX0_isIn 13 = .ok (.iaload, 1) := by decide +kernel
theorem dX0_isIn_14 : decode cX0_isIn 14 = .ok (.if_icmp .lt 14, 3) := by decide +kernel
theorem dX0_isIn_17 : decode cX0_isIn 17 = .ok (.iload_n 1, 1) := by decide +kernel
theorem dX0_isIn_18 : decode cX0_isIn 18 = .ok (.aload_n 0, 1) := by decide +kernel
theorem dX0_isIn_19 : decode cX0_isIn 19 = .ok (.iload_n 2, 1) := by decide +kernel
theorem dX0_isIn_20 : decode cX0_isIn 20 = .ok (.iconst 1, 1) := by decide +kernel
theorem dX0_isIn_21 : decode cX0_isIn 21 = .ok (.iadd, 1) := by decide +kernel
theorem dX0_isIn_22 : decode cX0_isIn 22 = .ok (.iaload, 1) := by decide +kernel
theorem dX0_isIn_23 : decode cX0_isIn 23 = .ok (.if_icmp .gt 5, 3) := by decide +kernel
theorem dX0_isIn_26 : decode cX0_isIn 26 = .ok (.iconst 1, 1) := by decide +kernel
theorem dX0_isIn_27 : decode cX0_isIn 27 = .ok (.ireturn, 1) := by decide +kernel
theorem dX0_isIn_28 : decode cX0_isIn 28 = .ok (.iinc 2 2, 3) := by decide +kernel
theorem dX0_isIn_31 : decode cX0_isIn 31 = .ok (.goto (-29), 3) := by decide +kernel
theorem dX0_isIn_34 : decode cX0_isIn 34 = .ok (.iconst 0, 1) := by decide +kernel
theorem dX0_isIn_35 : decode cX0_isIn 35 = .ok (.ireturn, 1) := by decide +kernel
theorem dX1_init_0 : decode cX1_init 0 = .ok (.aload_n 0, 1) := by decide +kernel
theorem dX1_init_1 : decode cX1_init 1 = .ok (.invokespecial 1, 3) := by decide +kernel
theorem dX1_init_4 : decode cX1_init 4 = .ok (.aload_n 0, 1) := by decide +kernel
theorem dX1_init_5 : decode cX1_init 5 = .ok (.sipush 1000, 3) := by decide +kernel
theorem dX1_init_8 : decode cX1_init 8 = .ok (.newarray .int, 2) := by decide +kernel
theorem dX1_init_10 : decode cX1_init 10 = .ok (.putfield 7, 3) := by decide +kernel
theorem dX1_init_13 : decode cX1_init 13 = .ok (.aload_n 0, 1) := by decide +kernel
theorem dX1_init_14 : decode cX1_init 14 = .ok (.sipush 1000, 3) := by decide +kernel
theorem dX1_init_17 : decode cX1_init 17 = .ok (.newarray .int, 2) := by decide +kernel
theorem dX1_init_19 : decode cX1_init 19 = .ok (.putfield 13, 3) := by decide +kernel
theorem dX1_init_22 : decode cX1_init 22 = .ok (.aload_n 0, 1) := by decide +kernel
theorem dX1_init_23 : decode cX1_init 23 = .ok (.iconst (-1), 1) := by decide +kernel
theorem dX1_init_24 : decode cX1_init 24 = .ok (.putfield 16, 3) := by decide +kernel
theorem dX1_init_27 : decode cX1_init 27 = .ok (.return_, 1) := by decide +kernel
theorem dX1_put_0 : decode cX1_put 0 = .ok (.iload_n 3, 1) := by decide +kernel
theorem dX1_put_1 : decode cX1_put 1 = .ok (.iconst 1, 1) := by decide +kernel
theorem dX1_put_2 : decode cX1_put 2 = .ok (.if_icmp .lt 21, 3) := by decide +kernel
theorem dX1_put_5 : decode cX1_put 5 = .ok (.iload_n 3, 1) := by decide +kernel
theorem dX1_put_6 : decode cX1_put 6 = .ok (.bipush 8, 2) := by decide +kernel
theorem dX1_put_8 : decode cX1_put 8 = .ok (.if_icmp .gt 15, 3) := by decide +kernel
theorem dX1_put_11 : decode cX1_put 11 = .ok (.aload_n 0, 1) := by decide +kernel
theorem dX1_put_12 : decode cX1_put 12 = .ok (.getfield 20, 3) := by decide +kernel
theorem dX1_put_15 : decode cX1_put 15 = .ok (.iload_n 3, 1) := by decide +kernel
theorem dX1_put_16 : decode cX1_put 16 = .ok (.iadd, 1) := by decide +kernel
theorem dX1_put_17 : decode cX1_put 17 = .ok (.sipush 1000, 3) := by decide +kernel
theorem dX1_put_20 : decode cX1_put 20 = .ok (.if_icmp .le 5, 3) := by decide +kernel
theorem dX1_put_23 : decode cX1_put 23 = .ok (.iconst 0, 1) := by decide +kernel
theorem dX1_put_24 : decode cX1_put 24 = .ok (.ireturn, 1) := by decide +kernel
theorem dX1_put_25 : decode cX1_put 25 = .ok (.iload_n 3, 1) := by decide +kernel
theorem dX1_put_26 : decode cX1_put 26 = .ok (.iconst 1, 1) := by decide +kernel
theorem dX1_put_27 : decode cX1_put 27 = .ok (.isub, 1) := by decide +kernel
theorem dX1_put_28 : decode cX1_put 28 = .ok (.istore 4, 2) := by decide +kernel
theorem dX1_put_30 : decode cX1_put 30 = .ok (.iload 4, 2) := by decide +kernel
theorem dX1_put_32 : decode cX1_put 32 = .ok (.ifCond .lt 40, 3) := by decide +kernel
theorem dX1_put_35 : decode cX1_put 35 = .ok (.aload_n 0, 1) := by decide +kernel
theorem dX1_put_36 : decode cX1_put 36 = .ok (.getfield 7, 3) := by decide +kernel
theorem dX1_put_39 : decode cX1_put 39 = .ok (.aload_n 0, 1) := by decide +kernel
theorem dX1_put_40 : decode cX1_put 40 = .ok (.getfield 20, 3) := by decide +kernel
theorem dX1_put_43 : decode cX1_put 43 = .ok (.lload_n 1, 1) := by decide +kernel
theorem dX1_put_44 : decode cX1_put 44 = .ok (.bipush 8, 2) := by decide +kernel
theorem dX1_put_46 : decode cX1_put 46 = .ok (.iload 4, 2) := by decide +kernel
theorem dX1_put_48 : decode cX1_put 48 = .ok (.imul, 1) := by decide +kernel
theorem dX1_put_49 : decode cX1_put 49 = .ok (.lshr, 1) := by decide +kernel
theorem dX1_put_50 : decode cX1_put 50 = .ok (.ldc2_w 23, 3) := by decide +kernel
theorem dX1_put_53 : decode cX1_put 53 = .ok (.land, 1) := by decide +kernel
theorem dX1_put_54 : decode cX1_put 54 = .ok (.l2i, 1) := by decide +kernel
theorem dX1_put_55 : decode cX1_put 55 = .ok (.iastore, 1) := by decide +kernel
theorem dX1_put_56 : decode cX1_put 56 = .ok (.aload_n 0, 1) := by decide +kernel
theorem dX1_put_57 : decode cX1_put 57 = .ok (.dup, 1) := by decide +kernel
theorem dX1_put_58 : decode cX1_put 58 = .ok (.getfield 20, 3) := by decide +kernel
theorem dX1_put_61 : decode cX1_put 61 = .ok (.iconst 1, 1) := by decide +kernel
theorem dX1_put_62 : decode cX1_put 62 = .ok (.iadd, 1) := by decide +kernel
theorem dX1_put_63 : decode cX1_put 63 = .ok (.putfield 20, 3) := by decide +kernel
theorem dX1_put_66 : decode cX1_put 66 = .ok (.iinc 4 (-1), 3) := by decide +kernel
theorem dX1_put_69 : decode cX1_put 69 = .ok (.goto (-39), 3) := by decide +kernel
theorem dX1_put_72 : decode cX1_put 72 = .ok (.iconst 1, 1) := by decide +kernel
theorem dX1_put_73 : decode cX1_put 73 = .ok (.ireturn, 1) := by decide +kernel
theorem dX1_has_0 : decode cX1_has 0 = .ok (.iload_n 0, 1) := by decide +kernel
